def bg : List Cond := lw_tbl.filter goodWord
theorem bg_t {w : Cond} (i : Nat) (h : tables_1[i]? = some w) (g : goodWord w = true) : w ∈ bg := List.mem_filter.mpr ⟨List.mem_append_right _ (List.mem_of_getElem? h), g⟩
theorem bg_tbl {w : Cond} (h : w ∈ bg) : w ∈ lw_tbl := (List.mem_filter.mp h).1
theorem bg_good {w : Cond} (h : w ∈ bg) : goodWord w = true := (List.mem_filter.mp h).2
theorem wn_X7 : Cond.initialized RX7 ∈ bg := bg_t 1 (by decide +kernel) (by decide +kernel)
theorem wn_X4 : Cond.initialized RX4 ∈ bg := bg_t 2 (by decide +kernel) (by decide +kernel)
theorem wn_X3 : Cond.initialized RX3 ∈ bg := bg_t 3 (by decide +kernel) (by decide +kernel)
theorem wn_X2 : Cond.initialized RX2 ∈ bg := bg_t 4 (by decide +kernel) (by decide +kernel)
theorem wn_X5 : Cond.initialized RX5 ∈ bg := bg_t 5 (by decide +kernel) (by decide +kernel)
theorem wn_X1 : Cond.initialized RX1 ∈ bg := bg_t 6 (by decide +kernel) (by decide +kernel)
theorem wn_X0 : Cond.initialized RX0 ∈ bg := bg_t 7 (by decide +kernel) (by decide +kernel)
theorem wn_X6 : Cond.initialized RX6 ∈ bg := bg_t 8 (by decide +kernel) (by decide +kernel)
theorem wn_X8 : Cond.initialized RX8 ∈ bg := bg_t 9 (by decide +kernel) (by decide +kernel)
theorem wk_L_7 : Cond.classLink RL 7 RX7 ∈ bg := bg_t 16 (by decide +kernel) (by decide +kernel)
theorem wo_X7 : Cond.instantiable RX7 12 ∈ bg := bg_t 17 (by decide +kernel) (by decide +kernel)
theorem wl_L_9 : Cond.methodLink RL 9 yX7_init ∈ bg := bg_t 18 (by decide +kernel) (by decide +kernel)
theorem wi_X7_init : Cond.instanceMethod yX7_init ∈ bg := bg_t 19 (by decide +kernel) (by decide +kernel)
theorem wc_X7_init : Cond.code yX7_init cX7_init 3 none ∈ bg := bg_t 20 (by decide +kernel) (by decide +kernel)
theorem wl_X7_1 : Cond.methodLink RX7 1 objectInit ∈ bg := bg_t 21 (by decide +kernel) (by decide +kernel)
theorem wi_objinit : Cond.instanceMethod objectInit ∈ bg := bg_t 22 (by decide +kernel) (by decide +kernel)
theorem wc_objinit : Cond.code objectInit ⟨#[0xb1]⟩ 1 none ∈ bg := bg_t 23 (by decide +kernel) (by decide +kernel)
theorem wk_X7_7 : Cond.classLink RX7 7 RX4 ∈ bg := bg_t 24 (by decide +kernel) (by decide +kernel)
theorem wo_X4 : Cond.instantiable RX4 7 ∈ bg := bg_t 25 (by decide +kernel) (by decide +kernel)
theorem wl_X7_9 : Cond.methodLink RX7 9 yX4_init ∈ bg := bg_t 26 (by decide +kernel) (by decide +kernel)
theorem wi_X4_init : Cond.instanceMethod yX4_init ∈ bg := bg_t 27 (by decide +kernel) (by decide +kernel)
theorem wc_X4_init : Cond.code yX4_init cX4_init 1 none ∈ bg := bg_t 28 (by decide +kernel) (by decide +kernel)
theorem wl_X4_3 : Cond.methodLink RX4 3 objectInit ∈ bg := bg_t 29 (by decide +kernel) (by decide +kernel)
theorem wk_X4_9 : Cond.classLink RX4 9 RX3 ∈ bg := bg_t 30 (by decide +kernel) (by decide +kernel)
theorem wo_X3 : Cond.instantiable RX3 3 ∈ bg := bg_t 31 (by decide +kernel) (by decide +kernel)
theorem wl_X4_11 : Cond.methodLink RX4 11 yX3_init ∈ bg := bg_t 32 (by decide +kernel) (by decide +kernel)
theorem wi_X3_init : Cond.instanceMethod yX3_init ∈ bg := bg_t 33 (by decide +kernel) (by decide +kernel)
theorem wc_X3_init : Cond.code yX3_init cX3_init 3 none ∈ bg := bg_t 34 (by decide +kernel) (by decide +kernel)
theorem wl_X3_1 : Cond.methodLink RX3 1 objectInit ∈ bg := bg_t 35 (by decide +kernel) (by decide +kernel)
theorem wf_X3_7 : Cond.fieldLink RX3 7 "EarwigPost$Ledger" "wide" "I" ∈ bg := bg_t 36 (by decide +kernel) (by decide +kernel)
theorem wf_X3_13 : Cond.fieldLink RX3 13 "EarwigPost$Ledger" "cells" "[I" ∈ bg := bg_t 37 (by decide +kernel) (by decide +kernel)
theorem wa_int : Cond.arrayClass .int ∈ bg := bg_t 46 (by decide +kernel) (by decide +kernel)
theorem wf_X4_14 : Cond.fieldLink RX4 14 "EarwigPost$Office" "sleepers" "LEarwigPost$Ledger;" ∈ bg := bg_t 47 (by decide +kernel) (by decide +kernel)
theorem wf_X4_20 : Cond.fieldLink RX4 20 "EarwigPost$Office" "flowers" "LEarwigPost$Ledger;" ∈ bg := bg_t 50 (by decide +kernel) (by decide +kernel)
theorem wf_X4_23 : Cond.fieldLink RX4 23 "EarwigPost$Office" "roses" "LEarwigPost$Ledger;" ∈ bg := bg_t 54 (by decide +kernel) (by decide +kernel)
theorem wf_X4_26 : Cond.fieldLink RX4 26 "EarwigPost$Office" "notes" "LEarwigPost$Ledger;" ∈ bg := bg_t 57 (by decide +kernel) (by decide +kernel)
theorem wf_X4_29 : Cond.fieldLink RX4 29 "EarwigPost$Office" "marks" "LEarwigPost$Ledger;" ∈ bg := bg_t 60 (by decide +kernel) (by decide +kernel)
theorem wf_X4_32 : Cond.fieldLink RX4 32 "EarwigPost$Office" "moments" "LEarwigPost$Ledger;" ∈ bg := bg_t 63 (by decide +kernel) (by decide +kernel)
theorem wk_X7_10 : Cond.classLink RX7 10 RX3 ∈ bg := bg_t 83 (by decide +kernel) (by decide +kernel)
theorem wl_X7_14 : Cond.methodLink RX7 14 yX3_init ∈ bg := bg_t 84 (by decide +kernel) (by decide +kernel)
theorem wk_X7_25 : Cond.classLink RX7 25 RX2 ∈ bg := bg_t 85 (by decide +kernel) (by decide +kernel)
theorem wo_X2 : Cond.instantiable RX2 2 ∈ bg := bg_t 86 (by decide +kernel) (by decide +kernel)
theorem wl_X7_27 : Cond.methodLink RX7 27 yX2_init ∈ bg := bg_t 87 (by decide +kernel) (by decide +kernel)
theorem wi_X2_init : Cond.instanceMethod yX2_init ∈ bg := bg_t 88 (by decide +kernel) (by decide +kernel)
theorem wc_X2_init : Cond.code yX2_init cX2_init 1 none ∈ bg := bg_t 89 (by decide +kernel) (by decide +kernel)
theorem wl_X2_1 : Cond.methodLink RX2 1 objectInit ∈ bg := bg_t 90 (by decide +kernel) (by decide +kernel)
theorem wk_X2_7 : Cond.classLink RX2 7 RX4 ∈ bg := bg_t 91 (by decide +kernel) (by decide +kernel)
theorem wl_X2_9 : Cond.methodLink RX2 9 yX4_init ∈ bg := bg_t 92 (by decide +kernel) (by decide +kernel)
theorem wf_X2_10 : Cond.fieldLink RX2 10 "EarwigPost$Image" "kept" "LEarwigPost$Office;" ∈ bg := bg_t 93 (by decide +kernel) (by decide +kernel)
theorem wk_X7_35 : Cond.classLink RX7 35 RX5 ∈ bg := bg_t 102 (by decide +kernel) (by decide +kernel)
theorem wo_X5 : Cond.instantiable RX5 7 ∈ bg := bg_t 103 (by decide +kernel) (by decide +kernel)
theorem wl_X7_37 : Cond.methodLink RX7 37 yX5_init ∈ bg := bg_t 104 (by decide +kernel) (by decide +kernel)
theorem wi_X5_init : Cond.instanceMethod yX5_init ∈ bg := bg_t 105 (by decide +kernel) (by decide +kernel)
theorem wc_X5_init : Cond.code yX5_init cX5_init 2 none ∈ bg := bg_t 106 (by decide +kernel) (by decide +kernel)
theorem wl_X5_3 : Cond.methodLink RX5 3 objectInit ∈ bg := bg_t 107 (by decide +kernel) (by decide +kernel)
theorem wk_X5_15 : Cond.classLink RX5 15 RX3 ∈ bg := bg_t 108 (by decide +kernel) (by decide +kernel)
theorem wl_X5_17 : Cond.methodLink RX5 17 yX3_init ∈ bg := bg_t 109 (by decide +kernel) (by decide +kernel)
theorem wf_X5_9 : Cond.fieldLink RX5 9 "EarwigPost$Reader" "text" "LEarwigPost$Ledger;" ∈ bg := bg_t 110 (by decide +kernel) (by decide +kernel)
theorem wf_X5_20 : Cond.fieldLink RX5 20 "EarwigPost$Reader" "tokens" "LEarwigPost$Ledger;" ∈ bg := bg_t 111 (by decide +kernel) (by decide +kernel)
theorem wf_X5_23 : Cond.fieldLink RX5 23 "EarwigPost$Reader" "items" "LEarwigPost$Ledger;" ∈ bg := bg_t 112 (by decide +kernel) (by decide +kernel)
theorem wk_X7_44 : Cond.classLink RX7 44 RX1 ∈ bg := bg_t 132 (by decide +kernel) (by decide +kernel)
theorem wo_X1 : Cond.instantiable RX1 6 ∈ bg := bg_t 133 (by decide +kernel) (by decide +kernel)
theorem wl_X7_46 : Cond.methodLink RX7 46 yX1_init ∈ bg := bg_t 134 (by decide +kernel) (by decide +kernel)
theorem wi_X1_init : Cond.instanceMethod yX1_init ∈ bg := bg_t 135 (by decide +kernel) (by decide +kernel)
theorem wc_X1_init : Cond.code yX1_init cX1_init 2 none ∈ bg := bg_t 136 (by decide +kernel) (by decide +kernel)
theorem wl_X1_3 : Cond.methodLink RX1 3 objectInit ∈ bg := bg_t 137 (by decide +kernel) (by decide +kernel)
theorem wk_X1_15 : Cond.classLink RX1 15 RX4 ∈ bg := bg_t 138 (by decide +kernel) (by decide +kernel)
theorem wl_X1_17 : Cond.methodLink RX1 17 yX4_init ∈ bg := bg_t 139 (by decide +kernel) (by decide +kernel)
theorem wf_X1_9 : Cond.fieldLink RX1 9 "EarwigPost$Foresight" "office" "LEarwigPost$Office;" ∈ bg := bg_t 140 (by decide +kernel) (by decide +kernel)
theorem wf_X1_18 : Cond.fieldLink RX1 18 "EarwigPost$Foresight" "trial" "LEarwigPost$Office;" ∈ bg := bg_t 141 (by decide +kernel) (by decide +kernel)
theorem wf_X1_21 : Cond.fieldLink RX1 21 "EarwigPost$Foresight" "gains" "[I" ∈ bg := bg_t 142 (by decide +kernel) (by decide +kernel)
theorem wf_X1_25 : Cond.fieldLink RX1 25 "EarwigPost$Foresight" "bestBehind" "[I" ∈ bg := bg_t 143 (by decide +kernel) (by decide +kernel)
theorem wf_X1_28 : Cond.fieldLink RX1 28 "EarwigPost$Foresight" "firstGets" "[I" ∈ bg := bg_t 144 (by decide +kernel) (by decide +kernel)
theorem wf_X1_31 : Cond.fieldLink RX1 31 "EarwigPost$Foresight" "secondGets" "[I" ∈ bg := bg_t 145 (by decide +kernel) (by decide +kernel)
theorem wk_X7_53 : Cond.classLink RX7 53 RX0 ∈ bg := bg_t 159 (by decide +kernel) (by decide +kernel)
theorem wo_X0 : Cond.instantiable RX0 4 ∈ bg := bg_t 160 (by decide +kernel) (by decide +kernel)
theorem wl_X7_55 : Cond.methodLink RX7 55 yX0_init ∈ bg := bg_t 161 (by decide +kernel) (by decide +kernel)
theorem wi_X0_init : Cond.instanceMethod yX0_init ∈ bg := bg_t 162 (by decide +kernel) (by decide +kernel)
theorem wc_X0_init : Cond.code yX0_init cX0_init 2 none ∈ bg := bg_t 163 (by decide +kernel) (by decide +kernel)
theorem wl_X0_3 : Cond.methodLink RX0 3 objectInit ∈ bg := bg_t 164 (by decide +kernel) (by decide +kernel)
theorem wk_X0_22 : Cond.classLink RX0 22 RX6 ∈ bg := bg_t 165 (by decide +kernel) (by decide +kernel)
theorem wo_X6 : Cond.instantiable RX6 5 ∈ bg := bg_t 166 (by decide +kernel) (by decide +kernel)
theorem wl_X0_24 : Cond.methodLink RX0 24 yX6_init ∈ bg := bg_t 167 (by decide +kernel) (by decide +kernel)
theorem wi_X6_init : Cond.instanceMethod yX6_init ∈ bg := bg_t 168 (by decide +kernel) (by decide +kernel)
theorem wc_X6_init : Cond.code yX6_init cX6_init 1 none ∈ bg := bg_t 169 (by decide +kernel) (by decide +kernel)
theorem wl_X6_3 : Cond.methodLink RX6 3 objectInit ∈ bg := bg_t 170 (by decide +kernel) (by decide +kernel)
theorem wf_X6_9 : Cond.fieldLink RX6 9 "EarwigPost$Tally" "seen" "[I" ∈ bg := bg_t 171 (by decide +kernel) (by decide +kernel)
theorem wf_X6_15 : Cond.fieldLink RX6 15 "EarwigPost$Tally" "highest" "I" ∈ bg := bg_t 172 (by decide +kernel) (by decide +kernel)
theorem wf_X0_9 : Cond.fieldLink RX0 9 "EarwigPost$Findings" "office" "LEarwigPost$Office;" ∈ bg := bg_t 188 (by decide +kernel) (by decide +kernel)
theorem wf_X0_15 : Cond.fieldLink RX0 15 "EarwigPost$Findings" "fits" "[I" ∈ bg := bg_t 189 (by decide +kernel) (by decide +kernel)
theorem wf_X0_19 : Cond.fieldLink RX0 19 "EarwigPost$Findings" "believed" "[I" ∈ bg := bg_t 190 (by decide +kernel) (by decide +kernel)
theorem wf_X0_25 : Cond.fieldLink RX0 25 "EarwigPost$Findings" "tally" "LEarwigPost$Tally;" ∈ bg := bg_t 191 (by decide +kernel) (by decide +kernel)
theorem wf_X7_17 : Cond.fieldLink RX7 17 "EarwigPost" "here" "LEarwigPost$Office;" ∈ bg := bg_t 201 (by decide +kernel) (by decide +kernel)
theorem wf_X7_28 : Cond.fieldLink RX7 28 "EarwigPost" "imageZero" "LEarwigPost$Image;" ∈ bg := bg_t 202 (by decide +kernel) (by decide +kernel)
theorem wf_X7_32 : Cond.fieldLink RX7 32 "EarwigPost" "imageOne" "LEarwigPost$Image;" ∈ bg := bg_t 203 (by decide +kernel) (by decide +kernel)
theorem wf_X7_21 : Cond.fieldLink RX7 21 "EarwigPost" "text" "LEarwigPost$Ledger;" ∈ bg := bg_t 204 (by decide +kernel) (by decide +kernel)
theorem wf_X7_40 : Cond.fieldLink RX7 40 "EarwigPost" "reader" "LEarwigPost$Reader;" ∈ bg := bg_t 205 (by decide +kernel) (by decide +kernel)
theorem wf_X7_49 : Cond.fieldLink RX7 49 "EarwigPost" "foresight" "LEarwigPost$Foresight;" ∈ bg := bg_t 206 (by decide +kernel) (by decide +kernel)
theorem wf_X7_56 : Cond.fieldLink RX7 56 "EarwigPost" "findings" "LEarwigPost$Findings;" ∈ bg := bg_t 207 (by decide +kernel) (by decide +kernel)
theorem wf_X7_60 : Cond.fieldLink RX7 60 "EarwigPost" "above" "I" ∈ bg := bg_t 208 (by decide +kernel) (by decide +kernel)
theorem wf_X7_64 : Cond.fieldLink RX7 64 "EarwigPost" "below" "I" ∈ bg := bg_t 209 (by decide +kernel) (by decide +kernel)
theorem wk_L_10 : Cond.classLink RL 10 RX8 ∈ bg := bg_t 909 (by decide +kernel) (by decide +kernel)
theorem wo_X8 : Cond.instantiable RX8 19 ∈ bg := bg_t 910 (by decide +kernel) (by decide +kernel)
theorem wl_L_12 : Cond.methodLink RL 12 yX8_init ∈ bg := bg_t 911 (by decide +kernel) (by decide +kernel)
theorem wi_X8_init : Cond.instanceMethod yX8_init ∈ bg := bg_t 912 (by decide +kernel) (by decide +kernel)
theorem wc_X8_init : Cond.code yX8_init cX8_init 1 none ∈ bg := bg_t 913 (by decide +kernel) (by decide +kernel)
theorem wl_X8_1 : Cond.methodLink RX8 1 objectInit ∈ bg := bg_t 914 (by decide +kernel) (by decide +kernel)
theorem wl_X8_51 : Cond.methodLink RX8 51 yX8_begin ∈ bg := bg_t 915 (by decide +kernel) (by decide +kernel)
theorem wt_X8_begin : Cond.static yX8_begin ∈ bg := bg_t 916 (by decide +kernel) (by decide +kernel)
theorem wc_X8_begin : Cond.code yX8_begin cX8_begin 2 none ∈ bg := bg_t 917 (by decide +kernel) (by decide +kernel)
theorem wf_X8_7 : Cond.fieldLink RX8 7 "EarwigPostModel" "all" "[I" ∈ bg := bg_t 918 (by decide +kernel) (by decide +kernel)
theorem wf_X8_13 : Cond.fieldLink RX8 13 "EarwigPostModel" "kept" "[I" ∈ bg := bg_t 919 (by decide +kernel) (by decide +kernel)
theorem wf_X8_16 : Cond.fieldLink RX8 16 "EarwigPostModel" "isKept" "[Z" ∈ bg := bg_t 920 (by decide +kernel) (by decide +kernel)
theorem wf_X8_20 : Cond.fieldLink RX8 20 "EarwigPostModel" "refused" "[I" ∈ bg := bg_t 921 (by decide +kernel) (by decide +kernel)
theorem wf_X8_23 : Cond.fieldLink RX8 23 "EarwigPostModel" "below" "J" ∈ bg := bg_t 923 (by decide +kernel) (by decide +kernel)
theorem wf_X8_27 : Cond.fieldLink RX8 27 "EarwigPostModel" "hand" "[I" ∈ bg := bg_t 924 (by decide +kernel) (by decide +kernel)
theorem wf_X8_30 : Cond.fieldLink RX8 30 "EarwigPostModel" "bestLies" "[I" ∈ bg := bg_t 925 (by decide +kernel) (by decide +kernel)
theorem wf_X8_33 : Cond.fieldLink RX8 33 "EarwigPostModel" "sets" "[I" ∈ bg := bg_t 926 (by decide +kernel) (by decide +kernel)
theorem wf_X8_36 : Cond.fieldLink RX8 36 "EarwigPostModel" "beliefs" "[I" ∈ bg := bg_t 927 (by decide +kernel) (by decide +kernel)
theorem wf_X8_39 : Cond.fieldLink RX8 39 "EarwigPostModel" "tells" "[I" ∈ bg := bg_t 928 (by decide +kernel) (by decide +kernel)
theorem wf_X8_42 : Cond.fieldLink RX8 42 "EarwigPostModel" "bytes" "[I" ∈ bg := bg_t 929 (by decide +kernel) (by decide +kernel)
theorem wf_X8_45 : Cond.fieldLink RX8 45 "EarwigPostModel" "anew" "[I" ∈ bg := bg_t 935 (by decide +kernel) (by decide +kernel)
theorem wf_X8_48 : Cond.fieldLink RX8 48 "EarwigPostModel" "values" "[I" ∈ bg := bg_t 936 (by decide +kernel) (by decide +kernel)
theorem wa_boolean : Cond.arrayClass .boolean ∈ bg := bg_t 976 (by decide +kernel) (by decide +kernel)
theorem wu_X0 : ∀ w ∈ u_ws RX0 TX0 4, w ∈ bg := by
  intro w hw
  refine List.mem_filter.mpr ⟨?_, ?_⟩
  · revert w hw; decide +kernel
  · revert w hw; decide +kernel
theorem wu_X1 : ∀ w ∈ u_ws RX1 TX1 6, w ∈ bg := by
  intro w hw
  refine List.mem_filter.mpr ⟨?_, ?_⟩
  · revert w hw; decide +kernel
  · revert w hw; decide +kernel
theorem wu_X2 : ∀ w ∈ u_ws RX2 TX2 2, w ∈ bg := by
  intro w hw
  refine List.mem_filter.mpr ⟨?_, ?_⟩
  · revert w hw; decide +kernel
  · revert w hw; decide +kernel
theorem wu_X3 : ∀ w ∈ u_ws RX3 TX3 3, w ∈ bg := by
  intro w hw
  refine List.mem_filter.mpr ⟨?_, ?_⟩
  · revert w hw; decide +kernel
  · revert w hw; decide +kernel
theorem wu_X4 : ∀ w ∈ u_ws RX4 TX4 7, w ∈ bg := by
  intro w hw
  refine List.mem_filter.mpr ⟨?_, ?_⟩
  · revert w hw; decide +kernel
  · revert w hw; decide +kernel
theorem wu_X5 : ∀ w ∈ u_ws RX5 TX5 7, w ∈ bg := by
  intro w hw
  refine List.mem_filter.mpr ⟨?_, ?_⟩
  · revert w hw; decide +kernel
  · revert w hw; decide +kernel
theorem wu_X6 : ∀ w ∈ u_ws RX6 TX6 5, w ∈ bg := by
  intro w hw
  refine List.mem_filter.mpr ⟨?_, ?_⟩
  · revert w hw; decide +kernel
  · revert w hw; decide +kernel
theorem wu_X7 : ∀ w ∈ u_ws RX7 TX7 12, w ∈ bg := by
  intro w hw
  refine List.mem_filter.mpr ⟨?_, ?_⟩
  · revert w hw; decide +kernel
  · revert w hw; decide +kernel
theorem wu_X8 : ∀ w ∈ u_ws RX8 TX8 19, w ∈ bg := by
  intro w hw
  refine List.mem_filter.mpr ⟨?_, ?_⟩
  · revert w hw; decide +kernel
  · revert w hw; decide +kernel
def q_nest : List Cond := [Cond.fieldLinkNest RX7 67 "EarwigPost$Office" "sleepers" "LEarwigPost$Ledger;" "EarwigPost", Cond.fieldLinkNest RX1 34 "EarwigPost$Office" "sleepers" "LEarwigPost$Ledger;" "EarwigPost", Cond.fieldLinkNest RX0 29 "EarwigPost$Office" "flowers" "LEarwigPost$Ledger;" "EarwigPost", Cond.fieldLinkNest RX7 96 "EarwigPost$Office" "flowers" "LEarwigPost$Ledger;" "EarwigPost", Cond.fieldLinkNest RX1 61 "EarwigPost$Office" "flowers" "LEarwigPost$Ledger;" "EarwigPost", Cond.fieldLinkNest RX0 45 "EarwigPost$Office" "roses" "LEarwigPost$Ledger;" "EarwigPost", Cond.fieldLinkNest RX7 183 "EarwigPost$Office" "roses" "LEarwigPost$Ledger;" "EarwigPost", Cond.fieldLinkNest RX0 106 "EarwigPost$Office" "notes" "LEarwigPost$Ledger;" "EarwigPost", Cond.fieldLinkNest RX7 201 "EarwigPost$Office" "notes" "LEarwigPost$Ledger;" "EarwigPost", Cond.fieldLinkNest RX0 121 "EarwigPost$Office" "marks" "LEarwigPost$Ledger;" "EarwigPost", Cond.fieldLinkNest RX7 204 "EarwigPost$Office" "marks" "LEarwigPost$Ledger;" "EarwigPost", Cond.fieldLinkNest RX7 148 "EarwigPost$Office" "moments" "LEarwigPost$Ledger;" "EarwigPost", Cond.fieldLinkNest RX1 48 "EarwigPost$Office" "night" "I" "EarwigPost", Cond.fieldLinkNest RX7 154 "EarwigPost$Office" "night" "I" "EarwigPost", Cond.fieldLinkNest RX7 243 "EarwigPost$Image" "kept" "LEarwigPost$Office;" "EarwigPost", Cond.fieldLinkNest RX7 239 "EarwigPost$Image" "wasKept" "Z" "EarwigPost", Cond.fieldLinkNest RX0 93 "EarwigPost$Tally" "bestLook" "I" "EarwigPost", Cond.methodLinkNest RX5 103 yX7_within "EarwigPost", Cond.methodLinkNest RX4 78 yX7_loudness "EarwigPost", Cond.methodLinkNest RX4 85 yX7_belief "EarwigPost", Cond.methodLinkNest RX3 28 yX7_at "EarwigPost", Cond.methodLinkNest RX3 34 yX7_put "EarwigPost", Cond.methodLinkNest RX1 89 yX7_put "EarwigPost", Cond.methodLinkNest RX1 105 yX7_holds "EarwigPost", Cond.methodLinkNest RX1 93 yX7_at "EarwigPost", Cond.methodLinkNest RX1 78 yX7_belief "EarwigPost", Cond.methodLinkNest RX0 41 yX7_put "EarwigPost", Cond.methodLinkNest RX0 68 yX7_holds "EarwigPost", Cond.methodLinkNest RX0 72 yX7_at "EarwigPost", Cond.methodLinkNest RX6 25 yX7_put "EarwigPost", Cond.methodLinkNest RX6 32 yX7_at "EarwigPost", Cond.methodLinkNest RX0 109 yX7_loudness "EarwigPost", Cond.methodLinkNest RX0 124 yX7_belief "EarwigPost"]
theorem q_nest_ok : ∀ w ∈ q_nest, w ∈ lw_tbl := by decide +kernel
theorem q_nest_on : ∀ w ∈ q_nest, w.onTables = true := by decide +kernel
def q_N (U : State) : Prop := ∀ w ∈ q_nest, va_Nw w U
