theorem mb_X8_in : q_mb yX8_in cX8_in 6 (some .boolean) 3 := ⟨wc_X8_in, wn_X8, by decide, by decide, by decide +kernel⟩
def wd_X8_in (cI cZ : ClassId) : va_W := []
def fm_X8_in (p0 : Int64) (p2 : Int64) (p4 : Int64) : Option (Int32) := if (lg_cmp p0 p2) < 0 then (some (0)) else (if 0 < (lg_cmp p0 p4) then (some (0)) else (some (1)))
set_option maxHeartbeats 4000000 in
set_option maxRecDepth 100000 in
theorem c_X8_in (l : Launch) (D : va_G) (cI cZ : ClassId) (sz : Nat) (p0 : Int64) (p2 : Int64) (p4 : Int64) (out : (Int32)) (hm : fm_X8_in p0 p2 p4 = some out) : Met l yX8_in (Cond.code yX8_in cX8_in 6 (some .boolean) :: bg) { frames := 0, cells := 0, slots := 0, locals := 0 } (va_Pc [.long p0, .long p2, .long p4] (q_pre D cI cZ sz (wd_X8_in cI cZ))) (q_Qi D (wd_X8_in cI cZ) out (va_A (wd_X8_in cI cZ) sz)) 0 0 (va_A (wd_X8_in cI cZ) sz) := by
  refine q_met (fun A => q_Qi D (wd_X8_in cI cZ) out A) (by decide) (Nat.le_of_ble_eq_true rfl) ?_
  intro p e s m below meth c ls A hx hb hr hml hown hts hlocks _ hA hS hP hD hK hN hl
  have hown : s.vm.findClass RX8 = some m.cls := hown
  have hl : lv_has ls 6 [(0, .long p0), (2, .long p2), (4, .long p4)] := hl
  unfold fm_X8_in at hm
  refine q_gen hS hP ?_
  intro H locs hP hS
  refine lv_lload_n hx hb dX8_in_0 rfl (lv_at hl 0 rfl) ?_
  refine lv_lload_n hx hb dX8_in_1 rfl (lv_at hl 1 rfl) ?_
  refine W.lcmp hx hb dX8_in_2 ?_
  refine lv_if_lt (tgt := 17) hx hb dX8_in_3 (by decide) (fun c_3 => ?_) (fun c_3 => ?_)
  · have hm := it_s c_3 hm
    refine lv_iconst (v := 0) hx hb dX8_in_17 (by decide) ?_
    have hm := Option.some.inj hm
    subst hm
    exact q_zret (v := 0) hx hb hr hlocks rfl hP hS dX8_in_18
  · have hm := it_n c_3 hm
    refine lv_lload_n hx hb dX8_in_6 rfl (lv_at hl 0 rfl) ?_
    refine lv_lload hx hb dX8_in_7 (lv_at hl 2 rfl) ?_
    refine W.lcmp hx hb dX8_in_9 ?_
    refine lv_if_gt (tgt := 17) hx hb dX8_in_10 (by decide) (fun c_10 => ?_) (fun c_10 => ?_)
    · have hm := it_s c_10 hm
      refine lv_iconst (v := 0) hx hb dX8_in_17 (by decide) ?_
      have hm := Option.some.inj hm
      subst hm
      exact q_zret (v := 0) hx hb hr hlocks rfl hP hS dX8_in_18
    · have hm := it_n c_10 hm
      refine lv_iconst (v := 1) hx hb dX8_in_13 (by decide) ?_
      refine lv_goto (tgt := 18) hx hb dX8_in_14 (by decide) ?_
      have hm := Option.some.inj hm
      subst hm
      exact q_zret (v := 1) hx hb hr hlocks rfl hP hS dX8_in_18
theorem gf_X8_20 {p : Program} {l : Launch} {e : Env} {R : Room} {s : State} {m : MethodId} {args : Array Value} {below : List Frame} {meth : Method} {c : Code} {H : Heap} {locs : List Loc} {cells slots : Nat} {Q : State → Prop} {pc : Nat} {ls : Array Slot} {cc : ByteArray} {D : va_G} {cI cZ : ClassId} {ws : va_W} {a : Nat} {rest fs : List Value} (hx : p.tables.exec = Jvm.exec) (hb : c.code = cc) (hts : ∀ w ∈ bg, w.before args s = true) (hown : s.vm.findClass RX8 = some m.cls) (hK : va_K D vwCl (q_tys cI cZ) s) (hN : q_N s) (hP : va_P D vwCl ws H) (q0 : Nat) (he : ws[q0]? = some (a, .inr (8, fs))) {v : Value} (hv : fs[3]? = some v) (hdg : decode cc pc = .ok (.getfield 20, 3)) (kk : W p l e R s m args below meth c H locs cells slots Q (F0 m (pc + 3) ls (v :: rest))) : W p l e R s m args below meth c H locs cells slots Q (F0 m pc ls (.ref a :: rest)) :=
  va_get (C := RX8) (T := TX8) (N := 19) hx hb hts wu_X8 hown hK hP q0 he rfl 3 (by decide) (hts _ wf_X8_20) (fun _ h9 => h9) hv hdg kk
theorem mb_X8_bad : q_mb yX8_bad cX8_bad 2 (some .int) 1 := ⟨wc_X8_bad, wn_X8, by decide, by decide, by decide +kernel⟩
theorem mv_X8_bad : q_mv yX8_bad 8 := ⟨wi_X8_bad, ws_X8_bad, _, rfl, rfl⟩
def wd_X8_bad (cI cZ : ClassId) (AT AT_al AT_kp AT_ik AT_rf AT_hd AT_bs AT_se AT_bf AT_te AT_by AT_an AT_vs : Nat) (vT_ab : Int64) (vT_be : Int64) (vT_byl : Int32) (vT_tka : Int32) (vT_tkl : Int32) (vT_tkn : Int32) (vT_val : Int32) (fT_rf : Nat → Int32) : va_W := [(AT, .inr (8, [.ref AT_al, .ref AT_kp, .ref AT_ik, .ref AT_rf, .long vT_ab, .long vT_be, .ref AT_hd, .ref AT_bs, .ref AT_se, .ref AT_bf, .ref AT_te, .ref AT_by, .int vT_byl, .int vT_tka, .int vT_tkl, .int vT_tkn, .int vT_val, .ref AT_an, .ref AT_vs])), (AT_rf, .inl (cI, 3, .inl fT_rf))]
def fm_X8_bad (p1 : Int32) (fT_rf : Nat → Int32) : Option (Int32 × (Nat → Int32)) := some (p1, (upd fT_rf 0 ((fT_rf 0) + 1)))
set_option maxHeartbeats 4000000 in
set_option maxRecDepth 100000 in
theorem c_X8_bad (l : Launch) (D : va_G) (cI cZ : ClassId) (sz : Nat) (AT AT_al AT_kp AT_ik AT_rf AT_hd AT_bs AT_se AT_bf AT_te AT_by AT_an AT_vs : Nat) (vT_ab : Int64) (vT_be : Int64) (vT_byl : Int32) (vT_tka : Int32) (vT_tkl : Int32) (vT_tkn : Int32) (vT_val : Int32) (fT_rf : Nat → Int32) (p1 : Int32) (out : (Int32 × (Nat → Int32))) (hm : fm_X8_bad p1 fT_rf = some out) : Met l yX8_bad (Cond.code yX8_bad cX8_bad 2 (some .int) :: bg) { frames := 0, cells := 0, slots := 0, locals := 0 } (va_Pc [.ref AT, .int p1] (q_pre D cI cZ sz (wd_X8_bad cI cZ AT AT_al AT_kp AT_ik AT_rf AT_hd AT_bs AT_se AT_bf AT_te AT_by AT_an AT_vs vT_ab vT_be vT_byl vT_tka vT_tkl vT_tkn vT_val fT_rf))) (q_Qi D (wd_X8_bad cI cZ AT AT_al AT_kp AT_ik AT_rf AT_hd AT_bs AT_se AT_bf AT_te AT_by AT_an AT_vs vT_ab vT_be vT_byl vT_tka vT_tkl vT_tkn vT_val out.2) out.1 (va_A (wd_X8_bad cI cZ AT AT_al AT_kp AT_ik AT_rf AT_hd AT_bs AT_se AT_bf AT_te AT_by AT_an AT_vs vT_ab vT_be vT_byl vT_tka vT_tkl vT_tkn vT_val fT_rf) sz)) 0 0 (va_A (wd_X8_bad cI cZ AT AT_al AT_kp AT_ik AT_rf AT_hd AT_bs AT_se AT_bf AT_te AT_by AT_an AT_vs vT_ab vT_be vT_byl vT_tka vT_tkl vT_tkn vT_val fT_rf) sz) := by
  refine q_met (fun A => q_Qi D (wd_X8_bad cI cZ AT AT_al AT_kp AT_ik AT_rf AT_hd AT_bs AT_se AT_bf AT_te AT_by AT_an AT_vs vT_ab vT_be vT_byl vT_tka vT_tkl vT_tkn vT_val out.2) out.1 A) (by decide) (Nat.le_of_ble_eq_true rfl) ?_
  intro p e s m below meth c ls A hx hb hr hml hown hts hlocks _ hA hS hP hD hK hN hl
  have hown : s.vm.findClass RX8 = some m.cls := hown
  have hl : lv_has ls 2 [(0, .ref AT), (1, .int p1)] := hl
  unfold fm_X8_bad at hm
  refine q_gen hS hP ?_
  intro H locs hP hS
  refine lv_aload_n hx hb dX8_bad_0 rfl (lv_at hl 0 rfl) ?_
  refine gf_X8_20 (v := .ref AT_rf) hx hb hts hown hK hN hP 0 rfl rfl dX8_bad_1 ?_
  refine lv_iconst (v := 0) hx hb dX8_bad_4 (by decide) ?_
  refine lv_dup2_11 hx hb dX8_bad_5 rfl rfl ?_
  refine q_iald (j := 0) hx hb hK hP 1 rfl (q_inl (by decide)) (by decide) dX8_bad_6 ?_
  refine lv_iconst (v := 1) hx hb dX8_bad_7 (by decide) ?_
  refine lv_iadd hx hb dX8_bad_8 ?_
  refine q_iast (j := 0) hx hb hK hP hD hS 1 rfl (q_inl (by decide)) (by decide) dX8_bad_9 (fun H locs hP hD hS => ?_)
  have hP : va_P D vwCl (wd_X8_bad cI cZ AT AT_al AT_kp AT_ik AT_rf AT_hd AT_bs AT_se AT_bf AT_te AT_by AT_an AT_vs vT_ab vT_be vT_byl vT_tka vT_tkl vT_tkn vT_val (upd fT_rf 0 ((fT_rf 0) + 1))) H := hP
  have hD : va_D A (wd_X8_bad cI cZ AT AT_al AT_kp AT_ik AT_rf AT_hd AT_bs AT_se AT_bf AT_te AT_by AT_an AT_vs vT_ab vT_be vT_byl vT_tka vT_tkl vT_tkn vT_val (upd fT_rf 0 ((fT_rf 0) + 1))) := hD
  refine lv_iload_n hx hb dX8_bad_10 rfl (lv_at hl 1 rfl) ?_
  have hm := Option.some.inj hm
  subst hm
  exact q_iret (v := p1) hx hb hr hlocks hP hS dX8_bad_11
theorem mb_X8_no : q_mb yX8_no cX8_no 1 (some .int) 0 := ⟨wc_X8_no, wn_X8, by decide, by decide, by decide +kernel⟩
theorem mv_X8_no : q_mv yX8_no 8 := ⟨wi_X8_no, ws_X8_no, _, rfl, rfl⟩
def wd_X8_no (cI cZ : ClassId) (AT AT_al AT_kp AT_ik AT_rf AT_hd AT_bs AT_se AT_bf AT_te AT_by AT_an AT_vs : Nat) (vT_ab : Int64) (vT_be : Int64) (vT_byl : Int32) (vT_tka : Int32) (vT_tkl : Int32) (vT_tkn : Int32) (vT_val : Int32) (fT_rf : Nat → Int32) : va_W := [(AT, .inr (8, [.ref AT_al, .ref AT_kp, .ref AT_ik, .ref AT_rf, .long vT_ab, .long vT_be, .ref AT_hd, .ref AT_bs, .ref AT_se, .ref AT_bf, .ref AT_te, .ref AT_by, .int vT_byl, .int vT_tka, .int vT_tkl, .int vT_tkn, .int vT_val, .ref AT_an, .ref AT_vs])), (AT_rf, .inl (cI, 3, .inl fT_rf))]
def fm_X8_no (fT_rf : Nat → Int32) : Option (Int32 × (Nat → Int32)) := some ((-3), (upd fT_rf 1 ((fT_rf 1) + 1)))
set_option maxHeartbeats 4000000 in
set_option maxRecDepth 100000 in
theorem c_X8_no (l : Launch) (D : va_G) (cI cZ : ClassId) (sz : Nat) (AT AT_al AT_kp AT_ik AT_rf AT_hd AT_bs AT_se AT_bf AT_te AT_by AT_an AT_vs : Nat) (vT_ab : Int64) (vT_be : Int64) (vT_byl : Int32) (vT_tka : Int32) (vT_tkl : Int32) (vT_tkn : Int32) (vT_val : Int32) (fT_rf : Nat → Int32) (out : (Int32 × (Nat → Int32))) (hm : fm_X8_no fT_rf = some out) : Met l yX8_no (Cond.code yX8_no cX8_no 1 (some .int) :: bg) { frames := 0, cells := 0, slots := 0, locals := 0 } (va_Pc [.ref AT] (q_pre D cI cZ sz (wd_X8_no cI cZ AT AT_al AT_kp AT_ik AT_rf AT_hd AT_bs AT_se AT_bf AT_te AT_by AT_an AT_vs vT_ab vT_be vT_byl vT_tka vT_tkl vT_tkn vT_val fT_rf))) (q_Qi D (wd_X8_no cI cZ AT AT_al AT_kp AT_ik AT_rf AT_hd AT_bs AT_se AT_bf AT_te AT_by AT_an AT_vs vT_ab vT_be vT_byl vT_tka vT_tkl vT_tkn vT_val out.2) out.1 (va_A (wd_X8_no cI cZ AT AT_al AT_kp AT_ik AT_rf AT_hd AT_bs AT_se AT_bf AT_te AT_by AT_an AT_vs vT_ab vT_be vT_byl vT_tka vT_tkl vT_tkn vT_val fT_rf) sz)) 0 0 (va_A (wd_X8_no cI cZ AT AT_al AT_kp AT_ik AT_rf AT_hd AT_bs AT_se AT_bf AT_te AT_by AT_an AT_vs vT_ab vT_be vT_byl vT_tka vT_tkl vT_tkn vT_val fT_rf) sz) := by
  refine q_met (fun A => q_Qi D (wd_X8_no cI cZ AT AT_al AT_kp AT_ik AT_rf AT_hd AT_bs AT_se AT_bf AT_te AT_by AT_an AT_vs vT_ab vT_be vT_byl vT_tka vT_tkl vT_tkn vT_val out.2) out.1 A) (by decide) (Nat.le_of_ble_eq_true rfl) ?_
  intro p e s m below meth c ls A hx hb hr hml hown hts hlocks _ hA hS hP hD hK hN hl
  have hown : s.vm.findClass RX8 = some m.cls := hown
  have hl : lv_has ls 1 [(0, .ref AT)] := hl
  unfold fm_X8_no at hm
  refine q_gen hS hP ?_
  intro H locs hP hS
  refine lv_aload_n hx hb dX8_no_0 rfl (lv_at hl 0 rfl) ?_
  refine gf_X8_20 (v := .ref AT_rf) hx hb hts hown hK hN hP 0 rfl rfl dX8_no_1 ?_
  refine lv_iconst (v := 1) hx hb dX8_no_4 (by decide) ?_
  refine lv_dup2_11 hx hb dX8_no_5 rfl rfl ?_
  refine q_iald (j := 1) hx hb hK hP 1 rfl (q_inl (by decide)) (by decide) dX8_no_6 ?_
  refine lv_iconst (v := 1) hx hb dX8_no_7 (by decide) ?_
  refine lv_iadd hx hb dX8_no_8 ?_
  refine q_iast (j := 1) hx hb hK hP hD hS 1 rfl (q_inl (by decide)) (by decide) dX8_no_9 (fun H locs hP hD hS => ?_)
  have hP : va_P D vwCl (wd_X8_no cI cZ AT AT_al AT_kp AT_ik AT_rf AT_hd AT_bs AT_se AT_bf AT_te AT_by AT_an AT_vs vT_ab vT_be vT_byl vT_tka vT_tkl vT_tkn vT_val (upd fT_rf 1 ((fT_rf 1) + 1))) H := hP
  have hD : va_D A (wd_X8_no cI cZ AT AT_al AT_kp AT_ik AT_rf AT_hd AT_bs AT_se AT_bf AT_te AT_by AT_an AT_vs vT_ab vT_be vT_byl vT_tka vT_tkl vT_tkn vT_val (upd fT_rf 1 ((fT_rf 1) + 1))) := hD
  refine lv_bipush (v := (-3)) hx hb dX8_no_10 (by decide) ?_
  have hm := Option.some.inj hm
  subst hm
  exact q_iret (v := (-3)) hx hb hr hlocks hP hS dX8_no_12
theorem mb_X8_full : q_mb yX8_full cX8_full 1 (some .int) 0 := ⟨wc_X8_full, wn_X8, by decide, by decide, by decide +kernel⟩
theorem mv_X8_full : q_mv yX8_full 8 := ⟨wi_X8_full, ws_X8_full, _, rfl, rfl⟩
def wd_X8_full (cI cZ : ClassId) (AT AT_al AT_kp AT_ik AT_rf AT_hd AT_bs AT_se AT_bf AT_te AT_by AT_an AT_vs : Nat) (vT_ab : Int64) (vT_be : Int64) (vT_byl : Int32) (vT_tka : Int32) (vT_tkl : Int32) (vT_tkn : Int32) (vT_val : Int32) (fT_rf : Nat → Int32) : va_W := [(AT, .inr (8, [.ref AT_al, .ref AT_kp, .ref AT_ik, .ref AT_rf, .long vT_ab, .long vT_be, .ref AT_hd, .ref AT_bs, .ref AT_se, .ref AT_bf, .ref AT_te, .ref AT_by, .int vT_byl, .int vT_tka, .int vT_tkl, .int vT_tkn, .int vT_val, .ref AT_an, .ref AT_vs])), (AT_rf, .inl (cI, 3, .inl fT_rf))]
def fm_X8_full (fT_rf : Nat → Int32) : Option (Int32 × (Nat → Int32)) := some ((-4), (upd fT_rf 2 ((fT_rf 2) + 1)))
set_option maxHeartbeats 4000000 in
set_option maxRecDepth 100000 in
theorem c_X8_full (l : Launch) (D : va_G) (cI cZ : ClassId) (sz : Nat) (AT AT_al AT_kp AT_ik AT_rf AT_hd AT_bs AT_se AT_bf AT_te AT_by AT_an AT_vs : Nat) (vT_ab : Int64) (vT_be : Int64) (vT_byl : Int32) (vT_tka : Int32) (vT_tkl : Int32) (vT_tkn : Int32) (vT_val : Int32) (fT_rf : Nat → Int32) (out : (Int32 × (Nat → Int32))) (hm : fm_X8_full fT_rf = some out) : Met l yX8_full (Cond.code yX8_full cX8_full 1 (some .int) :: bg) { frames := 0, cells := 0, slots := 0, locals := 0 } (va_Pc [.ref AT] (q_pre D cI cZ sz (wd_X8_full cI cZ AT AT_al AT_kp AT_ik AT_rf AT_hd AT_bs AT_se AT_bf AT_te AT_by AT_an AT_vs vT_ab vT_be vT_byl vT_tka vT_tkl vT_tkn vT_val fT_rf))) (q_Qi D (wd_X8_full cI cZ AT AT_al AT_kp AT_ik AT_rf AT_hd AT_bs AT_se AT_bf AT_te AT_by AT_an AT_vs vT_ab vT_be vT_byl vT_tka vT_tkl vT_tkn vT_val out.2) out.1 (va_A (wd_X8_full cI cZ AT AT_al AT_kp AT_ik AT_rf AT_hd AT_bs AT_se AT_bf AT_te AT_by AT_an AT_vs vT_ab vT_be vT_byl vT_tka vT_tkl vT_tkn vT_val fT_rf) sz)) 0 0 (va_A (wd_X8_full cI cZ AT AT_al AT_kp AT_ik AT_rf AT_hd AT_bs AT_se AT_bf AT_te AT_by AT_an AT_vs vT_ab vT_be vT_byl vT_tka vT_tkl vT_tkn vT_val fT_rf) sz) := by
  refine q_met (fun A => q_Qi D (wd_X8_full cI cZ AT AT_al AT_kp AT_ik AT_rf AT_hd AT_bs AT_se AT_bf AT_te AT_by AT_an AT_vs vT_ab vT_be vT_byl vT_tka vT_tkl vT_tkn vT_val out.2) out.1 A) (by decide) (Nat.le_of_ble_eq_true rfl) ?_
  intro p e s m below meth c ls A hx hb hr hml hown hts hlocks _ hA hS hP hD hK hN hl
  have hown : s.vm.findClass RX8 = some m.cls := hown
  have hl : lv_has ls 1 [(0, .ref AT)] := hl
  unfold fm_X8_full at hm
  refine q_gen hS hP ?_
  intro H locs hP hS
  refine lv_aload_n hx hb dX8_full_0 rfl (lv_at hl 0 rfl) ?_
  refine gf_X8_20 (v := .ref AT_rf) hx hb hts hown hK hN hP 0 rfl rfl dX8_full_1 ?_
  refine lv_iconst (v := 2) hx hb dX8_full_4 (by decide) ?_
  refine lv_dup2_11 hx hb dX8_full_5 rfl rfl ?_
  refine q_iald (j := 2) hx hb hK hP 1 rfl (q_inl (by decide)) (by decide) dX8_full_6 ?_
  refine lv_iconst (v := 1) hx hb dX8_full_7 (by decide) ?_
  refine lv_iadd hx hb dX8_full_8 ?_
  refine q_iast (j := 2) hx hb hK hP hD hS 1 rfl (q_inl (by decide)) (by decide) dX8_full_9 (fun H locs hP hD hS => ?_)
  have hP : va_P D vwCl (wd_X8_full cI cZ AT AT_al AT_kp AT_ik AT_rf AT_hd AT_bs AT_se AT_bf AT_te AT_by AT_an AT_vs vT_ab vT_be vT_byl vT_tka vT_tkl vT_tkn vT_val (upd fT_rf 2 ((fT_rf 2) + 1))) H := hP
  have hD : va_D A (wd_X8_full cI cZ AT AT_al AT_kp AT_ik AT_rf AT_hd AT_bs AT_se AT_bf AT_te AT_by AT_an AT_vs vT_ab vT_be vT_byl vT_tka vT_tkl vT_tkn vT_val (upd fT_rf 2 ((fT_rf 2) + 1))) := hD
  refine lv_bipush (v := (-4)) hx hb dX8_full_10 (by decide) ?_
  have hm := Option.some.inj hm
  subst hm
  exact q_iret (v := (-4)) hx hb hr hlocks hP hS dX8_full_12
theorem mb_X8_has : q_mb yX8_has cX8_has 2 (some .boolean) 2 := ⟨wc_X8_has, wn_X8, by decide, by decide, by decide +kernel⟩
def wd_X8_has (cI cZ : ClassId) : va_W := []
def fm_X8_has (p0 : Int32) (p1 : Int32) : Option (Int32) := if ((p0 >>> (p1 &&& 31)) &&& 1) = 1 then (some (1)) else (some (0))
set_option maxHeartbeats 4000000 in
set_option maxRecDepth 100000 in
theorem c_X8_has (l : Launch) (D : va_G) (cI cZ : ClassId) (sz : Nat) (p0 : Int32) (p1 : Int32) (out : (Int32)) (hm : fm_X8_has p0 p1 = some out) : Met l yX8_has (Cond.code yX8_has cX8_has 2 (some .boolean) :: bg) { frames := 0, cells := 0, slots := 0, locals := 0 } (va_Pc [.int p0, .int p1] (q_pre D cI cZ sz (wd_X8_has cI cZ))) (q_Qi D (wd_X8_has cI cZ) out (va_A (wd_X8_has cI cZ) sz)) 0 0 (va_A (wd_X8_has cI cZ) sz) := by
  refine q_met (fun A => q_Qi D (wd_X8_has cI cZ) out A) (by decide) (Nat.le_of_ble_eq_true rfl) ?_
  intro p e s m below meth c ls A hx hb hr hml hown hts hlocks _ hA hS hP hD hK hN hl
  have hown : s.vm.findClass RX8 = some m.cls := hown
  have hl : lv_has ls 2 [(0, .int p0), (1, .int p1)] := hl
  unfold fm_X8_has at hm
  refine q_gen hS hP ?_
  intro H locs hP hS
  refine lv_iload_n hx hb dX8_has_0 rfl (lv_at hl 0 rfl) ?_
  refine lv_iload_n hx hb dX8_has_1 rfl (lv_at hl 1 rfl) ?_
  refine lv_ishr hx hb dX8_has_2 ?_
  refine lv_iconst (v := 1) hx hb dX8_has_3 (by decide) ?_
  refine lv_iand hx hb dX8_has_4 ?_
  refine lv_iconst (v := 1) hx hb dX8_has_5 (by decide) ?_
  refine lv_icmp_ne (tgt := 13) hx hb dX8_has_6 (by decide) (fun c_6 => ?_) (fun c_6 => ?_)
  · have hm := it_n c_6 hm
    refine lv_iconst (v := 0) hx hb dX8_has_13 (by decide) ?_
    have hm := Option.some.inj hm
    subst hm
    exact q_zret (v := 0) hx hb hr hlocks rfl hP hS dX8_has_14
  · have hm := it_s c_6 hm
    refine lv_iconst (v := 1) hx hb dX8_has_9 (by decide) ?_
    refine lv_goto (tgt := 14) hx hb dX8_has_10 (by decide) ?_
    have hm := Option.some.inj hm
    subst hm
    exact q_zret (v := 1) hx hb hr hlocks rfl hP hS dX8_has_14
theorem mb_X8_begin : q_mb yX8_begin cX8_begin 2 none 1 := ⟨wc_X8_begin, wn_X8, by decide, by decide, by decide +kernel⟩
def wd_X8_begin (cI cZ : ClassId) (A0 : Nat) (n0 : Nat) (f0 : Nat → Int32) : va_W := [(A0, .inl (cI, n0, .inl f0))]
def fL_X8_begin_2 (n0 : Nat) : Nat → Int32 → (Nat → Int32) → Option ((Nat → Int32))
  | 0, _, _ => none
  | fu + 1, x1, f0 => if 112 ≤ x1 then (some (f0)) else (gd x1 n0 (fL_X8_begin_2 n0 fu (x1 + 1) (upd f0 (Int32.toNatClampNeg x1) 0)))
def fm_X8_begin (n0 : Nat) (f0 : Nat → Int32) : Option ((Nat → Int32)) := fL_X8_begin_2 n0 FU 0 f0
set_option maxHeartbeats 4000000 in
set_option maxRecDepth 100000 in
theorem c_X8_begin (l : Launch) (D : va_G) (cI cZ : ClassId) (sz : Nat) (A0 : Nat) (n0 : Nat) (f0 : Nat → Int32) (out : ((Nat → Int32))) (hm : fm_X8_begin n0 f0 = some out) : Met l yX8_begin (Cond.code yX8_begin cX8_begin 2 none :: bg) { frames := 0, cells := 0, slots := 0, locals := 0 } (va_Pc [.ref A0] (q_pre D cI cZ sz (wd_X8_begin cI cZ A0 n0 f0))) (q_Qv D (wd_X8_begin cI cZ A0 n0 out) (va_A (wd_X8_begin cI cZ A0 n0 f0) sz)) 0 0 (va_A (wd_X8_begin cI cZ A0 n0 f0) sz) := by
  refine q_met (fun A => q_Qv D (wd_X8_begin cI cZ A0 n0 out) A) (by decide) (Nat.le_of_ble_eq_true rfl) ?_
  intro p e s m below meth c ls A hx hb hr hml hown hts hlocks _ hA hS hP hD hK hN hl
  have hown : s.vm.findClass RX8 = some m.cls := hown
  have hl : lv_has ls 2 [(0, .ref A0)] := hl
  have hL_2 : ∀ (fu_2 : Nat) (x1 : Int32) (f0 : Nat → Int32) (H : Heap) (locs : List Loc) (ls : Array Slot), fL_X8_begin_2 n0 fu_2 x1 f0 = some out → va_P D vwCl (wd_X8_begin cI cZ A0 n0 f0) H → va_D A (wd_X8_begin cI cZ A0 n0 f0) → va_S A s.heap H locs → lv_has ls 2 [(1, .int x1), (0, .ref A0)] → W p l e { frames := 0, cells := 0, slots := 0, locals := 0 } s m ([.ref A0] : List Value).toArray below meth c H locs 0 0 (MQ below (q_Qv D (wd_X8_begin cI cZ A0 n0 out) A) ([.ref A0] : List Value).toArray s 0 0 A) (F0 m 2 ls []) := by
    intro fu_2
    induction fu_2 with
    | zero => intro x1 f0 H locs ls hm hP hD hS hl; exact absurd (show (none : Option ((Nat → Int32))) = some out from hm) (fun h => nomatch h)
    | succ fu_2 ih_2 =>
      intro x1 f0 H locs ls hm hP hD hS hl
      rw [fL_X8_begin_2] at hm
      refine lv_iload_n hx hb dX8_begin_2 rfl (lv_at hl 0 rfl) ?_
      refine lv_bipush (v := 112) hx hb dX8_begin_3 (by decide) ?_
      refine lv_icmp_ge (tgt := 18) hx hb dX8_begin_5 (by decide) (fun c_5 => ?_) (fun c_5 => ?_)
      · have hm := it_s c_5 hm
        have hm := Option.some.inj hm
        subst hm
        exact q_vret hx hb hr hlocks hP hS dX8_begin_18
      · have hm := it_n c_5 hm
        refine lv_aload_n hx hb dX8_begin_8 rfl (lv_at hl 1 rfl) ?_
        refine lv_iload_n hx hb dX8_begin_9 rfl (lv_at hl 0 rfl) ?_
        refine lv_iconst (v := 0) hx hb dX8_begin_10 (by decide) ?_
        obtain ⟨hi_11, hm⟩ := gd_s hm
        refine q_iast (j := (Int32.toNatClampNeg x1)) hx hb hK hP hD hS 0 rfl hi_11 rfl dX8_begin_11 (fun H locs hP hD hS => ?_)
        have hP : va_P D vwCl (wd_X8_begin cI cZ A0 n0 (upd f0 (Int32.toNatClampNeg x1) 0)) H := hP
        have hD : va_D A (wd_X8_begin cI cZ A0 n0 (upd f0 (Int32.toNatClampNeg x1) 0)) := hD
        refine lv_iinc (v := (x1 + 1)) (lv' := [(1, .int (x1 + 1)), (0, .ref A0)]) hx hb dX8_begin_12 hl (k := 0) rfl rfl (by decide) rfl (fun ls hl => ?_)
        refine lv_goto (tgt := 2) hx hb dX8_begin_15 (by decide) ?_
        exact ih_2 (x1 + 1) (upd f0 (Int32.toNatClampNeg x1) 0) H locs ls hm hP hD hS (lv_sub hl [0, 1] rfl)
  unfold fm_X8_begin at hm
  refine q_gen hS hP ?_
  intro H locs hP hS
  refine lv_iconst (v := 0) hx hb dX8_begin_0 (by decide) ?_
  refine lv_istore_n (lv' := [(1, .int 0), (0, .ref A0)]) hx hb dX8_begin_1 rfl hl (by decide) rfl (fun ls hl => ?_)
  exact hL_2 FU 0 f0 H locs ls hm hP hD hS (lv_sub hl [0, 1] rfl)
theorem gf_X8_7 {p : Program} {l : Launch} {e : Env} {R : Room} {s : State} {m : MethodId} {args : Array Value} {below : List Frame} {meth : Method} {c : Code} {H : Heap} {locs : List Loc} {cells slots : Nat} {Q : State → Prop} {pc : Nat} {ls : Array Slot} {cc : ByteArray} {D : va_G} {cI cZ : ClassId} {ws : va_W} {a : Nat} {rest fs : List Value} (hx : p.tables.exec = Jvm.exec) (hb : c.code = cc) (hts : ∀ w ∈ bg, w.before args s = true) (hown : s.vm.findClass RX8 = some m.cls) (hK : va_K D vwCl (q_tys cI cZ) s) (hN : q_N s) (hP : va_P D vwCl ws H) (q0 : Nat) (he : ws[q0]? = some (a, .inr (8, fs))) {v : Value} (hv : fs[0]? = some v) (hdg : decode cc pc = .ok (.getfield 7, 3)) (kk : W p l e R s m args below meth c H locs cells slots Q (F0 m (pc + 3) ls (v :: rest))) : W p l e R s m args below meth c H locs cells slots Q (F0 m pc ls (.ref a :: rest)) :=
  va_get (C := RX8) (T := TX8) (N := 19) hx hb hts wu_X8 hown hK hP q0 he rfl 0 (by decide) (hts _ wf_X8_7) (fun _ h9 => h9) hv hdg kk
theorem mb_X8_many : q_mb yX8_many cX8_many 1 (some .int) 0 := ⟨wc_X8_many, wn_X8, by decide, by decide, by decide +kernel⟩
theorem mv_X8_many : q_mv yX8_many 8 := ⟨wi_X8_many, ws_X8_many, _, rfl, rfl⟩
def wd_X8_many (cI cZ : ClassId) (AT AT_al AT_kp AT_ik AT_rf AT_hd AT_bs AT_se AT_bf AT_te AT_by AT_an AT_vs : Nat) (vT_ab : Int64) (vT_be : Int64) (vT_byl : Int32) (vT_tka : Int32) (vT_tkl : Int32) (vT_tkn : Int32) (vT_val : Int32) (fT_al : Nat → Int32) : va_W := [(AT, .inr (8, [.ref AT_al, .ref AT_kp, .ref AT_ik, .ref AT_rf, .long vT_ab, .long vT_be, .ref AT_hd, .ref AT_bs, .ref AT_se, .ref AT_bf, .ref AT_te, .ref AT_by, .int vT_byl, .int vT_tka, .int vT_tkl, .int vT_tkn, .int vT_val, .ref AT_an, .ref AT_vs])), (AT_al, .inl (cI, 312, .inl fT_al))]
def fm_X8_many (fT_al : Nat → Int32) : Option (Int32) := some ((fT_al 0))
set_option maxHeartbeats 4000000 in
set_option maxRecDepth 100000 in
theorem c_X8_many (l : Launch) (D : va_G) (cI cZ : ClassId) (sz : Nat) (AT AT_al AT_kp AT_ik AT_rf AT_hd AT_bs AT_se AT_bf AT_te AT_by AT_an AT_vs : Nat) (vT_ab : Int64) (vT_be : Int64) (vT_byl : Int32) (vT_tka : Int32) (vT_tkl : Int32) (vT_tkn : Int32) (vT_val : Int32) (fT_al : Nat → Int32) (out : (Int32)) (hm : fm_X8_many fT_al = some out) : Met l yX8_many (Cond.code yX8_many cX8_many 1 (some .int) :: bg) { frames := 0, cells := 0, slots := 0, locals := 0 } (va_Pc [.ref AT] (q_pre D cI cZ sz (wd_X8_many cI cZ AT AT_al AT_kp AT_ik AT_rf AT_hd AT_bs AT_se AT_bf AT_te AT_by AT_an AT_vs vT_ab vT_be vT_byl vT_tka vT_tkl vT_tkn vT_val fT_al))) (q_Qi D (wd_X8_many cI cZ AT AT_al AT_kp AT_ik AT_rf AT_hd AT_bs AT_se AT_bf AT_te AT_by AT_an AT_vs vT_ab vT_be vT_byl vT_tka vT_tkl vT_tkn vT_val fT_al) out (va_A (wd_X8_many cI cZ AT AT_al AT_kp AT_ik AT_rf AT_hd AT_bs AT_se AT_bf AT_te AT_by AT_an AT_vs vT_ab vT_be vT_byl vT_tka vT_tkl vT_tkn vT_val fT_al) sz)) 0 0 (va_A (wd_X8_many cI cZ AT AT_al AT_kp AT_ik AT_rf AT_hd AT_bs AT_se AT_bf AT_te AT_by AT_an AT_vs vT_ab vT_be vT_byl vT_tka vT_tkl vT_tkn vT_val fT_al) sz) := by
  refine q_met (fun A => q_Qi D (wd_X8_many cI cZ AT AT_al AT_kp AT_ik AT_rf AT_hd AT_bs AT_se AT_bf AT_te AT_by AT_an AT_vs vT_ab vT_be vT_byl vT_tka vT_tkl vT_tkn vT_val fT_al) out A) (by decide) (Nat.le_of_ble_eq_true rfl) ?_
  intro p e s m below meth c ls A hx hb hr hml hown hts hlocks _ hA hS hP hD hK hN hl
  have hown : s.vm.findClass RX8 = some m.cls := hown
  have hl : lv_has ls 1 [(0, .ref AT)] := hl
  unfold fm_X8_many at hm
  refine q_gen hS hP ?_
  intro H locs hP hS
  refine lv_aload_n hx hb dX8_many_0 rfl (lv_at hl 0 rfl) ?_
  refine gf_X8_7 (v := .ref AT_al) hx hb hts hown hK hN hP 0 rfl rfl dX8_many_1 ?_
  refine lv_iconst (v := 0) hx hb dX8_many_4 (by decide) ?_
  refine q_iald (j := 0) hx hb hK hP 1 rfl (q_inl (by decide)) (by decide) dX8_many_5 ?_
  have hm := Option.some.inj hm
  subst hm
  exact q_iret (v := (fT_al 0)) hx hb hr hlocks hP hS dX8_many_6
theorem mb_X8_isSleeper : q_mb yX8_isSleeper cX8_isSleeper 2 (some .boolean) 1 := ⟨wc_X8_isSleeper, wn_X8, by decide, by decide, by decide +kernel⟩
theorem mv_X8_isSleeper : q_mv yX8_isSleeper 8 := ⟨wi_X8_isSleeper, ws_X8_isSleeper, _, rfl, rfl⟩
def wd_X8_isSleeper (cI cZ : ClassId) (AT AT_al AT_kp AT_ik AT_rf AT_hd AT_bs AT_se AT_bf AT_te AT_by AT_an AT_vs : Nat) (vT_ab : Int64) (vT_be : Int64) (vT_byl : Int32) (vT_tka : Int32) (vT_tkl : Int32) (vT_tkn : Int32) (vT_val : Int32) (fT_al : Nat → Int32) : va_W := [(AT, .inr (8, [.ref AT_al, .ref AT_kp, .ref AT_ik, .ref AT_rf, .long vT_ab, .long vT_be, .ref AT_hd, .ref AT_bs, .ref AT_se, .ref AT_bf, .ref AT_te, .ref AT_by, .int vT_byl, .int vT_tka, .int vT_tkl, .int vT_tkn, .int vT_val, .ref AT_an, .ref AT_vs])), (AT_al, .inl (cI, 312, .inl fT_al))]
def fm_X8_isSleeper (p1 : Int32) (fT_al : Nat → Int32) : Option (Int32) := Option.bind (fm_X8_many fT_al) (fun r_4 => Option.bind (fm_X8_in (Int32.toInt64 p1) 0 (Int32.toInt64 (r_4 - 1))) (fun r_10 => bz r_10 (some (r_10))))
set_option maxHeartbeats 4000000 in
set_option maxRecDepth 100000 in
theorem c_X8_isSleeper (l : Launch) (D : va_G) (cI cZ : ClassId) (sz : Nat) (AT AT_al AT_kp AT_ik AT_rf AT_hd AT_bs AT_se AT_bf AT_te AT_by AT_an AT_vs : Nat) (vT_ab : Int64) (vT_be : Int64) (vT_byl : Int32) (vT_tka : Int32) (vT_tkl : Int32) (vT_tkn : Int32) (vT_val : Int32) (fT_al : Nat → Int32) (p1 : Int32) (out : (Int32)) (hm : fm_X8_isSleeper p1 fT_al = some out) : Met l yX8_isSleeper (Cond.code yX8_isSleeper cX8_isSleeper 2 (some .boolean) :: bg) { frames := 1, cells := 0, slots := 0, locals := 25 } (va_Pc [.ref AT, .int p1] (q_pre D cI cZ sz (wd_X8_isSleeper cI cZ AT AT_al AT_kp AT_ik AT_rf AT_hd AT_bs AT_se AT_bf AT_te AT_by AT_an AT_vs vT_ab vT_be vT_byl vT_tka vT_tkl vT_tkn vT_val fT_al))) (q_Qi D (wd_X8_isSleeper cI cZ AT AT_al AT_kp AT_ik AT_rf AT_hd AT_bs AT_se AT_bf AT_te AT_by AT_an AT_vs vT_ab vT_be vT_byl vT_tka vT_tkl vT_tkn vT_val fT_al) out (va_A (wd_X8_isSleeper cI cZ AT AT_al AT_kp AT_ik AT_rf AT_hd AT_bs AT_se AT_bf AT_te AT_by AT_an AT_vs vT_ab vT_be vT_byl vT_tka vT_tkl vT_tkn vT_val fT_al) sz)) 0 0 (va_A (wd_X8_isSleeper cI cZ AT AT_al AT_kp AT_ik AT_rf AT_hd AT_bs AT_se AT_bf AT_te AT_by AT_an AT_vs vT_ab vT_be vT_byl vT_tka vT_tkl vT_tkn vT_val fT_al) sz) := by
  refine q_met (fun A => q_Qi D (wd_X8_isSleeper cI cZ AT AT_al AT_kp AT_ik AT_rf AT_hd AT_bs AT_se AT_bf AT_te AT_by AT_an AT_vs vT_ab vT_be vT_byl vT_tka vT_tkl vT_tkn vT_val fT_al) out A) (by decide) (Nat.le_of_ble_eq_true rfl) ?_
  intro p e s m below meth c ls A hx hb hr hml hown hts hlocks _ hA hS hP hD hK hN hl
  have hown : s.vm.findClass RX8 = some m.cls := hown
  have hl : lv_has ls 2 [(0, .ref AT), (1, .int p1)] := hl
  unfold fm_X8_isSleeper at hm
  refine q_gen hS hP ?_
  intro H locs hP hS
  refine lv_iload_n hx hb dX8_isSleeper_0 rfl (lv_at hl 1 rfl) ?_
  refine lv_i2l (v := (Int32.toInt64 p1)) hx hb dX8_isSleeper_1 rfl ?_
  refine lv_lconst (v := 0) hx hb dX8_isSleeper_2 (by decide) ?_
  refine lv_aload_n hx hb dX8_isSleeper_3 rfl (lv_at hl 0 rfl) ?_
  obtain ⟨r_4, hc_4, hm⟩ := ob_s hm
  refine q_ci (q_rv (rest := [.long 0, .long (Int32.toInt64 p1)]) ⟨hx, hb, hml, hown, hts⟩ hK hN hP hD (c_X8_many l D cI cZ H.size AT AT_al AT_kp AT_ik AT_rf AT_hd AT_bs AT_se AT_bf AT_te AT_by AT_an AT_vs vT_ab vT_be vT_byl vT_tka vT_tkl vT_tkn vT_val fT_al r_4 hc_4) mb_X8_many mv_X8_many wl_X8_55 [0, 1] rfl rfl rfl (Nat.le_of_ble_eq_true rfl) (Nat.le_of_ble_eq_true rfl) rfl hl.1 rfl (Nat.le_of_ble_eq_true rfl) ⟨Nat.le_refl 0, Nat.le_refl 0⟩ dX8_isSleeper_4) hP hD hS hA [0, 1] rfl rfl (fun H locs hP hD hS => ?_)
  have hP : va_P D vwCl (wd_X8_isSleeper cI cZ AT AT_al AT_kp AT_ik AT_rf AT_hd AT_bs AT_se AT_bf AT_te AT_by AT_an AT_vs vT_ab vT_be vT_byl vT_tka vT_tkl vT_tkn vT_val fT_al) H := hP
  have hD : va_D A (wd_X8_isSleeper cI cZ AT AT_al AT_kp AT_ik AT_rf AT_hd AT_bs AT_se AT_bf AT_te AT_by AT_an AT_vs vT_ab vT_be vT_byl vT_tka vT_tkl vT_tkn vT_val fT_al) := hD
  refine lv_iconst (v := 1) hx hb dX8_isSleeper_7 (by decide) ?_
  refine lv_isub hx hb dX8_isSleeper_8 ?_
  refine lv_i2l (v := (Int32.toInt64 (r_4 - 1))) hx hb dX8_isSleeper_9 rfl ?_
  obtain ⟨r_10, hc_10, hm⟩ := ob_s hm
  refine q_ci (q_rs (rest := []) ⟨hx, hb, hml, hown, hts⟩ hK hN hP hD (c_X8_in l D cI cZ H.size (Int32.toInt64 p1) 0 (Int32.toInt64 (r_4 - 1)) r_10 hc_10) mb_X8_in wt_X8_in wl_X8_59 [] rfl rfl (Nat.le_of_ble_eq_true rfl) (Nat.le_of_ble_eq_true rfl) rfl hl.1 rfl (Nat.le_of_ble_eq_true rfl) ⟨Nat.le_refl 0, Nat.le_refl 0⟩ dX8_isSleeper_10) hP hD hS hA [] rfl rfl (fun H locs hP hD hS => ?_)
  have hP : va_P D vwCl (wd_X8_isSleeper cI cZ AT AT_al AT_kp AT_ik AT_rf AT_hd AT_bs AT_se AT_bf AT_te AT_by AT_an AT_vs vT_ab vT_be vT_byl vT_tka vT_tkl vT_tkn vT_val fT_al) H := hP
  have hD : va_D A (wd_X8_isSleeper cI cZ AT AT_al AT_kp AT_ik AT_rf AT_hd AT_bs AT_se AT_bf AT_te AT_by AT_an AT_vs vT_ab vT_be vT_byl vT_tka vT_tkl vT_tkn vT_val fT_al) := hD
  obtain ⟨hz, hm⟩ := bz_s hm
  have hm := Option.some.inj hm
  subst hm
  exact q_zret (v := r_10) hx hb hr hlocks hz hP hS dX8_isSleeper_13
theorem mb_X8_isFlower : q_mb yX8_isFlower cX8_isFlower 2 (some .boolean) 1 := ⟨wc_X8_isFlower, wn_X8, by decide, by decide, by decide +kernel⟩
theorem mv_X8_isFlower : q_mv yX8_isFlower 8 := ⟨wi_X8_isFlower, ws_X8_isFlower, _, rfl, rfl⟩
def wd_X8_isFlower (cI cZ : ClassId) (AT AT_al AT_kp AT_ik AT_rf AT_hd AT_bs AT_se AT_bf AT_te AT_by AT_an AT_vs : Nat) (vT_ab : Int64) (vT_be : Int64) (vT_byl : Int32) (vT_tka : Int32) (vT_tkl : Int32) (vT_tkn : Int32) (vT_val : Int32) (fT_al : Nat → Int32) : va_W := [(AT, .inr (8, [.ref AT_al, .ref AT_kp, .ref AT_ik, .ref AT_rf, .long vT_ab, .long vT_be, .ref AT_hd, .ref AT_bs, .ref AT_se, .ref AT_bf, .ref AT_te, .ref AT_by, .int vT_byl, .int vT_tka, .int vT_tkl, .int vT_tkn, .int vT_val, .ref AT_an, .ref AT_vs])), (AT_al, .inl (cI, 312, .inl fT_al))]
def fm_X8_isFlower (p1 : Int32) (fT_al : Nat → Int32) : Option (Int32) := Option.bind (fm_X8_in (Int32.toInt64 p1) 0 (Int32.toInt64 ((fT_al 1) - 1))) (fun r_12 => bz r_12 (some (r_12)))
set_option maxHeartbeats 4000000 in
set_option maxRecDepth 100000 in
theorem c_X8_isFlower (l : Launch) (D : va_G) (cI cZ : ClassId) (sz : Nat) (AT AT_al AT_kp AT_ik AT_rf AT_hd AT_bs AT_se AT_bf AT_te AT_by AT_an AT_vs : Nat) (vT_ab : Int64) (vT_be : Int64) (vT_byl : Int32) (vT_tka : Int32) (vT_tkl : Int32) (vT_tkn : Int32) (vT_val : Int32) (fT_al : Nat → Int32) (p1 : Int32) (out : (Int32)) (hm : fm_X8_isFlower p1 fT_al = some out) : Met l yX8_isFlower (Cond.code yX8_isFlower cX8_isFlower 2 (some .boolean) :: bg) { frames := 1, cells := 0, slots := 0, locals := 25 } (va_Pc [.ref AT, .int p1] (q_pre D cI cZ sz (wd_X8_isFlower cI cZ AT AT_al AT_kp AT_ik AT_rf AT_hd AT_bs AT_se AT_bf AT_te AT_by AT_an AT_vs vT_ab vT_be vT_byl vT_tka vT_tkl vT_tkn vT_val fT_al))) (q_Qi D (wd_X8_isFlower cI cZ AT AT_al AT_kp AT_ik AT_rf AT_hd AT_bs AT_se AT_bf AT_te AT_by AT_an AT_vs vT_ab vT_be vT_byl vT_tka vT_tkl vT_tkn vT_val fT_al) out (va_A (wd_X8_isFlower cI cZ AT AT_al AT_kp AT_ik AT_rf AT_hd AT_bs AT_se AT_bf AT_te AT_by AT_an AT_vs vT_ab vT_be vT_byl vT_tka vT_tkl vT_tkn vT_val fT_al) sz)) 0 0 (va_A (wd_X8_isFlower cI cZ AT AT_al AT_kp AT_ik AT_rf AT_hd AT_bs AT_se AT_bf AT_te AT_by AT_an AT_vs vT_ab vT_be vT_byl vT_tka vT_tkl vT_tkn vT_val fT_al) sz) := by
  refine q_met (fun A => q_Qi D (wd_X8_isFlower cI cZ AT AT_al AT_kp AT_ik AT_rf AT_hd AT_bs AT_se AT_bf AT_te AT_by AT_an AT_vs vT_ab vT_be vT_byl vT_tka vT_tkl vT_tkn vT_val fT_al) out A) (by decide) (Nat.le_of_ble_eq_true rfl) ?_
  intro p e s m below meth c ls A hx hb hr hml hown hts hlocks _ hA hS hP hD hK hN hl
  have hown : s.vm.findClass RX8 = some m.cls := hown
  have hl : lv_has ls 2 [(0, .ref AT), (1, .int p1)] := hl
  unfold fm_X8_isFlower at hm
  refine q_gen hS hP ?_
  intro H locs hP hS
  refine lv_iload_n hx hb dX8_isFlower_0 rfl (lv_at hl 1 rfl) ?_
  refine lv_i2l (v := (Int32.toInt64 p1)) hx hb dX8_isFlower_1 rfl ?_
  refine lv_lconst (v := 0) hx hb dX8_isFlower_2 (by decide) ?_
  refine lv_aload_n hx hb dX8_isFlower_3 rfl (lv_at hl 0 rfl) ?_
  refine gf_X8_7 (v := .ref AT_al) hx hb hts hown hK hN hP 0 rfl rfl dX8_isFlower_4 ?_
  refine lv_iconst (v := 1) hx hb dX8_isFlower_7 (by decide) ?_
  refine q_iald (j := 1) hx hb hK hP 1 rfl (q_inl (by decide)) (by decide) dX8_isFlower_8 ?_
  refine lv_iconst (v := 1) hx hb dX8_isFlower_9 (by decide) ?_
  refine lv_isub hx hb dX8_isFlower_10 ?_
  refine lv_i2l (v := (Int32.toInt64 ((fT_al 1) - 1))) hx hb dX8_isFlower_11 rfl ?_
  obtain ⟨r_12, hc_12, hm⟩ := ob_s hm
  refine q_ci (q_rs (rest := []) ⟨hx, hb, hml, hown, hts⟩ hK hN hP hD (c_X8_in l D cI cZ H.size (Int32.toInt64 p1) 0 (Int32.toInt64 ((fT_al 1) - 1)) r_12 hc_12) mb_X8_in wt_X8_in wl_X8_59 [] rfl rfl (Nat.le_of_ble_eq_true rfl) (Nat.le_of_ble_eq_true rfl) rfl hl.1 rfl (Nat.le_of_ble_eq_true rfl) ⟨Nat.le_refl 0, Nat.le_refl 0⟩ dX8_isFlower_12) hP hD hS hA [] rfl rfl (fun H locs hP hD hS => ?_)
  have hP : va_P D vwCl (wd_X8_isFlower cI cZ AT AT_al AT_kp AT_ik AT_rf AT_hd AT_bs AT_se AT_bf AT_te AT_by AT_an AT_vs vT_ab vT_be vT_byl vT_tka vT_tkl vT_tkn vT_val fT_al) H := hP
  have hD : va_D A (wd_X8_isFlower cI cZ AT AT_al AT_kp AT_ik AT_rf AT_hd AT_bs AT_se AT_bf AT_te AT_by AT_an AT_vs vT_ab vT_be vT_byl vT_tka vT_tkl vT_tkn vT_val fT_al) := hD
  obtain ⟨hz, hm⟩ := bz_s hm
  have hm := Option.some.inj hm
  subst hm
  exact q_zret (v := r_12) hx hb hr hlocks hz hP hS dX8_isFlower_15
theorem mb_X8_isPillow : q_mb yX8_isPillow cX8_isPillow 1 (some .boolean) 1 := ⟨wc_X8_isPillow, wn_X8, by decide, by decide, by decide +kernel⟩
def wd_X8_isPillow (cI cZ : ClassId) : va_W := []
def fm_X8_isPillow (p0 : Int32) : Option (Int32) := Option.bind (fm_X8_in (Int32.toInt64 p0) 0 5) (fun r_6 => bz r_6 (some (r_6)))
set_option maxHeartbeats 4000000 in
set_option maxRecDepth 100000 in
theorem c_X8_isPillow (l : Launch) (D : va_G) (cI cZ : ClassId) (sz : Nat) (p0 : Int32) (out : (Int32)) (hm : fm_X8_isPillow p0 = some out) : Met l yX8_isPillow (Cond.code yX8_isPillow cX8_isPillow 1 (some .boolean) :: bg) { frames := 1, cells := 0, slots := 0, locals := 25 } (va_Pc [.int p0] (q_pre D cI cZ sz (wd_X8_isPillow cI cZ))) (q_Qi D (wd_X8_isPillow cI cZ) out (va_A (wd_X8_isPillow cI cZ) sz)) 0 0 (va_A (wd_X8_isPillow cI cZ) sz) := by
  refine q_met (fun A => q_Qi D (wd_X8_isPillow cI cZ) out A) (by decide) (Nat.le_of_ble_eq_true rfl) ?_
  intro p e s m below meth c ls A hx hb hr hml hown hts hlocks _ hA hS hP hD hK hN hl
  have hown : s.vm.findClass RX8 = some m.cls := hown
  have hl : lv_has ls 1 [(0, .int p0)] := hl
  unfold fm_X8_isPillow at hm
  refine q_gen hS hP ?_
  intro H locs hP hS
  refine lv_iload_n hx hb dX8_isPillow_0 rfl (lv_at hl 0 rfl) ?_
  refine lv_i2l (v := (Int32.toInt64 p0)) hx hb dX8_isPillow_1 rfl ?_
  refine lv_lconst (v := 0) hx hb dX8_isPillow_2 (by decide) ?_
  refine lv_ldc2 (v := 5) hx hb hown (hts _ wv_X8_63) dX8_isPillow_3 ?_
  obtain ⟨r_6, hc_6, hm⟩ := ob_s hm
  refine q_ci (q_rs (rest := []) ⟨hx, hb, hml, hown, hts⟩ hK hN hP hD (c_X8_in l D cI cZ H.size (Int32.toInt64 p0) 0 5 r_6 hc_6) mb_X8_in wt_X8_in wl_X8_59 [] rfl rfl (Nat.le_of_ble_eq_true rfl) (Nat.le_of_ble_eq_true rfl) rfl hl.1 rfl (Nat.le_of_ble_eq_true rfl) ⟨Nat.le_refl 0, Nat.le_refl 0⟩ dX8_isPillow_6) hP hD hS hA [] rfl rfl (fun H locs hP hD hS => ?_)
  have hP : va_P D vwCl (wd_X8_isPillow cI cZ) H := hP
  have hD : va_D A (wd_X8_isPillow cI cZ) := hD
  obtain ⟨hz, hm⟩ := bz_s hm
  have hm := Option.some.inj hm
  subst hm
  exact q_zret (v := r_6) hx hb hr hlocks hz hP hS dX8_isPillow_9
theorem mb_X8_isKind : q_mb yX8_isKind cX8_isKind 1 (some .boolean) 1 := ⟨wc_X8_isKind, wn_X8, by decide, by decide, by decide +kernel⟩
def wd_X8_isKind (cI cZ : ClassId) : va_W := []
def fm_X8_isKind (p0 : Int32) : Option (Int32) := Option.bind (fm_X8_in (Int32.toInt64 p0) 0 5) (fun r_6 => bz r_6 (some (r_6)))
set_option maxHeartbeats 4000000 in
set_option maxRecDepth 100000 in
theorem c_X8_isKind (l : Launch) (D : va_G) (cI cZ : ClassId) (sz : Nat) (p0 : Int32) (out : (Int32)) (hm : fm_X8_isKind p0 = some out) : Met l yX8_isKind (Cond.code yX8_isKind cX8_isKind 1 (some .boolean) :: bg) { frames := 1, cells := 0, slots := 0, locals := 25 } (va_Pc [.int p0] (q_pre D cI cZ sz (wd_X8_isKind cI cZ))) (q_Qi D (wd_X8_isKind cI cZ) out (va_A (wd_X8_isKind cI cZ) sz)) 0 0 (va_A (wd_X8_isKind cI cZ) sz) := by
  refine q_met (fun A => q_Qi D (wd_X8_isKind cI cZ) out A) (by decide) (Nat.le_of_ble_eq_true rfl) ?_
  intro p e s m below meth c ls A hx hb hr hml hown hts hlocks _ hA hS hP hD hK hN hl
  have hown : s.vm.findClass RX8 = some m.cls := hown
  have hl : lv_has ls 1 [(0, .int p0)] := hl
  unfold fm_X8_isKind at hm
  refine q_gen hS hP ?_
  intro H locs hP hS
  refine lv_iload_n hx hb dX8_isKind_0 rfl (lv_at hl 0 rfl) ?_
  refine lv_i2l (v := (Int32.toInt64 p0)) hx hb dX8_isKind_1 rfl ?_
  refine lv_lconst (v := 0) hx hb dX8_isKind_2 (by decide) ?_
  refine lv_ldc2 (v := 5) hx hb hown (hts _ wv_X8_63) dX8_isKind_3 ?_
  obtain ⟨r_6, hc_6, hm⟩ := ob_s hm
  refine q_ci (q_rs (rest := []) ⟨hx, hb, hml, hown, hts⟩ hK hN hP hD (c_X8_in l D cI cZ H.size (Int32.toInt64 p0) 0 5 r_6 hc_6) mb_X8_in wt_X8_in wl_X8_59 [] rfl rfl (Nat.le_of_ble_eq_true rfl) (Nat.le_of_ble_eq_true rfl) rfl hl.1 rfl (Nat.le_of_ble_eq_true rfl) ⟨Nat.le_refl 0, Nat.le_refl 0⟩ dX8_isKind_6) hP hD hS hA [] rfl rfl (fun H locs hP hD hS => ?_)
  have hP : va_P D vwCl (wd_X8_isKind cI cZ) H := hP
  have hD : va_D A (wd_X8_isKind cI cZ) := hD
  obtain ⟨hz, hm⟩ := bz_s hm
  have hm := Option.some.inj hm
  subst hm
  exact q_zret (v := r_6) hx hb hr hlocks hz hP hS dX8_isKind_9
theorem mb_X8_isWord : q_mb yX8_isWord cX8_isWord 1 (some .boolean) 1 := ⟨wc_X8_isWord, wn_X8, by decide, by decide, by decide +kernel⟩
def wd_X8_isWord (cI cZ : ClassId) : va_W := []
def fm_X8_isWord (p0 : Int32) : Option (Int32) := Option.bind (fm_X8_in (Int32.toInt64 p0) 1 9) (fun r_6 => bz r_6 (some (r_6)))
set_option maxHeartbeats 4000000 in
set_option maxRecDepth 100000 in
theorem c_X8_isWord (l : Launch) (D : va_G) (cI cZ : ClassId) (sz : Nat) (p0 : Int32) (out : (Int32)) (hm : fm_X8_isWord p0 = some out) : Met l yX8_isWord (Cond.code yX8_isWord cX8_isWord 1 (some .boolean) :: bg) { frames := 1, cells := 0, slots := 0, locals := 25 } (va_Pc [.int p0] (q_pre D cI cZ sz (wd_X8_isWord cI cZ))) (q_Qi D (wd_X8_isWord cI cZ) out (va_A (wd_X8_isWord cI cZ) sz)) 0 0 (va_A (wd_X8_isWord cI cZ) sz) := by
  refine q_met (fun A => q_Qi D (wd_X8_isWord cI cZ) out A) (by decide) (Nat.le_of_ble_eq_true rfl) ?_
  intro p e s m below meth c ls A hx hb hr hml hown hts hlocks _ hA hS hP hD hK hN hl
  have hown : s.vm.findClass RX8 = some m.cls := hown
  have hl : lv_has ls 1 [(0, .int p0)] := hl
  unfold fm_X8_isWord at hm
  refine q_gen hS hP ?_
  intro H locs hP hS
  refine lv_iload_n hx hb dX8_isWord_0 rfl (lv_at hl 0 rfl) ?_
  refine lv_i2l (v := (Int32.toInt64 p0)) hx hb dX8_isWord_1 rfl ?_
  refine lv_lconst (v := 1) hx hb dX8_isWord_2 (by decide) ?_
  refine lv_ldc2 (v := 9) hx hb hown (hts _ wv_X8_65) dX8_isWord_3 ?_
  obtain ⟨r_6, hc_6, hm⟩ := ob_s hm
  refine q_ci (q_rs (rest := []) ⟨hx, hb, hml, hown, hts⟩ hK hN hP hD (c_X8_in l D cI cZ H.size (Int32.toInt64 p0) 1 9 r_6 hc_6) mb_X8_in wt_X8_in wl_X8_59 [] rfl rfl (Nat.le_of_ble_eq_true rfl) (Nat.le_of_ble_eq_true rfl) rfl hl.1 rfl (Nat.le_of_ble_eq_true rfl) ⟨Nat.le_refl 0, Nat.le_refl 0⟩ dX8_isWord_6) hP hD hS hA [] rfl rfl (fun H locs hP hD hS => ?_)
  have hP : va_P D vwCl (wd_X8_isWord cI cZ) H := hP
  have hD : va_D A (wd_X8_isWord cI cZ) := hD
  obtain ⟨hz, hm⟩ := bz_s hm
  have hm := Option.some.inj hm
  subst hm
  exact q_zret (v := r_6) hx hb hr hlocks hz hP hS dX8_isWord_9
theorem mb_X8_isWool : q_mb yX8_isWool cX8_isWool 1 (some .boolean) 1 := ⟨wc_X8_isWool, wn_X8, by decide, by decide, by decide +kernel⟩
def wd_X8_isWool (cI cZ : ClassId) : va_W := []
def fm_X8_isWool (p0 : Int32) : Option (Int32) := Option.bind (fm_X8_in (Int32.toInt64 p0) 0 9) (fun r_6 => bz r_6 (some (r_6)))
set_option maxHeartbeats 4000000 in
set_option maxRecDepth 100000 in
theorem c_X8_isWool (l : Launch) (D : va_G) (cI cZ : ClassId) (sz : Nat) (p0 : Int32) (out : (Int32)) (hm : fm_X8_isWool p0 = some out) : Met l yX8_isWool (Cond.code yX8_isWool cX8_isWool 1 (some .boolean) :: bg) { frames := 1, cells := 0, slots := 0, locals := 25 } (va_Pc [.int p0] (q_pre D cI cZ sz (wd_X8_isWool cI cZ))) (q_Qi D (wd_X8_isWool cI cZ) out (va_A (wd_X8_isWool cI cZ) sz)) 0 0 (va_A (wd_X8_isWool cI cZ) sz) := by
  refine q_met (fun A => q_Qi D (wd_X8_isWool cI cZ) out A) (by decide) (Nat.le_of_ble_eq_true rfl) ?_
  intro p e s m below meth c ls A hx hb hr hml hown hts hlocks _ hA hS hP hD hK hN hl
  have hown : s.vm.findClass RX8 = some m.cls := hown
  have hl : lv_has ls 1 [(0, .int p0)] := hl
  unfold fm_X8_isWool at hm
  refine q_gen hS hP ?_
  intro H locs hP hS
  refine lv_iload_n hx hb dX8_isWool_0 rfl (lv_at hl 0 rfl) ?_
  refine lv_i2l (v := (Int32.toInt64 p0)) hx hb dX8_isWool_1 rfl ?_
  refine lv_lconst (v := 0) hx hb dX8_isWool_2 (by decide) ?_
  refine lv_ldc2 (v := 9) hx hb hown (hts _ wv_X8_65) dX8_isWool_3 ?_
  obtain ⟨r_6, hc_6, hm⟩ := ob_s hm
  refine q_ci (q_rs (rest := []) ⟨hx, hb, hml, hown, hts⟩ hK hN hP hD (c_X8_in l D cI cZ H.size (Int32.toInt64 p0) 0 9 r_6 hc_6) mb_X8_in wt_X8_in wl_X8_59 [] rfl rfl (Nat.le_of_ble_eq_true rfl) (Nat.le_of_ble_eq_true rfl) rfl hl.1 rfl (Nat.le_of_ble_eq_true rfl) ⟨Nat.le_refl 0, Nat.le_refl 0⟩ dX8_isWool_6) hP hD hS hA [] rfl rfl (fun H locs hP hD hS => ?_)
  have hP : va_P D vwCl (wd_X8_isWool cI cZ) H := hP
  have hD : va_D A (wd_X8_isWool cI cZ) := hD
  obtain ⟨hz, hm⟩ := bz_s hm
  have hm := Option.some.inj hm
  subst hm
  exact q_zret (v := r_6) hx hb hr hlocks hz hP hS dX8_isWool_9
theorem mb_X8_office : q_mb yX8_office cX8_office 2 (some .int) 0 := ⟨wc_X8_office, wn_X8, by decide, by decide, by decide +kernel⟩
theorem mv_X8_office : q_mv yX8_office 8 := ⟨wi_X8_office, ws_X8_office, _, rfl, rfl⟩
def wd_X8_office (cI cZ : ClassId) (AT AT_al AT_kp AT_ik AT_rf AT_hd AT_bs AT_se AT_bf AT_te AT_by AT_an AT_vs : Nat) (vT_ab : Int64) (vT_be : Int64) (vT_byl : Int32) (vT_tka : Int32) (vT_tkl : Int32) (vT_tkn : Int32) (vT_val : Int32) (fT_al : Nat → Int32) : va_W := [(AT, .inr (8, [.ref AT_al, .ref AT_kp, .ref AT_ik, .ref AT_rf, .long vT_ab, .long vT_be, .ref AT_hd, .ref AT_bs, .ref AT_se, .ref AT_bf, .ref AT_te, .ref AT_by, .int vT_byl, .int vT_tka, .int vT_tkl, .int vT_tkn, .int vT_val, .ref AT_an, .ref AT_vs])), (AT_al, .inl (cI, 312, .inl fT_al))]
def fm_X8_office (fT_al : Nat → Int32) : Option (Int32 × (Nat → Int32)) := Option.bind (fm_X8_many fT_al) (fun r_1 => Option.bind (fm_X8_begin 312 fT_al) (fun r_9 => some (r_1, r_9)))
set_option maxHeartbeats 4000000 in
set_option maxRecDepth 100000 in
theorem c_X8_office (l : Launch) (D : va_G) (cI cZ : ClassId) (sz : Nat) (AT AT_al AT_kp AT_ik AT_rf AT_hd AT_bs AT_se AT_bf AT_te AT_by AT_an AT_vs : Nat) (vT_ab : Int64) (vT_be : Int64) (vT_byl : Int32) (vT_tka : Int32) (vT_tkl : Int32) (vT_tkn : Int32) (vT_val : Int32) (fT_al : Nat → Int32) (out : (Int32 × (Nat → Int32))) (hm : fm_X8_office fT_al = some out) : Met l yX8_office (Cond.code yX8_office cX8_office 2 (some .int) :: bg) { frames := 1, cells := 0, slots := 0, locals := 21 } (va_Pc [.ref AT] (q_pre D cI cZ sz (wd_X8_office cI cZ AT AT_al AT_kp AT_ik AT_rf AT_hd AT_bs AT_se AT_bf AT_te AT_by AT_an AT_vs vT_ab vT_be vT_byl vT_tka vT_tkl vT_tkn vT_val fT_al))) (q_Qi D (wd_X8_office cI cZ AT AT_al AT_kp AT_ik AT_rf AT_hd AT_bs AT_se AT_bf AT_te AT_by AT_an AT_vs vT_ab vT_be vT_byl vT_tka vT_tkl vT_tkn vT_val out.2) out.1 (va_A (wd_X8_office cI cZ AT AT_al AT_kp AT_ik AT_rf AT_hd AT_bs AT_se AT_bf AT_te AT_by AT_an AT_vs vT_ab vT_be vT_byl vT_tka vT_tkl vT_tkn vT_val fT_al) sz)) 0 0 (va_A (wd_X8_office cI cZ AT AT_al AT_kp AT_ik AT_rf AT_hd AT_bs AT_se AT_bf AT_te AT_by AT_an AT_vs vT_ab vT_be vT_byl vT_tka vT_tkl vT_tkn vT_val fT_al) sz) := by
  refine q_met (fun A => q_Qi D (wd_X8_office cI cZ AT AT_al AT_kp AT_ik AT_rf AT_hd AT_bs AT_se AT_bf AT_te AT_by AT_an AT_vs vT_ab vT_be vT_byl vT_tka vT_tkl vT_tkn vT_val out.2) out.1 A) (by decide) (Nat.le_of_ble_eq_true rfl) ?_
  intro p e s m below meth c ls A hx hb hr hml hown hts hlocks _ hA hS hP hD hK hN hl
  have hown : s.vm.findClass RX8 = some m.cls := hown
  have hl : lv_has ls 2 [(0, .ref AT)] := hl
  unfold fm_X8_office at hm
  refine q_gen hS hP ?_
  intro H locs hP hS
  refine lv_aload_n hx hb dX8_office_0 rfl (lv_at hl 0 rfl) ?_
  obtain ⟨r_1, hc_1, hm⟩ := ob_s hm
  refine q_ci (q_rv (rest := []) ⟨hx, hb, hml, hown, hts⟩ hK hN hP hD (c_X8_many l D cI cZ H.size AT AT_al AT_kp AT_ik AT_rf AT_hd AT_bs AT_se AT_bf AT_te AT_by AT_an AT_vs vT_ab vT_be vT_byl vT_tka vT_tkl vT_tkn vT_val fT_al r_1 hc_1) mb_X8_many mv_X8_many wl_X8_55 [0, 1] rfl rfl rfl (Nat.le_of_ble_eq_true rfl) (Nat.le_of_ble_eq_true rfl) rfl hl.1 rfl (Nat.le_of_ble_eq_true rfl) ⟨Nat.le_refl 0, Nat.le_refl 0⟩ dX8_office_1) hP hD hS hA [0, 1] rfl rfl (fun H locs hP hD hS => ?_)
  have hP : va_P D vwCl (wd_X8_office cI cZ AT AT_al AT_kp AT_ik AT_rf AT_hd AT_bs AT_se AT_bf AT_te AT_by AT_an AT_vs vT_ab vT_be vT_byl vT_tka vT_tkl vT_tkn vT_val fT_al) H := hP
  have hD : va_D A (wd_X8_office cI cZ AT AT_al AT_kp AT_ik AT_rf AT_hd AT_bs AT_se AT_bf AT_te AT_by AT_an AT_vs vT_ab vT_be vT_byl vT_tka vT_tkl vT_tkn vT_val fT_al) := hD
  refine lv_istore_n (lv' := [(1, .int r_1), (0, .ref AT)]) hx hb dX8_office_4 rfl hl (by decide) rfl (fun ls hl => ?_)
  refine lv_aload_n hx hb dX8_office_5 rfl (lv_at hl 1 rfl) ?_
  refine gf_X8_7 (v := .ref AT_al) hx hb hts hown hK hN hP 0 rfl rfl dX8_office_6 ?_
  obtain ⟨r_9, hc_9, hm⟩ := ob_s hm
  refine q_cv (q_rs (rest := []) ⟨hx, hb, hml, hown, hts⟩ hK hN hP hD (c_X8_begin l D cI cZ H.size AT_al 312 fT_al r_9 hc_9) mb_X8_begin wt_X8_begin wl_X8_51 [1] rfl rfl (Nat.le_of_ble_eq_true rfl) (Nat.le_of_ble_eq_true rfl) rfl hl.1 rfl (Nat.le_of_ble_eq_true rfl) ⟨Nat.le_refl 0, Nat.le_refl 0⟩ dX8_office_9) hP hD hS hA [1] rfl rfl (fun H locs hP hD hS => ?_)
  have hP : va_P D vwCl (wd_X8_office cI cZ AT AT_al AT_kp AT_ik AT_rf AT_hd AT_bs AT_se AT_bf AT_te AT_by AT_an AT_vs vT_ab vT_be vT_byl vT_tka vT_tkl vT_tkn vT_val r_9) H := hP
  have hD : va_D A (wd_X8_office cI cZ AT AT_al AT_kp AT_ik AT_rf AT_hd AT_bs AT_se AT_bf AT_te AT_by AT_an AT_vs vT_ab vT_be vT_byl vT_tka vT_tkl vT_tkn vT_val r_9) := hD
  refine lv_iload_n hx hb dX8_office_12 rfl (lv_at hl 0 rfl) ?_
  have hm := Option.some.inj hm
  subst hm
  exact q_iret (v := r_1) hx hb hr hlocks hP hS dX8_office_13
theorem mb_X8_whoOn : q_mb yX8_whoOn cX8_whoOn 3 (some .int) 2 := ⟨wc_X8_whoOn, wn_X8, by decide, by decide, by decide +kernel⟩
def wd_X8_whoOn (cI cZ : ClassId) (A0 : Nat) (n0 : Nat) (f0 : Nat → Int32) : va_W := [(A0, .inl (cI, n0, .inl f0))]
def fL_X8_whoOn_2 (n0 : Nat) (p1 : Int32) (f0 : Nat → Int32) : Nat → Int32 → Option (Int32)
  | 0, _ => none
  | fu + 1, x2 => gd 0 n0 (if (f0 0) ≤ x2 then (some ((-1))) else (gd (6 + x2) n0 (if (f0 (Int32.toNatClampNeg (6 + x2))) = p1 then (some (x2)) else (fL_X8_whoOn_2 n0 p1 f0 fu (x2 + 1)))))
def fm_X8_whoOn (n0 : Nat) (p1 : Int32) (f0 : Nat → Int32) : Option (Int32) := fL_X8_whoOn_2 n0 p1 f0 FU 0
set_option maxHeartbeats 4000000 in
set_option maxRecDepth 100000 in
theorem c_X8_whoOn (l : Launch) (D : va_G) (cI cZ : ClassId) (sz : Nat) (A0 : Nat) (n0 : Nat) (f0 : Nat → Int32) (p1 : Int32) (out : (Int32)) (hm : fm_X8_whoOn n0 p1 f0 = some out) : Met l yX8_whoOn (Cond.code yX8_whoOn cX8_whoOn 3 (some .int) :: bg) { frames := 0, cells := 0, slots := 0, locals := 0 } (va_Pc [.ref A0, .int p1] (q_pre D cI cZ sz (wd_X8_whoOn cI cZ A0 n0 f0))) (q_Qi D (wd_X8_whoOn cI cZ A0 n0 f0) out (va_A (wd_X8_whoOn cI cZ A0 n0 f0) sz)) 0 0 (va_A (wd_X8_whoOn cI cZ A0 n0 f0) sz) := by
  refine q_met (fun A => q_Qi D (wd_X8_whoOn cI cZ A0 n0 f0) out A) (by decide) (Nat.le_of_ble_eq_true rfl) ?_
  intro p e s m below meth c ls A hx hb hr hml hown hts hlocks _ hA hS hP hD hK hN hl
  have hown : s.vm.findClass RX8 = some m.cls := hown
  have hl : lv_has ls 3 [(0, .ref A0), (1, .int p1)] := hl
  have hL_2 : ∀ (fu_2 : Nat) (x2 : Int32) (H : Heap) (locs : List Loc) (ls : Array Slot), fL_X8_whoOn_2 n0 p1 f0 fu_2 x2 = some out → va_P D vwCl (wd_X8_whoOn cI cZ A0 n0 f0) H → va_D A (wd_X8_whoOn cI cZ A0 n0 f0) → va_S A s.heap H locs → lv_has ls 3 [(2, .int x2), (0, .ref A0), (1, .int p1)] → W p l e { frames := 0, cells := 0, slots := 0, locals := 0 } s m ([.ref A0, .int p1] : List Value).toArray below meth c H locs 0 0 (MQ below (q_Qi D (wd_X8_whoOn cI cZ A0 n0 f0) out A) ([.ref A0, .int p1] : List Value).toArray s 0 0 A) (F0 m 2 ls []) := by
    intro fu_2
    induction fu_2 with
    | zero => intro x2 H locs ls hm hP hD hS hl; exact absurd (show (none : Option (Int32)) = some out from hm) (fun h => nomatch h)
    | succ fu_2 ih_2 =>
      intro x2 H locs ls hm hP hD hS hl
      rw [fL_X8_whoOn_2] at hm
      refine lv_iload_n hx hb dX8_whoOn_2 rfl (lv_at hl 0 rfl) ?_
      refine lv_aload_n hx hb dX8_whoOn_3 rfl (lv_at hl 1 rfl) ?_
      refine lv_iconst (v := 0) hx hb dX8_whoOn_4 (by decide) ?_
      obtain ⟨hi_5, hm⟩ := gd_s hm
      refine q_iald (j := 0) hx hb hK hP 0 rfl hi_5 (by decide) dX8_whoOn_5 ?_
      refine lv_icmp_ge (tgt := 27) hx hb dX8_whoOn_6 (by decide) (fun c_6 => ?_) (fun c_6 => ?_)
      · have hm := it_s c_6 hm
        refine lv_iconst (v := (-1)) hx hb dX8_whoOn_27 (by decide) ?_
        have hm := Option.some.inj hm
        subst hm
        exact q_iret (v := (-1)) hx hb hr hlocks hP hS dX8_whoOn_28
      · have hm := it_n c_6 hm
        refine lv_aload_n hx hb dX8_whoOn_9 rfl (lv_at hl 1 rfl) ?_
        refine lv_bipush (v := 6) hx hb dX8_whoOn_10 (by decide) ?_
        refine lv_iload_n hx hb dX8_whoOn_12 rfl (lv_at hl 0 rfl) ?_
        refine lv_iadd hx hb dX8_whoOn_13 ?_
        obtain ⟨hi_14, hm⟩ := gd_s hm
        refine q_iald (j := (Int32.toNatClampNeg (6 + x2))) hx hb hK hP 0 rfl hi_14 rfl dX8_whoOn_14 ?_
        refine lv_iload_n hx hb dX8_whoOn_15 rfl (lv_at hl 2 rfl) ?_
        refine lv_icmp_ne (tgt := 21) hx hb dX8_whoOn_16 (by decide) (fun c_16 => ?_) (fun c_16 => ?_)
        · have hm := it_n c_16 hm
          refine lv_iinc (v := (x2 + 1)) (lv' := [(2, .int (x2 + 1)), (0, .ref A0), (1, .int p1)]) hx hb dX8_whoOn_21 hl (k := 0) rfl rfl (by decide) rfl (fun ls hl => ?_)
          refine lv_goto (tgt := 2) hx hb dX8_whoOn_24 (by decide) ?_
          exact ih_2 (x2 + 1) H locs ls hm hP hD hS (lv_sub hl [0, 1, 2] rfl)
        · have hm := it_s c_16 hm
          refine lv_iload_n hx hb dX8_whoOn_19 rfl (lv_at hl 0 rfl) ?_
          have hm := Option.some.inj hm
          subst hm
          exact q_iret (v := x2) hx hb hr hlocks hP hS dX8_whoOn_20
  unfold fm_X8_whoOn at hm
  refine q_gen hS hP ?_
  intro H locs hP hS
  refine lv_iconst (v := 0) hx hb dX8_whoOn_0 (by decide) ?_
  refine lv_istore_n (lv' := [(2, .int 0), (0, .ref A0), (1, .int p1)]) hx hb dX8_whoOn_1 rfl hl (by decide) rfl (fun ls hl => ?_)
  exact hL_2 FU 0 H locs ls hm hP hD hS (lv_sub hl [0, 1, 2] rfl)
theorem mb_X8_laySleeper : q_mb yX8_laySleeper cX8_laySleeper 5 none 3 := ⟨wc_X8_laySleeper, wn_X8, by decide, by decide, by decide +kernel⟩
def wd_X8_laySleeper (cI cZ : ClassId) (A0 : Nat) (n0 : Nat) (f0 : Nat → Int32) : va_W := [(A0, .inl (cI, n0, .inl f0))]
def fL_X8_laySleeper_7 (n0 : Nat) (p1 : Int32) (p2 : Int32) : Nat → Int32 → Int32 → (Nat → Int32) → Option ((Nat → Int32))
  | 0, _, _, _ => none
  | fu + 1, x4, x3, f0 => Option.bind (fm_X8_whoOn n0 x4 f0) (fun r_10 => if r_10 = (-1) then (gd (31 + x3) n0 (gd (6 + x3) n0 (gd (12 + x3) n0 (gd (18 + x3) n0 (gd 0 n0 (some ((upd (upd (upd (upd (upd f0 (Int32.toNatClampNeg (31 + x3)) p1) (Int32.toNatClampNeg (6 + x3)) x4) (Int32.toNatClampNeg (12 + x3)) p2) (Int32.toNatClampNeg (18 + x3)) 0) 0 (((upd (upd (upd (upd f0 (Int32.toNatClampNeg (31 + x3)) p1) (Int32.toNatClampNeg (6 + x3)) x4) (Int32.toNatClampNeg (12 + x3)) p2) (Int32.toNatClampNeg (18 + x3)) 0) 0) + 1))))))))) else (fL_X8_laySleeper_7 n0 p1 p2 fu (x4 + 1) x3 f0))
def fm_X8_laySleeper (n0 : Nat) (p1 : Int32) (p2 : Int32) (f0 : Nat → Int32) : Option ((Nat → Int32)) := gd 0 n0 (fL_X8_laySleeper_7 n0 p1 p2 FU 0 (f0 0) f0)
set_option maxHeartbeats 4000000 in
set_option maxRecDepth 100000 in
theorem c_X8_laySleeper (l : Launch) (D : va_G) (cI cZ : ClassId) (sz : Nat) (A0 : Nat) (n0 : Nat) (f0 : Nat → Int32) (p1 : Int32) (p2 : Int32) (out : ((Nat → Int32))) (hm : fm_X8_laySleeper n0 p1 p2 f0 = some out) : Met l yX8_laySleeper (Cond.code yX8_laySleeper cX8_laySleeper 5 none :: bg) { frames := 1, cells := 0, slots := 0, locals := 22 } (va_Pc [.ref A0, .int p1, .int p2] (q_pre D cI cZ sz (wd_X8_laySleeper cI cZ A0 n0 f0))) (q_Qv D (wd_X8_laySleeper cI cZ A0 n0 out) (va_A (wd_X8_laySleeper cI cZ A0 n0 f0) sz)) 0 0 (va_A (wd_X8_laySleeper cI cZ A0 n0 f0) sz) := by
  refine q_met (fun A => q_Qv D (wd_X8_laySleeper cI cZ A0 n0 out) A) (by decide) (Nat.le_of_ble_eq_true rfl) ?_
  intro p e s m below meth c ls A hx hb hr hml hown hts hlocks _ hA hS hP hD hK hN hl
  have hown : s.vm.findClass RX8 = some m.cls := hown
  have hl : lv_has ls 5 [(0, .ref A0), (1, .int p1), (2, .int p2)] := hl
  have hL_7 : ∀ (fu_7 : Nat) (x4 : Int32) (x3 : Int32) (f0 : Nat → Int32) (H : Heap) (locs : List Loc) (ls : Array Slot), fL_X8_laySleeper_7 n0 p1 p2 fu_7 x4 x3 f0 = some out → va_P D vwCl (wd_X8_laySleeper cI cZ A0 n0 f0) H → va_D A (wd_X8_laySleeper cI cZ A0 n0 f0) → va_S A s.heap H locs → lv_has ls 5 [(4, .int x4), (3, .int x3), (0, .ref A0), (1, .int p1), (2, .int p2)] → W p l e { frames := 1, cells := 0, slots := 0, locals := 22 } s m ([.ref A0, .int p1, .int p2] : List Value).toArray below meth c H locs 0 0 (MQ below (q_Qv D (wd_X8_laySleeper cI cZ A0 n0 out) A) ([.ref A0, .int p1, .int p2] : List Value).toArray s 0 0 A) (F0 m 7 ls []) := by
    intro fu_7
    induction fu_7 with
    | zero => intro x4 x3 f0 H locs ls hm hP hD hS hl; exact absurd (show (none : Option ((Nat → Int32))) = some out from hm) (fun h => nomatch h)
    | succ fu_7 ih_7 =>
      intro x4 x3 f0 H locs ls hm hP hD hS hl
      rw [fL_X8_laySleeper_7] at hm
      refine lv_aload_n hx hb dX8_laySleeper_7 rfl (lv_at hl 2 rfl) ?_
      refine lv_iload hx hb dX8_laySleeper_8 (lv_at hl 0 rfl) ?_
      obtain ⟨r_10, hc_10, hm⟩ := ob_s hm
      refine q_ci (q_rs (rest := []) ⟨hx, hb, hml, hown, hts⟩ hK hN hP hD (c_X8_whoOn l D cI cZ H.size A0 n0 f0 x4 r_10 hc_10) mb_X8_whoOn wt_X8_whoOn wl_X8_67 [0] rfl rfl (Nat.le_of_ble_eq_true rfl) (Nat.le_of_ble_eq_true rfl) rfl hl.1 rfl (Nat.le_of_ble_eq_true rfl) ⟨Nat.le_refl 0, Nat.le_refl 0⟩ dX8_laySleeper_10) hP hD hS hA [0] rfl rfl (fun H locs hP hD hS => ?_)
      have hP : va_P D vwCl (wd_X8_laySleeper cI cZ A0 n0 f0) H := hP
      have hD : va_D A (wd_X8_laySleeper cI cZ A0 n0 f0) := hD
      refine lv_iconst (v := (-1)) hx hb dX8_laySleeper_13 (by decide) ?_
      refine lv_icmp_eq (tgt := 23) hx hb dX8_laySleeper_14 (by decide) (fun c_14 => ?_) (fun c_14 => ?_)
      · have hm := it_s c_14 hm
        refine lv_aload_n hx hb dX8_laySleeper_23 rfl (lv_at hl 2 rfl) ?_
        refine lv_bipush (v := 31) hx hb dX8_laySleeper_24 (by decide) ?_
        refine lv_iload_n hx hb dX8_laySleeper_26 rfl (lv_at hl 1 rfl) ?_
        refine lv_iadd hx hb dX8_laySleeper_27 ?_
        refine lv_iload_n hx hb dX8_laySleeper_28 rfl (lv_at hl 3 rfl) ?_
        obtain ⟨hi_29, hm⟩ := gd_s hm
        refine q_iast (j := (Int32.toNatClampNeg (31 + x3))) hx hb hK hP hD hS 0 rfl hi_29 rfl dX8_laySleeper_29 (fun H locs hP hD hS => ?_)
        have hP : va_P D vwCl (wd_X8_laySleeper cI cZ A0 n0 (upd f0 (Int32.toNatClampNeg (31 + x3)) p1)) H := hP
        have hD : va_D A (wd_X8_laySleeper cI cZ A0 n0 (upd f0 (Int32.toNatClampNeg (31 + x3)) p1)) := hD
        refine lv_aload_n hx hb dX8_laySleeper_30 rfl (lv_at hl 2 rfl) ?_
        refine lv_bipush (v := 6) hx hb dX8_laySleeper_31 (by decide) ?_
        refine lv_iload_n hx hb dX8_laySleeper_33 rfl (lv_at hl 1 rfl) ?_
        refine lv_iadd hx hb dX8_laySleeper_34 ?_
        refine lv_iload hx hb dX8_laySleeper_35 (lv_at hl 0 rfl) ?_
        obtain ⟨hi_37, hm⟩ := gd_s hm
        refine q_iast (j := (Int32.toNatClampNeg (6 + x3))) hx hb hK hP hD hS 0 rfl hi_37 rfl dX8_laySleeper_37 (fun H locs hP hD hS => ?_)
        have hP : va_P D vwCl (wd_X8_laySleeper cI cZ A0 n0 (upd (upd f0 (Int32.toNatClampNeg (31 + x3)) p1) (Int32.toNatClampNeg (6 + x3)) x4)) H := hP
        have hD : va_D A (wd_X8_laySleeper cI cZ A0 n0 (upd (upd f0 (Int32.toNatClampNeg (31 + x3)) p1) (Int32.toNatClampNeg (6 + x3)) x4)) := hD
        refine lv_aload_n hx hb dX8_laySleeper_38 rfl (lv_at hl 2 rfl) ?_
        refine lv_bipush (v := 12) hx hb dX8_laySleeper_39 (by decide) ?_
        refine lv_iload_n hx hb dX8_laySleeper_41 rfl (lv_at hl 1 rfl) ?_
        refine lv_iadd hx hb dX8_laySleeper_42 ?_
        refine lv_iload_n hx hb dX8_laySleeper_43 rfl (lv_at hl 4 rfl) ?_
        obtain ⟨hi_44, hm⟩ := gd_s hm
        refine q_iast (j := (Int32.toNatClampNeg (12 + x3))) hx hb hK hP hD hS 0 rfl hi_44 rfl dX8_laySleeper_44 (fun H locs hP hD hS => ?_)
        have hP : va_P D vwCl (wd_X8_laySleeper cI cZ A0 n0 (upd (upd (upd f0 (Int32.toNatClampNeg (31 + x3)) p1) (Int32.toNatClampNeg (6 + x3)) x4) (Int32.toNatClampNeg (12 + x3)) p2)) H := hP
        have hD : va_D A (wd_X8_laySleeper cI cZ A0 n0 (upd (upd (upd f0 (Int32.toNatClampNeg (31 + x3)) p1) (Int32.toNatClampNeg (6 + x3)) x4) (Int32.toNatClampNeg (12 + x3)) p2)) := hD
        refine lv_aload_n hx hb dX8_laySleeper_45 rfl (lv_at hl 2 rfl) ?_
        refine lv_bipush (v := 18) hx hb dX8_laySleeper_46 (by decide) ?_
        refine lv_iload_n hx hb dX8_laySleeper_48 rfl (lv_at hl 1 rfl) ?_
        refine lv_iadd hx hb dX8_laySleeper_49 ?_
        refine lv_iconst (v := 0) hx hb dX8_laySleeper_50 (by decide) ?_
        obtain ⟨hi_51, hm⟩ := gd_s hm
        refine q_iast (j := (Int32.toNatClampNeg (18 + x3))) hx hb hK hP hD hS 0 rfl hi_51 rfl dX8_laySleeper_51 (fun H locs hP hD hS => ?_)
        have hP : va_P D vwCl (wd_X8_laySleeper cI cZ A0 n0 (upd (upd (upd (upd f0 (Int32.toNatClampNeg (31 + x3)) p1) (Int32.toNatClampNeg (6 + x3)) x4) (Int32.toNatClampNeg (12 + x3)) p2) (Int32.toNatClampNeg (18 + x3)) 0)) H := hP
        have hD : va_D A (wd_X8_laySleeper cI cZ A0 n0 (upd (upd (upd (upd f0 (Int32.toNatClampNeg (31 + x3)) p1) (Int32.toNatClampNeg (6 + x3)) x4) (Int32.toNatClampNeg (12 + x3)) p2) (Int32.toNatClampNeg (18 + x3)) 0)) := hD
        refine lv_aload_n hx hb dX8_laySleeper_52 rfl (lv_at hl 2 rfl) ?_
        refine lv_iconst (v := 0) hx hb dX8_laySleeper_53 (by decide) ?_
        refine lv_dup2_11 hx hb dX8_laySleeper_54 rfl rfl ?_
        obtain ⟨hi_55, hm⟩ := gd_s hm
        refine q_iald (j := 0) hx hb hK hP 0 rfl hi_55 (by decide) dX8_laySleeper_55 ?_
        refine lv_iconst (v := 1) hx hb dX8_laySleeper_56 (by decide) ?_
        refine lv_iadd hx hb dX8_laySleeper_57 ?_
        refine q_iast (j := 0) hx hb hK hP hD hS 0 rfl hi_55 (by decide) dX8_laySleeper_58 (fun H locs hP hD hS => ?_)
        have hP : va_P D vwCl (wd_X8_laySleeper cI cZ A0 n0 (upd (upd (upd (upd (upd f0 (Int32.toNatClampNeg (31 + x3)) p1) (Int32.toNatClampNeg (6 + x3)) x4) (Int32.toNatClampNeg (12 + x3)) p2) (Int32.toNatClampNeg (18 + x3)) 0) 0 (((upd (upd (upd (upd f0 (Int32.toNatClampNeg (31 + x3)) p1) (Int32.toNatClampNeg (6 + x3)) x4) (Int32.toNatClampNeg (12 + x3)) p2) (Int32.toNatClampNeg (18 + x3)) 0) 0) + 1))) H := hP
        have hD : va_D A (wd_X8_laySleeper cI cZ A0 n0 (upd (upd (upd (upd (upd f0 (Int32.toNatClampNeg (31 + x3)) p1) (Int32.toNatClampNeg (6 + x3)) x4) (Int32.toNatClampNeg (12 + x3)) p2) (Int32.toNatClampNeg (18 + x3)) 0) 0 (((upd (upd (upd (upd f0 (Int32.toNatClampNeg (31 + x3)) p1) (Int32.toNatClampNeg (6 + x3)) x4) (Int32.toNatClampNeg (12 + x3)) p2) (Int32.toNatClampNeg (18 + x3)) 0) 0) + 1))) := hD
        have hm := Option.some.inj hm
        subst hm
        exact q_vret hx hb hr hlocks hP hS dX8_laySleeper_59
      · have hm := it_n c_14 hm
        refine lv_iinc (v := (x4 + 1)) (lv' := [(4, .int (x4 + 1)), (3, .int x3), (0, .ref A0), (1, .int p1), (2, .int p2)]) hx hb dX8_laySleeper_17 hl (k := 0) rfl rfl (by decide) rfl (fun ls hl => ?_)
        refine lv_goto (tgt := 7) hx hb dX8_laySleeper_20 (by decide) ?_
        exact ih_7 (x4 + 1) x3 f0 H locs ls hm hP hD hS (lv_sub hl [0, 1, 2, 3, 4] rfl)
  unfold fm_X8_laySleeper at hm
  refine q_gen hS hP ?_
  intro H locs hP hS
  refine lv_aload_n hx hb dX8_laySleeper_0 rfl (lv_at hl 0 rfl) ?_
  refine lv_iconst (v := 0) hx hb dX8_laySleeper_1 (by decide) ?_
  obtain ⟨hi_2, hm⟩ := gd_s hm
  refine q_iald (j := 0) hx hb hK hP 0 rfl hi_2 (by decide) dX8_laySleeper_2 ?_
  refine lv_istore_n (lv' := [(3, .int (f0 0)), (0, .ref A0), (1, .int p1), (2, .int p2)]) hx hb dX8_laySleeper_3 rfl hl (by decide) rfl (fun ls hl => ?_)
  refine lv_iconst (v := 0) hx hb dX8_laySleeper_4 (by decide) ?_
  refine lv_istore (lv' := [(4, .int 0), (3, .int (f0 0)), (0, .ref A0), (1, .int p1), (2, .int p2)]) hx hb dX8_laySleeper_5 hl (by decide) rfl (fun ls hl => ?_)
  exact hL_7 FU 0 (f0 0) f0 H locs ls hm hP hD hS (lv_sub hl [0, 1, 2, 3, 4] rfl)
theorem mb_X8_layFlower : q_mb yX8_layFlower cX8_layFlower 5 none 4 := ⟨wc_X8_layFlower, wn_X8, by decide, by decide, by decide +kernel⟩
def wd_X8_layFlower (cI cZ : ClassId) (A0 : Nat) (n0 : Nat) (f0 : Nat → Int32) : va_W := [(A0, .inl (cI, n0, .inl f0))]
def fm_X8_layFlower (n0 : Nat) (p1 : Int32) (p2 : Int32) (p3 : Int32) (f0 : Nat → Int32) : Option ((Nat → Int32)) := gd 1 n0 (gd (37 + (f0 1)) n0 (gd (43 + (f0 1)) n0 (gd (24 + (f0 1)) n0 (some ((upd (upd (upd (upd f0 (Int32.toNatClampNeg (37 + (f0 1))) p1) (Int32.toNatClampNeg (43 + (f0 1))) p2) (Int32.toNatClampNeg (24 + (f0 1))) p3) 1 (((upd (upd (upd f0 (Int32.toNatClampNeg (37 + (f0 1))) p1) (Int32.toNatClampNeg (43 + (f0 1))) p2) (Int32.toNatClampNeg (24 + (f0 1))) p3) 1) + 1)))))))
set_option maxHeartbeats 4000000 in
set_option maxRecDepth 100000 in
theorem c_X8_layFlower (l : Launch) (D : va_G) (cI cZ : ClassId) (sz : Nat) (A0 : Nat) (n0 : Nat) (f0 : Nat → Int32) (p1 : Int32) (p2 : Int32) (p3 : Int32) (out : ((Nat → Int32))) (hm : fm_X8_layFlower n0 p1 p2 p3 f0 = some out) : Met l yX8_layFlower (Cond.code yX8_layFlower cX8_layFlower 5 none :: bg) { frames := 0, cells := 0, slots := 0, locals := 0 } (va_Pc [.ref A0, .int p1, .int p2, .int p3] (q_pre D cI cZ sz (wd_X8_layFlower cI cZ A0 n0 f0))) (q_Qv D (wd_X8_layFlower cI cZ A0 n0 out) (va_A (wd_X8_layFlower cI cZ A0 n0 f0) sz)) 0 0 (va_A (wd_X8_layFlower cI cZ A0 n0 f0) sz) := by
  refine q_met (fun A => q_Qv D (wd_X8_layFlower cI cZ A0 n0 out) A) (by decide) (Nat.le_of_ble_eq_true rfl) ?_
  intro p e s m below meth c ls A hx hb hr hml hown hts hlocks _ hA hS hP hD hK hN hl
  have hown : s.vm.findClass RX8 = some m.cls := hown
  have hl : lv_has ls 5 [(0, .ref A0), (1, .int p1), (2, .int p2), (3, .int p3)] := hl
  unfold fm_X8_layFlower at hm
  refine q_gen hS hP ?_
  intro H locs hP hS
  refine lv_aload_n hx hb dX8_layFlower_0 rfl (lv_at hl 0 rfl) ?_
  refine lv_iconst (v := 1) hx hb dX8_layFlower_1 (by decide) ?_
  obtain ⟨hi_2, hm⟩ := gd_s hm
  refine q_iald (j := 1) hx hb hK hP 0 rfl hi_2 (by decide) dX8_layFlower_2 ?_
  refine lv_istore (lv' := [(4, .int (f0 1)), (0, .ref A0), (1, .int p1), (2, .int p2), (3, .int p3)]) hx hb dX8_layFlower_3 hl (by decide) rfl (fun ls hl => ?_)
  refine lv_aload_n hx hb dX8_layFlower_5 rfl (lv_at hl 1 rfl) ?_
  refine lv_bipush (v := 37) hx hb dX8_layFlower_6 (by decide) ?_
  refine lv_iload hx hb dX8_layFlower_8 (lv_at hl 0 rfl) ?_
  refine lv_iadd hx hb dX8_layFlower_10 ?_
  refine lv_iload_n hx hb dX8_layFlower_11 rfl (lv_at hl 2 rfl) ?_
  obtain ⟨hi_12, hm⟩ := gd_s hm
  refine q_iast (j := (Int32.toNatClampNeg (37 + (f0 1)))) hx hb hK hP hD hS 0 rfl hi_12 rfl dX8_layFlower_12 (fun H locs hP hD hS => ?_)
  have hP : va_P D vwCl (wd_X8_layFlower cI cZ A0 n0 (upd f0 (Int32.toNatClampNeg (37 + (f0 1))) p1)) H := hP
  have hD : va_D A (wd_X8_layFlower cI cZ A0 n0 (upd f0 (Int32.toNatClampNeg (37 + (f0 1))) p1)) := hD
  refine lv_aload_n hx hb dX8_layFlower_13 rfl (lv_at hl 1 rfl) ?_
  refine lv_bipush (v := 43) hx hb dX8_layFlower_14 (by decide) ?_
  refine lv_iload hx hb dX8_layFlower_16 (lv_at hl 0 rfl) ?_
  refine lv_iadd hx hb dX8_layFlower_18 ?_
  refine lv_iload_n hx hb dX8_layFlower_19 rfl (lv_at hl 3 rfl) ?_
  obtain ⟨hi_20, hm⟩ := gd_s hm
  refine q_iast (j := (Int32.toNatClampNeg (43 + (f0 1)))) hx hb hK hP hD hS 0 rfl hi_20 rfl dX8_layFlower_20 (fun H locs hP hD hS => ?_)
  have hP : va_P D vwCl (wd_X8_layFlower cI cZ A0 n0 (upd (upd f0 (Int32.toNatClampNeg (37 + (f0 1))) p1) (Int32.toNatClampNeg (43 + (f0 1))) p2)) H := hP
  have hD : va_D A (wd_X8_layFlower cI cZ A0 n0 (upd (upd f0 (Int32.toNatClampNeg (37 + (f0 1))) p1) (Int32.toNatClampNeg (43 + (f0 1))) p2)) := hD
  refine lv_aload_n hx hb dX8_layFlower_21 rfl (lv_at hl 1 rfl) ?_
  refine lv_bipush (v := 24) hx hb dX8_layFlower_22 (by decide) ?_
  refine lv_iload hx hb dX8_layFlower_24 (lv_at hl 0 rfl) ?_
  refine lv_iadd hx hb dX8_layFlower_26 ?_
  refine lv_iload_n hx hb dX8_layFlower_27 rfl (lv_at hl 4 rfl) ?_
  obtain ⟨hi_28, hm⟩ := gd_s hm
  refine q_iast (j := (Int32.toNatClampNeg (24 + (f0 1)))) hx hb hK hP hD hS 0 rfl hi_28 rfl dX8_layFlower_28 (fun H locs hP hD hS => ?_)
  have hP : va_P D vwCl (wd_X8_layFlower cI cZ A0 n0 (upd (upd (upd f0 (Int32.toNatClampNeg (37 + (f0 1))) p1) (Int32.toNatClampNeg (43 + (f0 1))) p2) (Int32.toNatClampNeg (24 + (f0 1))) p3)) H := hP
  have hD : va_D A (wd_X8_layFlower cI cZ A0 n0 (upd (upd (upd f0 (Int32.toNatClampNeg (37 + (f0 1))) p1) (Int32.toNatClampNeg (43 + (f0 1))) p2) (Int32.toNatClampNeg (24 + (f0 1))) p3)) := hD
  refine lv_aload_n hx hb dX8_layFlower_29 rfl (lv_at hl 1 rfl) ?_
  refine lv_iconst (v := 1) hx hb dX8_layFlower_30 (by decide) ?_
  refine lv_dup2_11 hx hb dX8_layFlower_31 rfl rfl ?_
  refine q_iald (j := 1) hx hb hK hP 0 rfl hi_2 (by decide) dX8_layFlower_32 ?_
  refine lv_iconst (v := 1) hx hb dX8_layFlower_33 (by decide) ?_
  refine lv_iadd hx hb dX8_layFlower_34 ?_
  refine q_iast (j := 1) hx hb hK hP hD hS 0 rfl hi_2 (by decide) dX8_layFlower_35 (fun H locs hP hD hS => ?_)
  have hP : va_P D vwCl (wd_X8_layFlower cI cZ A0 n0 (upd (upd (upd (upd f0 (Int32.toNatClampNeg (37 + (f0 1))) p1) (Int32.toNatClampNeg (43 + (f0 1))) p2) (Int32.toNatClampNeg (24 + (f0 1))) p3) 1 (((upd (upd (upd f0 (Int32.toNatClampNeg (37 + (f0 1))) p1) (Int32.toNatClampNeg (43 + (f0 1))) p2) (Int32.toNatClampNeg (24 + (f0 1))) p3) 1) + 1))) H := hP
  have hD : va_D A (wd_X8_layFlower cI cZ A0 n0 (upd (upd (upd (upd f0 (Int32.toNatClampNeg (37 + (f0 1))) p1) (Int32.toNatClampNeg (43 + (f0 1))) p2) (Int32.toNatClampNeg (24 + (f0 1))) p3) 1 (((upd (upd (upd f0 (Int32.toNatClampNeg (37 + (f0 1))) p1) (Int32.toNatClampNeg (43 + (f0 1))) p2) (Int32.toNatClampNeg (24 + (f0 1))) p3) 1) + 1))) := hD
  have hm := Option.some.inj hm
  subst hm
  exact q_vret hx hb hr hlocks hP hS dX8_layFlower_36
theorem mb_X8_sleeper : q_mb yX8_sleeper cX8_sleeper 2 (some .int) 1 := ⟨wc_X8_sleeper, wn_X8, by decide, by decide, by decide +kernel⟩
theorem mv_X8_sleeper : q_mv yX8_sleeper 8 := ⟨wi_X8_sleeper, ws_X8_sleeper, _, rfl, rfl⟩
def wd_X8_sleeper (cI cZ : ClassId) (AT AT_al AT_kp AT_ik AT_rf AT_hd AT_bs AT_se AT_bf AT_te AT_by AT_an AT_vs : Nat) (vT_ab : Int64) (vT_be : Int64) (vT_byl : Int32) (vT_tka : Int32) (vT_tkl : Int32) (vT_tkn : Int32) (vT_val : Int32) (fT_al : Nat → Int32) (fT_rf : Nat → Int32) : va_W := [(AT, .inr (8, [.ref AT_al, .ref AT_kp, .ref AT_ik, .ref AT_rf, .long vT_ab, .long vT_be, .ref AT_hd, .ref AT_bs, .ref AT_se, .ref AT_bf, .ref AT_te, .ref AT_by, .int vT_byl, .int vT_tka, .int vT_tkl, .int vT_tkn, .int vT_val, .ref AT_an, .ref AT_vs])), (AT_al, .inl (cI, 312, .inl fT_al)), (AT_rf, .inl (cI, 3, .inl fT_rf))]
def fm_X8_sleeper (p1 : Int32) (fT_al : Nat → Int32) (fT_rf : Nat → Int32) : Option (Int32 × (Nat → Int32) × (Nat → Int32)) := Option.bind (fm_X8_isKind p1) (fun r_1 => if r_1 = 0 then (Option.bind (fm_X8_bad (-2) fT_rf) (fun r_10 => some (r_10.1, fT_al, r_10.2))) else (Option.bind (fm_X8_many fT_al) (fun r_15 => if r_15 = 6 then (Option.bind (fm_X8_full fT_rf) (fun r_24 => some (r_24.1, fT_al, r_24.2))) else (Option.bind (fm_X8_laySleeper 312 p1 0 fT_al) (fun r_34 => Option.bind (fm_X8_many (upd r_34 5 0)) (fun r_45 => some ((r_45 - 1), (upd r_34 5 0), fT_rf)))))))
set_option maxHeartbeats 4000000 in
set_option maxRecDepth 100000 in
theorem c_X8_sleeper (l : Launch) (D : va_G) (cI cZ : ClassId) (sz : Nat) (AT AT_al AT_kp AT_ik AT_rf AT_hd AT_bs AT_se AT_bf AT_te AT_by AT_an AT_vs : Nat) (vT_ab : Int64) (vT_be : Int64) (vT_byl : Int32) (vT_tka : Int32) (vT_tkl : Int32) (vT_tkn : Int32) (vT_val : Int32) (fT_al : Nat → Int32) (fT_rf : Nat → Int32) (p1 : Int32) (out : (Int32 × (Nat → Int32) × (Nat → Int32))) (hm : fm_X8_sleeper p1 fT_al fT_rf = some out) : Met l yX8_sleeper (Cond.code yX8_sleeper cX8_sleeper 2 (some .int) :: bg) { frames := 2, cells := 0, slots := 0, locals := 46 } (va_Pc [.ref AT, .int p1] (q_pre D cI cZ sz (wd_X8_sleeper cI cZ AT AT_al AT_kp AT_ik AT_rf AT_hd AT_bs AT_se AT_bf AT_te AT_by AT_an AT_vs vT_ab vT_be vT_byl vT_tka vT_tkl vT_tkn vT_val fT_al fT_rf))) (q_Qi D (wd_X8_sleeper cI cZ AT AT_al AT_kp AT_ik AT_rf AT_hd AT_bs AT_se AT_bf AT_te AT_by AT_an AT_vs vT_ab vT_be vT_byl vT_tka vT_tkl vT_tkn vT_val out.2.1 out.2.2) out.1 (va_A (wd_X8_sleeper cI cZ AT AT_al AT_kp AT_ik AT_rf AT_hd AT_bs AT_se AT_bf AT_te AT_by AT_an AT_vs vT_ab vT_be vT_byl vT_tka vT_tkl vT_tkn vT_val fT_al fT_rf) sz)) 0 0 (va_A (wd_X8_sleeper cI cZ AT AT_al AT_kp AT_ik AT_rf AT_hd AT_bs AT_se AT_bf AT_te AT_by AT_an AT_vs vT_ab vT_be vT_byl vT_tka vT_tkl vT_tkn vT_val fT_al fT_rf) sz) := by
  refine q_met (fun A => q_Qi D (wd_X8_sleeper cI cZ AT AT_al AT_kp AT_ik AT_rf AT_hd AT_bs AT_se AT_bf AT_te AT_by AT_an AT_vs vT_ab vT_be vT_byl vT_tka vT_tkl vT_tkn vT_val out.2.1 out.2.2) out.1 A) (by decide) (Nat.le_of_ble_eq_true rfl) ?_
  intro p e s m below meth c ls A hx hb hr hml hown hts hlocks _ hA hS hP hD hK hN hl
  have hown : s.vm.findClass RX8 = some m.cls := hown
  have hl : lv_has ls 2 [(0, .ref AT), (1, .int p1)] := hl
  unfold fm_X8_sleeper at hm
  refine q_gen hS hP ?_
  intro H locs hP hS
  refine lv_iload_n hx hb dX8_sleeper_0 rfl (lv_at hl 1 rfl) ?_
  obtain ⟨r_1, hc_1, hm⟩ := ob_s hm
  refine q_ci (q_rs (rest := []) ⟨hx, hb, hml, hown, hts⟩ hK hN hP hD (c_X8_isKind l D cI cZ H.size p1 r_1 hc_1) mb_X8_isKind wt_X8_isKind wl_X8_71 [] rfl rfl (Nat.le_of_ble_eq_true rfl) (Nat.le_of_ble_eq_true rfl) rfl hl.1 rfl (Nat.le_of_ble_eq_true rfl) ⟨Nat.le_refl 0, Nat.le_refl 0⟩ dX8_sleeper_1) hP hD hS hA [] rfl rfl (fun H locs hP hD hS => ?_)
  have hP : va_P D vwCl (wd_X8_sleeper cI cZ AT AT_al AT_kp AT_ik AT_rf AT_hd AT_bs AT_se AT_bf AT_te AT_by AT_an AT_vs vT_ab vT_be vT_byl vT_tka vT_tkl vT_tkn vT_val fT_al fT_rf) H := hP
  have hD : va_D A (wd_X8_sleeper cI cZ AT AT_al AT_kp AT_ik AT_rf AT_hd AT_bs AT_se AT_bf AT_te AT_by AT_an AT_vs vT_ab vT_be vT_byl vT_tka vT_tkl vT_tkn vT_val fT_al fT_rf) := hD
  refine lv_if_ne (tgt := 14) hx hb dX8_sleeper_4 (by decide) (fun c_4 => ?_) (fun c_4 => ?_)
  · have hm := it_n c_4 hm
    refine lv_aload_n hx hb dX8_sleeper_14 rfl (lv_at hl 0 rfl) ?_
    obtain ⟨r_15, hc_15, hm⟩ := ob_s hm
    refine q_ci (q_rv (rest := []) ⟨hx, hb, hml, hown, hts⟩ hK hN hP hD (c_X8_many l D cI cZ H.size AT AT_al AT_kp AT_ik AT_rf AT_hd AT_bs AT_se AT_bf AT_te AT_by AT_an AT_vs vT_ab vT_be vT_byl vT_tka vT_tkl vT_tkn vT_val fT_al r_15 hc_15) mb_X8_many mv_X8_many wl_X8_55 [0, 1] rfl rfl rfl (Nat.le_of_ble_eq_true rfl) (Nat.le_of_ble_eq_true rfl) rfl hl.1 rfl (Nat.le_of_ble_eq_true rfl) ⟨Nat.le_refl 0, Nat.le_refl 0⟩ dX8_sleeper_15) hP hD hS hA [0, 1] rfl rfl (fun H locs hP hD hS => ?_)
    have hP : va_P D vwCl (wd_X8_sleeper cI cZ AT AT_al AT_kp AT_ik AT_rf AT_hd AT_bs AT_se AT_bf AT_te AT_by AT_an AT_vs vT_ab vT_be vT_byl vT_tka vT_tkl vT_tkn vT_val fT_al fT_rf) H := hP
    have hD : va_D A (wd_X8_sleeper cI cZ AT AT_al AT_kp AT_ik AT_rf AT_hd AT_bs AT_se AT_bf AT_te AT_by AT_an AT_vs vT_ab vT_be vT_byl vT_tka vT_tkl vT_tkn vT_val fT_al fT_rf) := hD
    refine lv_bipush (v := 6) hx hb dX8_sleeper_18 (by decide) ?_
    refine lv_icmp_ne (tgt := 28) hx hb dX8_sleeper_20 (by decide) (fun c_20 => ?_) (fun c_20 => ?_)
    · have hm := it_n c_20 hm
      refine lv_aload_n hx hb dX8_sleeper_28 rfl (lv_at hl 0 rfl) ?_
      refine gf_X8_7 (v := .ref AT_al) hx hb hts hown hK hN hP 0 rfl rfl dX8_sleeper_29 ?_
      refine lv_iload_n hx hb dX8_sleeper_32 rfl (lv_at hl 1 rfl) ?_
      refine lv_iconst (v := 0) hx hb dX8_sleeper_33 (by decide) ?_
      obtain ⟨r_34, hc_34, hm⟩ := ob_s hm
      refine q_cv (q_rs (rest := []) ⟨hx, hb, hml, hown, hts⟩ hK hN hP hD (c_X8_laySleeper l D cI cZ H.size AT_al 312 fT_al p1 0 r_34 hc_34) mb_X8_laySleeper wt_X8_laySleeper wl_X8_82 [1] rfl rfl (Nat.le_of_ble_eq_true rfl) (Nat.le_of_ble_eq_true rfl) rfl hl.1 rfl (Nat.le_of_ble_eq_true rfl) ⟨Nat.le_refl 0, Nat.le_refl 0⟩ dX8_sleeper_34) hP hD hS hA [1] rfl rfl (fun H locs hP hD hS => ?_)
      have hP : va_P D vwCl (wd_X8_sleeper cI cZ AT AT_al AT_kp AT_ik AT_rf AT_hd AT_bs AT_se AT_bf AT_te AT_by AT_an AT_vs vT_ab vT_be vT_byl vT_tka vT_tkl vT_tkn vT_val r_34 fT_rf) H := hP
      have hD : va_D A (wd_X8_sleeper cI cZ AT AT_al AT_kp AT_ik AT_rf AT_hd AT_bs AT_se AT_bf AT_te AT_by AT_an AT_vs vT_ab vT_be vT_byl vT_tka vT_tkl vT_tkn vT_val r_34 fT_rf) := hD
      refine lv_aload_n hx hb dX8_sleeper_37 rfl (lv_at hl 0 rfl) ?_
      refine gf_X8_7 (v := .ref AT_al) hx hb hts hown hK hN hP 0 rfl rfl dX8_sleeper_38 ?_
      refine lv_iconst (v := 5) hx hb dX8_sleeper_41 (by decide) ?_
      refine lv_iconst (v := 0) hx hb dX8_sleeper_42 (by decide) ?_
      refine q_iast (j := 5) hx hb hK hP hD hS 1 rfl (q_inl (by decide)) (by decide) dX8_sleeper_43 (fun H locs hP hD hS => ?_)
      have hP : va_P D vwCl (wd_X8_sleeper cI cZ AT AT_al AT_kp AT_ik AT_rf AT_hd AT_bs AT_se AT_bf AT_te AT_by AT_an AT_vs vT_ab vT_be vT_byl vT_tka vT_tkl vT_tkn vT_val (upd r_34 5 0) fT_rf) H := hP
      have hD : va_D A (wd_X8_sleeper cI cZ AT AT_al AT_kp AT_ik AT_rf AT_hd AT_bs AT_se AT_bf AT_te AT_by AT_an AT_vs vT_ab vT_be vT_byl vT_tka vT_tkl vT_tkn vT_val (upd r_34 5 0) fT_rf) := hD
      refine lv_aload_n hx hb dX8_sleeper_44 rfl (lv_at hl 0 rfl) ?_
      obtain ⟨r_45, hc_45, hm⟩ := ob_s hm
      refine q_ci (q_rv (rest := []) ⟨hx, hb, hml, hown, hts⟩ hK hN hP hD (c_X8_many l D cI cZ H.size AT AT_al AT_kp AT_ik AT_rf AT_hd AT_bs AT_se AT_bf AT_te AT_by AT_an AT_vs vT_ab vT_be vT_byl vT_tka vT_tkl vT_tkn vT_val (upd r_34 5 0) r_45 hc_45) mb_X8_many mv_X8_many wl_X8_55 [0, 1] rfl rfl rfl (Nat.le_of_ble_eq_true rfl) (Nat.le_of_ble_eq_true rfl) rfl hl.1 rfl (Nat.le_of_ble_eq_true rfl) ⟨Nat.le_refl 0, Nat.le_refl 0⟩ dX8_sleeper_45) hP hD hS hA [0, 1] rfl rfl (fun H locs hP hD hS => ?_)
      have hP : va_P D vwCl (wd_X8_sleeper cI cZ AT AT_al AT_kp AT_ik AT_rf AT_hd AT_bs AT_se AT_bf AT_te AT_by AT_an AT_vs vT_ab vT_be vT_byl vT_tka vT_tkl vT_tkn vT_val (upd r_34 5 0) fT_rf) H := hP
      have hD : va_D A (wd_X8_sleeper cI cZ AT AT_al AT_kp AT_ik AT_rf AT_hd AT_bs AT_se AT_bf AT_te AT_by AT_an AT_vs vT_ab vT_be vT_byl vT_tka vT_tkl vT_tkn vT_val (upd r_34 5 0) fT_rf) := hD
      refine lv_iconst (v := 1) hx hb dX8_sleeper_48 (by decide) ?_
      refine lv_isub hx hb dX8_sleeper_49 ?_
      have hm := Option.some.inj hm
      subst hm
      exact q_iret (v := (r_45 - 1)) hx hb hr hlocks hP hS dX8_sleeper_50
    · have hm := it_s c_20 hm
      refine lv_aload_n hx hb dX8_sleeper_23 rfl (lv_at hl 0 rfl) ?_
      obtain ⟨r_24, hc_24, hm⟩ := ob_s hm
      refine q_ci (q_rv (rest := []) ⟨hx, hb, hml, hown, hts⟩ hK hN hP hD (c_X8_full l D cI cZ H.size AT AT_al AT_kp AT_ik AT_rf AT_hd AT_bs AT_se AT_bf AT_te AT_by AT_an AT_vs vT_ab vT_be vT_byl vT_tka vT_tkl vT_tkn vT_val fT_rf r_24 hc_24) mb_X8_full mv_X8_full wl_X8_79 [0, 2] rfl rfl rfl (Nat.le_of_ble_eq_true rfl) (Nat.le_of_ble_eq_true rfl) rfl hl.1 rfl (Nat.le_of_ble_eq_true rfl) ⟨Nat.le_refl 0, Nat.le_refl 0⟩ dX8_sleeper_24) hP hD hS hA [0, 2] rfl rfl (fun H locs hP hD hS => ?_)
      have hP : va_P D vwCl (wd_X8_sleeper cI cZ AT AT_al AT_kp AT_ik AT_rf AT_hd AT_bs AT_se AT_bf AT_te AT_by AT_an AT_vs vT_ab vT_be vT_byl vT_tka vT_tkl vT_tkn vT_val fT_al r_24.2) H := hP
      have hD : va_D A (wd_X8_sleeper cI cZ AT AT_al AT_kp AT_ik AT_rf AT_hd AT_bs AT_se AT_bf AT_te AT_by AT_an AT_vs vT_ab vT_be vT_byl vT_tka vT_tkl vT_tkn vT_val fT_al r_24.2) := hD
      have hm := Option.some.inj hm
      subst hm
      exact q_iret (v := r_24.1) hx hb hr hlocks hP hS dX8_sleeper_27
  · have hm := it_s c_4 hm
    refine lv_aload_n hx hb dX8_sleeper_7 rfl (lv_at hl 0 rfl) ?_
    refine lv_bipush (v := (-2)) hx hb dX8_sleeper_8 (by decide) ?_
    obtain ⟨r_10, hc_10, hm⟩ := ob_s hm
    refine q_ci (q_rv (rest := []) ⟨hx, hb, hml, hown, hts⟩ hK hN hP hD (c_X8_bad l D cI cZ H.size AT AT_al AT_kp AT_ik AT_rf AT_hd AT_bs AT_se AT_bf AT_te AT_by AT_an AT_vs vT_ab vT_be vT_byl vT_tka vT_tkl vT_tkn vT_val fT_rf (-2) r_10 hc_10) mb_X8_bad mv_X8_bad wl_X8_75 [0, 2] rfl rfl rfl (Nat.le_of_ble_eq_true rfl) (Nat.le_of_ble_eq_true rfl) rfl hl.1 rfl (Nat.le_of_ble_eq_true rfl) ⟨Nat.le_refl 0, Nat.le_refl 0⟩ dX8_sleeper_10) hP hD hS hA [0, 2] rfl rfl (fun H locs hP hD hS => ?_)
    have hP : va_P D vwCl (wd_X8_sleeper cI cZ AT AT_al AT_kp AT_ik AT_rf AT_hd AT_bs AT_se AT_bf AT_te AT_by AT_an AT_vs vT_ab vT_be vT_byl vT_tka vT_tkl vT_tkn vT_val fT_al r_10.2) H := hP
    have hD : va_D A (wd_X8_sleeper cI cZ AT AT_al AT_kp AT_ik AT_rf AT_hd AT_bs AT_se AT_bf AT_te AT_by AT_an AT_vs vT_ab vT_be vT_byl vT_tka vT_tkl vT_tkn vT_val fT_al r_10.2) := hD
    have hm := Option.some.inj hm
    subst hm
    exact q_iret (v := r_10.1) hx hb hr hlocks hP hS dX8_sleeper_13
theorem mb_X8_flower : q_mb yX8_flower cX8_flower 4 (some .int) 3 := ⟨wc_X8_flower, wn_X8, by decide, by decide, by decide +kernel⟩
theorem mv_X8_flower : q_mv yX8_flower 8 := ⟨wi_X8_flower, ws_X8_flower, _, rfl, rfl⟩
def wd_X8_flower (cI cZ : ClassId) (AT AT_al AT_kp AT_ik AT_rf AT_hd AT_bs AT_se AT_bf AT_te AT_by AT_an AT_vs : Nat) (vT_ab : Int64) (vT_be : Int64) (vT_byl : Int32) (vT_tka : Int32) (vT_tkl : Int32) (vT_tkn : Int32) (vT_val : Int32) (fT_rf : Nat → Int32) (fT_al : Nat → Int32) : va_W := [(AT, .inr (8, [.ref AT_al, .ref AT_kp, .ref AT_ik, .ref AT_rf, .long vT_ab, .long vT_be, .ref AT_hd, .ref AT_bs, .ref AT_se, .ref AT_bf, .ref AT_te, .ref AT_by, .int vT_byl, .int vT_tka, .int vT_tkl, .int vT_tkn, .int vT_val, .ref AT_an, .ref AT_vs])), (AT_rf, .inl (cI, 3, .inl fT_rf)), (AT_al, .inl (cI, 312, .inl fT_al))]
def fm_X8_flower (p1 : Int32) (p2 : Int32) (p3 : Int32) (fT_rf : Nat → Int32) (fT_al : Nat → Int32) : Option (Int32 × (Nat → Int32) × (Nat → Int32)) := Option.bind (fm_X8_isKind p1) (fun r_1 => if r_1 = 0 then (Option.bind (fm_X8_bad (-2) fT_rf) (fun r_24 => some (r_24.1, r_24.2, fT_al))) else (Option.bind (fm_X8_isWord p2) (fun r_8 => if r_8 = 0 then (Option.bind (fm_X8_bad (-2) fT_rf) (fun r_24 => some (r_24.1, r_24.2, fT_al))) else (Option.bind (fm_X8_isPillow p3) (fun r_15 => if r_15 = 0 then (Option.bind (fm_X8_bad (-2) fT_rf) (fun r_24 => some (r_24.1, r_24.2, fT_al))) else (if (fT_al 1) = 6 then (Option.bind (fm_X8_full fT_rf) (fun r_40 => some (r_40.1, r_40.2, fT_al))) else (Option.bind (fm_X8_layFlower 312 p1 p2 p3 fT_al) (fun r_51 => some ((((upd r_51 5 0) 1) - 1), fT_rf, (upd r_51 5 0))))))))))
set_option maxHeartbeats 4000000 in
set_option maxRecDepth 100000 in
theorem c_X8_flower (l : Launch) (D : va_G) (cI cZ : ClassId) (sz : Nat) (AT AT_al AT_kp AT_ik AT_rf AT_hd AT_bs AT_se AT_bf AT_te AT_by AT_an AT_vs : Nat) (vT_ab : Int64) (vT_be : Int64) (vT_byl : Int32) (vT_tka : Int32) (vT_tkl : Int32) (vT_tkn : Int32) (vT_val : Int32) (fT_rf : Nat → Int32) (fT_al : Nat → Int32) (p1 : Int32) (p2 : Int32) (p3 : Int32) (out : (Int32 × (Nat → Int32) × (Nat → Int32))) (hm : fm_X8_flower p1 p2 p3 fT_rf fT_al = some out) : Met l yX8_flower (Cond.code yX8_flower cX8_flower 4 (some .int) :: bg) { frames := 2, cells := 0, slots := 0, locals := 45 } (va_Pc [.ref AT, .int p1, .int p2, .int p3] (q_pre D cI cZ sz (wd_X8_flower cI cZ AT AT_al AT_kp AT_ik AT_rf AT_hd AT_bs AT_se AT_bf AT_te AT_by AT_an AT_vs vT_ab vT_be vT_byl vT_tka vT_tkl vT_tkn vT_val fT_rf fT_al))) (q_Qi D (wd_X8_flower cI cZ AT AT_al AT_kp AT_ik AT_rf AT_hd AT_bs AT_se AT_bf AT_te AT_by AT_an AT_vs vT_ab vT_be vT_byl vT_tka vT_tkl vT_tkn vT_val out.2.1 out.2.2) out.1 (va_A (wd_X8_flower cI cZ AT AT_al AT_kp AT_ik AT_rf AT_hd AT_bs AT_se AT_bf AT_te AT_by AT_an AT_vs vT_ab vT_be vT_byl vT_tka vT_tkl vT_tkn vT_val fT_rf fT_al) sz)) 0 0 (va_A (wd_X8_flower cI cZ AT AT_al AT_kp AT_ik AT_rf AT_hd AT_bs AT_se AT_bf AT_te AT_by AT_an AT_vs vT_ab vT_be vT_byl vT_tka vT_tkl vT_tkn vT_val fT_rf fT_al) sz) := by
  refine q_met (fun A => q_Qi D (wd_X8_flower cI cZ AT AT_al AT_kp AT_ik AT_rf AT_hd AT_bs AT_se AT_bf AT_te AT_by AT_an AT_vs vT_ab vT_be vT_byl vT_tka vT_tkl vT_tkn vT_val out.2.1 out.2.2) out.1 A) (by decide) (Nat.le_of_ble_eq_true rfl) ?_
  intro p e s m below meth c ls A hx hb hr hml hown hts hlocks _ hA hS hP hD hK hN hl
  have hown : s.vm.findClass RX8 = some m.cls := hown
  have hl : lv_has ls 4 [(0, .ref AT), (1, .int p1), (2, .int p2), (3, .int p3)] := hl
  unfold fm_X8_flower at hm
  refine q_gen hS hP ?_
  intro H locs hP hS
  refine lv_iload_n hx hb dX8_flower_0 rfl (lv_at hl 1 rfl) ?_
  obtain ⟨r_1, hc_1, hm⟩ := ob_s hm
  refine q_ci (q_rs (rest := []) ⟨hx, hb, hml, hown, hts⟩ hK hN hP hD (c_X8_isKind l D cI cZ H.size p1 r_1 hc_1) mb_X8_isKind wt_X8_isKind wl_X8_71 [] rfl rfl (Nat.le_of_ble_eq_true rfl) (Nat.le_of_ble_eq_true rfl) rfl hl.1 rfl (Nat.le_of_ble_eq_true rfl) ⟨Nat.le_refl 0, Nat.le_refl 0⟩ dX8_flower_1) hP hD hS hA [] rfl rfl (fun H locs hP hD hS => ?_)
  have hP : va_P D vwCl (wd_X8_flower cI cZ AT AT_al AT_kp AT_ik AT_rf AT_hd AT_bs AT_se AT_bf AT_te AT_by AT_an AT_vs vT_ab vT_be vT_byl vT_tka vT_tkl vT_tkn vT_val fT_rf fT_al) H := hP
  have hD : va_D A (wd_X8_flower cI cZ AT AT_al AT_kp AT_ik AT_rf AT_hd AT_bs AT_se AT_bf AT_te AT_by AT_an AT_vs vT_ab vT_be vT_byl vT_tka vT_tkl vT_tkn vT_val fT_rf fT_al) := hD
  refine lv_if_eq (tgt := 21) hx hb dX8_flower_4 (by decide) (fun c_4 => ?_) (fun c_4 => ?_)
  · have hm := it_s c_4 hm
    refine lv_aload_n hx hb dX8_flower_21 rfl (lv_at hl 0 rfl) ?_
    refine lv_bipush (v := (-2)) hx hb dX8_flower_22 (by decide) ?_
    obtain ⟨r_24, hc_24, hm⟩ := ob_s hm
    refine q_ci (q_rv (rest := []) ⟨hx, hb, hml, hown, hts⟩ hK hN hP hD (c_X8_bad l D cI cZ H.size AT AT_al AT_kp AT_ik AT_rf AT_hd AT_bs AT_se AT_bf AT_te AT_by AT_an AT_vs vT_ab vT_be vT_byl vT_tka vT_tkl vT_tkn vT_val fT_rf (-2) r_24 hc_24) mb_X8_bad mv_X8_bad wl_X8_75 [0, 1] rfl rfl rfl (Nat.le_of_ble_eq_true rfl) (Nat.le_of_ble_eq_true rfl) rfl hl.1 rfl (Nat.le_of_ble_eq_true rfl) ⟨Nat.le_refl 0, Nat.le_refl 0⟩ dX8_flower_24) hP hD hS hA [0, 1] rfl rfl (fun H locs hP hD hS => ?_)
    have hP : va_P D vwCl (wd_X8_flower cI cZ AT AT_al AT_kp AT_ik AT_rf AT_hd AT_bs AT_se AT_bf AT_te AT_by AT_an AT_vs vT_ab vT_be vT_byl vT_tka vT_tkl vT_tkn vT_val r_24.2 fT_al) H := hP
    have hD : va_D A (wd_X8_flower cI cZ AT AT_al AT_kp AT_ik AT_rf AT_hd AT_bs AT_se AT_bf AT_te AT_by AT_an AT_vs vT_ab vT_be vT_byl vT_tka vT_tkl vT_tkn vT_val r_24.2 fT_al) := hD
    have hm := Option.some.inj hm
    subst hm
    exact q_iret (v := r_24.1) hx hb hr hlocks hP hS dX8_flower_27
  · have hm := it_n c_4 hm
    refine lv_iload_n hx hb dX8_flower_7 rfl (lv_at hl 2 rfl) ?_
    obtain ⟨r_8, hc_8, hm⟩ := ob_s hm
    refine q_ci (q_rs (rest := []) ⟨hx, hb, hml, hown, hts⟩ hK hN hP hD (c_X8_isWord l D cI cZ H.size p2 r_8 hc_8) mb_X8_isWord wt_X8_isWord wl_X8_86 [] rfl rfl (Nat.le_of_ble_eq_true rfl) (Nat.le_of_ble_eq_true rfl) rfl hl.1 rfl (Nat.le_of_ble_eq_true rfl) ⟨Nat.le_refl 0, Nat.le_refl 0⟩ dX8_flower_8) hP hD hS hA [] rfl rfl (fun H locs hP hD hS => ?_)
    have hP : va_P D vwCl (wd_X8_flower cI cZ AT AT_al AT_kp AT_ik AT_rf AT_hd AT_bs AT_se AT_bf AT_te AT_by AT_an AT_vs vT_ab vT_be vT_byl vT_tka vT_tkl vT_tkn vT_val fT_rf fT_al) H := hP
    have hD : va_D A (wd_X8_flower cI cZ AT AT_al AT_kp AT_ik AT_rf AT_hd AT_bs AT_se AT_bf AT_te AT_by AT_an AT_vs vT_ab vT_be vT_byl vT_tka vT_tkl vT_tkn vT_val fT_rf fT_al) := hD
    refine lv_if_eq (tgt := 21) hx hb dX8_flower_11 (by decide) (fun c_11 => ?_) (fun c_11 => ?_)
    · have hm := it_s c_11 hm
      refine lv_aload_n hx hb dX8_flower_21 rfl (lv_at hl 0 rfl) ?_
      refine lv_bipush (v := (-2)) hx hb dX8_flower_22 (by decide) ?_
      obtain ⟨r_24, hc_24, hm⟩ := ob_s hm
      refine q_ci (q_rv (rest := []) ⟨hx, hb, hml, hown, hts⟩ hK hN hP hD (c_X8_bad l D cI cZ H.size AT AT_al AT_kp AT_ik AT_rf AT_hd AT_bs AT_se AT_bf AT_te AT_by AT_an AT_vs vT_ab vT_be vT_byl vT_tka vT_tkl vT_tkn vT_val fT_rf (-2) r_24 hc_24) mb_X8_bad mv_X8_bad wl_X8_75 [0, 1] rfl rfl rfl (Nat.le_of_ble_eq_true rfl) (Nat.le_of_ble_eq_true rfl) rfl hl.1 rfl (Nat.le_of_ble_eq_true rfl) ⟨Nat.le_refl 0, Nat.le_refl 0⟩ dX8_flower_24) hP hD hS hA [0, 1] rfl rfl (fun H locs hP hD hS => ?_)
      have hP : va_P D vwCl (wd_X8_flower cI cZ AT AT_al AT_kp AT_ik AT_rf AT_hd AT_bs AT_se AT_bf AT_te AT_by AT_an AT_vs vT_ab vT_be vT_byl vT_tka vT_tkl vT_tkn vT_val r_24.2 fT_al) H := hP
      have hD : va_D A (wd_X8_flower cI cZ AT AT_al AT_kp AT_ik AT_rf AT_hd AT_bs AT_se AT_bf AT_te AT_by AT_an AT_vs vT_ab vT_be vT_byl vT_tka vT_tkl vT_tkn vT_val r_24.2 fT_al) := hD
      have hm := Option.some.inj hm
      subst hm
      exact q_iret (v := r_24.1) hx hb hr hlocks hP hS dX8_flower_27
    · have hm := it_n c_11 hm
      refine lv_iload_n hx hb dX8_flower_14 rfl (lv_at hl 3 rfl) ?_
      obtain ⟨r_15, hc_15, hm⟩ := ob_s hm
      refine q_ci (q_rs (rest := []) ⟨hx, hb, hml, hown, hts⟩ hK hN hP hD (c_X8_isPillow l D cI cZ H.size p3 r_15 hc_15) mb_X8_isPillow wt_X8_isPillow wl_X8_89 [] rfl rfl (Nat.le_of_ble_eq_true rfl) (Nat.le_of_ble_eq_true rfl) rfl hl.1 rfl (Nat.le_of_ble_eq_true rfl) ⟨Nat.le_refl 0, Nat.le_refl 0⟩ dX8_flower_15) hP hD hS hA [] rfl rfl (fun H locs hP hD hS => ?_)
      have hP : va_P D vwCl (wd_X8_flower cI cZ AT AT_al AT_kp AT_ik AT_rf AT_hd AT_bs AT_se AT_bf AT_te AT_by AT_an AT_vs vT_ab vT_be vT_byl vT_tka vT_tkl vT_tkn vT_val fT_rf fT_al) H := hP
      have hD : va_D A (wd_X8_flower cI cZ AT AT_al AT_kp AT_ik AT_rf AT_hd AT_bs AT_se AT_bf AT_te AT_by AT_an AT_vs vT_ab vT_be vT_byl vT_tka vT_tkl vT_tkn vT_val fT_rf fT_al) := hD
      refine lv_if_ne (tgt := 28) hx hb dX8_flower_18 (by decide) (fun c_18 => ?_) (fun c_18 => ?_)
      · have hm := it_n c_18 hm
        refine lv_aload_n hx hb dX8_flower_28 rfl (lv_at hl 0 rfl) ?_
        refine gf_X8_7 (v := .ref AT_al) hx hb hts hown hK hN hP 0 rfl rfl dX8_flower_29 ?_
        refine lv_iconst (v := 1) hx hb dX8_flower_32 (by decide) ?_
        refine q_iald (j := 1) hx hb hK hP 2 rfl (q_inl (by decide)) (by decide) dX8_flower_33 ?_
        refine lv_bipush (v := 6) hx hb dX8_flower_34 (by decide) ?_
        refine lv_icmp_ne (tgt := 44) hx hb dX8_flower_36 (by decide) (fun c_36 => ?_) (fun c_36 => ?_)
        · have hm := it_n c_36 hm
          refine lv_aload_n hx hb dX8_flower_44 rfl (lv_at hl 0 rfl) ?_
          refine gf_X8_7 (v := .ref AT_al) hx hb hts hown hK hN hP 0 rfl rfl dX8_flower_45 ?_
          refine lv_iload_n hx hb dX8_flower_48 rfl (lv_at hl 1 rfl) ?_
          refine lv_iload_n hx hb dX8_flower_49 rfl (lv_at hl 2 rfl) ?_
          refine lv_iload_n hx hb dX8_flower_50 rfl (lv_at hl 3 rfl) ?_
          obtain ⟨r_51, hc_51, hm⟩ := ob_s hm
          refine q_cv (q_rs (rest := []) ⟨hx, hb, hml, hown, hts⟩ hK hN hP hD (c_X8_layFlower l D cI cZ H.size AT_al 312 fT_al p1 p2 p3 r_51 hc_51) mb_X8_layFlower wt_X8_layFlower wl_X8_92 [2] rfl rfl (Nat.le_of_ble_eq_true rfl) (Nat.le_of_ble_eq_true rfl) rfl hl.1 rfl (Nat.le_of_ble_eq_true rfl) ⟨Nat.le_refl 0, Nat.le_refl 0⟩ dX8_flower_51) hP hD hS hA [2] rfl rfl (fun H locs hP hD hS => ?_)
          have hP : va_P D vwCl (wd_X8_flower cI cZ AT AT_al AT_kp AT_ik AT_rf AT_hd AT_bs AT_se AT_bf AT_te AT_by AT_an AT_vs vT_ab vT_be vT_byl vT_tka vT_tkl vT_tkn vT_val fT_rf r_51) H := hP
          have hD : va_D A (wd_X8_flower cI cZ AT AT_al AT_kp AT_ik AT_rf AT_hd AT_bs AT_se AT_bf AT_te AT_by AT_an AT_vs vT_ab vT_be vT_byl vT_tka vT_tkl vT_tkn vT_val fT_rf r_51) := hD
          refine lv_aload_n hx hb dX8_flower_54 rfl (lv_at hl 0 rfl) ?_
          refine gf_X8_7 (v := .ref AT_al) hx hb hts hown hK hN hP 0 rfl rfl dX8_flower_55 ?_
          refine lv_iconst (v := 5) hx hb dX8_flower_58 (by decide) ?_
          refine lv_iconst (v := 0) hx hb dX8_flower_59 (by decide) ?_
          refine q_iast (j := 5) hx hb hK hP hD hS 2 rfl (q_inl (by decide)) (by decide) dX8_flower_60 (fun H locs hP hD hS => ?_)
          have hP : va_P D vwCl (wd_X8_flower cI cZ AT AT_al AT_kp AT_ik AT_rf AT_hd AT_bs AT_se AT_bf AT_te AT_by AT_an AT_vs vT_ab vT_be vT_byl vT_tka vT_tkl vT_tkn vT_val fT_rf (upd r_51 5 0)) H := hP
          have hD : va_D A (wd_X8_flower cI cZ AT AT_al AT_kp AT_ik AT_rf AT_hd AT_bs AT_se AT_bf AT_te AT_by AT_an AT_vs vT_ab vT_be vT_byl vT_tka vT_tkl vT_tkn vT_val fT_rf (upd r_51 5 0)) := hD
          refine lv_aload_n hx hb dX8_flower_61 rfl (lv_at hl 0 rfl) ?_
          refine gf_X8_7 (v := .ref AT_al) hx hb hts hown hK hN hP 0 rfl rfl dX8_flower_62 ?_
          refine lv_iconst (v := 1) hx hb dX8_flower_65 (by decide) ?_
          refine q_iald (j := 1) hx hb hK hP 2 rfl (q_inl (by decide)) (by decide) dX8_flower_66 ?_
          refine lv_iconst (v := 1) hx hb dX8_flower_67 (by decide) ?_
          refine lv_isub hx hb dX8_flower_68 ?_
          have hm := Option.some.inj hm
          subst hm
          exact q_iret (v := (((upd r_51 5 0) 1) - 1)) hx hb hr hlocks hP hS dX8_flower_69
        · have hm := it_s c_36 hm
          refine lv_aload_n hx hb dX8_flower_39 rfl (lv_at hl 0 rfl) ?_
          obtain ⟨r_40, hc_40, hm⟩ := ob_s hm
          refine q_ci (q_rv (rest := []) ⟨hx, hb, hml, hown, hts⟩ hK hN hP hD (c_X8_full l D cI cZ H.size AT AT_al AT_kp AT_ik AT_rf AT_hd AT_bs AT_se AT_bf AT_te AT_by AT_an AT_vs vT_ab vT_be vT_byl vT_tka vT_tkl vT_tkn vT_val fT_rf r_40 hc_40) mb_X8_full mv_X8_full wl_X8_79 [0, 1] rfl rfl rfl (Nat.le_of_ble_eq_true rfl) (Nat.le_of_ble_eq_true rfl) rfl hl.1 rfl (Nat.le_of_ble_eq_true rfl) ⟨Nat.le_refl 0, Nat.le_refl 0⟩ dX8_flower_40) hP hD hS hA [0, 1] rfl rfl (fun H locs hP hD hS => ?_)
          have hP : va_P D vwCl (wd_X8_flower cI cZ AT AT_al AT_kp AT_ik AT_rf AT_hd AT_bs AT_se AT_bf AT_te AT_by AT_an AT_vs vT_ab vT_be vT_byl vT_tka vT_tkl vT_tkn vT_val r_40.2 fT_al) H := hP
          have hD : va_D A (wd_X8_flower cI cZ AT AT_al AT_kp AT_ik AT_rf AT_hd AT_bs AT_se AT_bf AT_te AT_by AT_an AT_vs vT_ab vT_be vT_byl vT_tka vT_tkl vT_tkn vT_val r_40.2 fT_al) := hD
          have hm := Option.some.inj hm
          subst hm
          exact q_iret (v := r_40.1) hx hb hr hlocks hP hS dX8_flower_43
      · have hm := it_s c_18 hm
        refine lv_aload_n hx hb dX8_flower_21 rfl (lv_at hl 0 rfl) ?_
        refine lv_bipush (v := (-2)) hx hb dX8_flower_22 (by decide) ?_
        obtain ⟨r_24, hc_24, hm⟩ := ob_s hm
        refine q_ci (q_rv (rest := []) ⟨hx, hb, hml, hown, hts⟩ hK hN hP hD (c_X8_bad l D cI cZ H.size AT AT_al AT_kp AT_ik AT_rf AT_hd AT_bs AT_se AT_bf AT_te AT_by AT_an AT_vs vT_ab vT_be vT_byl vT_tka vT_tkl vT_tkn vT_val fT_rf (-2) r_24 hc_24) mb_X8_bad mv_X8_bad wl_X8_75 [0, 1] rfl rfl rfl (Nat.le_of_ble_eq_true rfl) (Nat.le_of_ble_eq_true rfl) rfl hl.1 rfl (Nat.le_of_ble_eq_true rfl) ⟨Nat.le_refl 0, Nat.le_refl 0⟩ dX8_flower_24) hP hD hS hA [0, 1] rfl rfl (fun H locs hP hD hS => ?_)
        have hP : va_P D vwCl (wd_X8_flower cI cZ AT AT_al AT_kp AT_ik AT_rf AT_hd AT_bs AT_se AT_bf AT_te AT_by AT_an AT_vs vT_ab vT_be vT_byl vT_tka vT_tkl vT_tkn vT_val r_24.2 fT_al) H := hP
        have hD : va_D A (wd_X8_flower cI cZ AT AT_al AT_kp AT_ik AT_rf AT_hd AT_bs AT_se AT_bf AT_te AT_by AT_an AT_vs vT_ab vT_be vT_byl vT_tka vT_tkl vT_tkn vT_val r_24.2 fT_al) := hD
        have hm := Option.some.inj hm
        subst hm
        exact q_iret (v := r_24.1) hx hb hr hlocks hP hS dX8_flower_27
theorem mb_X8_tellsAs : q_mb yX8_tellsAs cX8_tellsAs 4 (some .int) 3 := ⟨wc_X8_tellsAs, wn_X8, by decide, by decide, by decide +kernel⟩
def wd_X8_tellsAs (cI cZ : ClassId) : va_W := []
def fm_X8_tellsAs (p0 : Int32) (p1 : Int32) (p2 : Int32) : Option (Int32) := if (p2 - p2 / 3 * 3) = 0 then (if p0 = 1 then (some ((p1 + 2))) else if p0 = 2 then (some ((2 * p1))) else if p0 = 3 then (some (((p1 + 1) / 2))) else if p0 = 4 then (if (p2 - p2 / 2 * 2) = 0 then (some ((p1 + 2))) else (some (0))) else if p0 = 5 then (if (2 * p1) ≤ 3 then (some (0)) else (some (((2 * p1) - 3)))) else (some (p1))) else (if p0 = 1 then (some ((p1 + 2))) else if p0 = 2 then (some (p1)) else if p0 = 3 then (some (((p1 + 1) / 2))) else if p0 = 4 then (if (p2 - p2 / 2 * 2) = 0 then (some ((p1 + 2))) else (some (0))) else if p0 = 5 then (if p1 ≤ 3 then (some (0)) else (some ((p1 - 3)))) else (some (p1)))
set_option maxHeartbeats 4000000 in
set_option maxRecDepth 100000 in
theorem c_X8_tellsAs (l : Launch) (D : va_G) (cI cZ : ClassId) (sz : Nat) (p0 : Int32) (p1 : Int32) (p2 : Int32) (out : (Int32)) (hm : fm_X8_tellsAs p0 p1 p2 = some out) : Met l yX8_tellsAs (Cond.code yX8_tellsAs cX8_tellsAs 4 (some .int) :: bg) { frames := 0, cells := 0, slots := 0, locals := 0 } (va_Pc [.int p0, .int p1, .int p2] (q_pre D cI cZ sz (wd_X8_tellsAs cI cZ))) (q_Qi D (wd_X8_tellsAs cI cZ) out (va_A (wd_X8_tellsAs cI cZ) sz)) 0 0 (va_A (wd_X8_tellsAs cI cZ) sz) := by
  refine q_met (fun A => q_Qi D (wd_X8_tellsAs cI cZ) out A) (by decide) (Nat.le_of_ble_eq_true rfl) ?_
  intro p e s m below meth c ls A hx hb hr hml hown hts hlocks _ hA hS hP hD hK hN hl
  have hown : s.vm.findClass RX8 = some m.cls := hown
  have hl : lv_has ls 4 [(0, .int p0), (1, .int p1), (2, .int p2)] := hl
  unfold fm_X8_tellsAs at hm
  refine q_gen hS hP ?_
  intro H locs hP hS
  refine lv_iload_n hx hb dX8_tellsAs_0 rfl (lv_at hl 2 rfl) ?_
  refine lv_iconst (v := 3) hx hb dX8_tellsAs_1 (by decide) ?_
  refine lv_irem hx hb dX8_tellsAs_2 (by decide) ?_
  refine lv_if_ne (tgt := 12) hx hb dX8_tellsAs_3 (by decide) (fun c_3 => ?_) (fun c_3 => ?_)
  · have hm := it_n c_3 hm
    refine lv_iload_n hx hb dX8_tellsAs_12 rfl (lv_at hl 1 rfl) ?_
    refine lv_istore_n (lv' := [(3, .int p1), (0, .int p0), (1, .int p1), (2, .int p2)]) hx hb dX8_tellsAs_13 rfl hl (by decide) rfl (fun ls hl => ?_)
    refine lv_iload_n hx hb dX8_tellsAs_14 rfl (lv_at hl 1 rfl) ?_
    rcases Decidable.em (p0 = 1) with c_15_1 | c_15_1
    · have hm := it_s c_15_1 hm
      refine lv_tableIn (tgt := 48) hx hb dX8_tellsAs_15 (by rw [c_15_1]; decide) (by rw [c_15_1]; decide) (by rw [c_15_1]; rfl) (by decide) ?_
      refine lv_iload_n hx hb dX8_tellsAs_48 rfl (lv_at hl 2 rfl) ?_
      refine lv_iconst (v := 2) hx hb dX8_tellsAs_49 (by decide) ?_
      refine lv_iadd hx hb dX8_tellsAs_50 ?_
      have hm := Option.some.inj hm
      subst hm
      exact q_iret (v := (p1 + 2)) hx hb hr hlocks hP hS dX8_tellsAs_51
    have hm := it_n c_15_1 hm
    rcases Decidable.em (p0 = 2) with c_15_2 | c_15_2
    · have hm := it_s c_15_2 hm
      refine lv_tableIn (tgt := 52) hx hb dX8_tellsAs_15 (by rw [c_15_2]; decide) (by rw [c_15_2]; decide) (by rw [c_15_2]; rfl) (by decide) ?_
      refine lv_iload_n hx hb dX8_tellsAs_52 rfl (lv_at hl 0 rfl) ?_
      have hm := Option.some.inj hm
      subst hm
      exact q_iret (v := p1) hx hb hr hlocks hP hS dX8_tellsAs_53
    have hm := it_n c_15_2 hm
    rcases Decidable.em (p0 = 3) with c_15_3 | c_15_3
    · have hm := it_s c_15_3 hm
      refine lv_tableIn (tgt := 54) hx hb dX8_tellsAs_15 (by rw [c_15_3]; decide) (by rw [c_15_3]; decide) (by rw [c_15_3]; rfl) (by decide) ?_
      refine lv_iload_n hx hb dX8_tellsAs_54 rfl (lv_at hl 2 rfl) ?_
      refine lv_iconst (v := 1) hx hb dX8_tellsAs_55 (by decide) ?_
      refine lv_iadd hx hb dX8_tellsAs_56 ?_
      refine lv_iconst (v := 2) hx hb dX8_tellsAs_57 (by decide) ?_
      refine lv_idiv hx hb dX8_tellsAs_58 (by decide) ?_
      have hm := Option.some.inj hm
      subst hm
      exact q_iret (v := ((p1 + 1) / 2)) hx hb hr hlocks hP hS dX8_tellsAs_59
    have hm := it_n c_15_3 hm
    rcases Decidable.em (p0 = 4) with c_15_4 | c_15_4
    · have hm := it_s c_15_4 hm
      refine lv_tableIn (tgt := 60) hx hb dX8_tellsAs_15 (by rw [c_15_4]; decide) (by rw [c_15_4]; decide) (by rw [c_15_4]; rfl) (by decide) ?_
      refine lv_iload_n hx hb dX8_tellsAs_60 rfl (lv_at hl 3 rfl) ?_
      refine lv_iconst (v := 2) hx hb dX8_tellsAs_61 (by decide) ?_
      refine lv_irem hx hb dX8_tellsAs_62 (by decide) ?_
      refine lv_if_ne (tgt := 72) hx hb dX8_tellsAs_63 (by decide) (fun c_63 => ?_) (fun c_63 => ?_)
      · have hm := it_n c_63 hm
        refine lv_iconst (v := 0) hx hb dX8_tellsAs_72 (by decide) ?_
        have hm := Option.some.inj hm
        subst hm
        exact q_iret (v := 0) hx hb hr hlocks hP hS dX8_tellsAs_73
      · have hm := it_s c_63 hm
        refine lv_iload_n hx hb dX8_tellsAs_66 rfl (lv_at hl 2 rfl) ?_
        refine lv_iconst (v := 2) hx hb dX8_tellsAs_67 (by decide) ?_
        refine lv_iadd hx hb dX8_tellsAs_68 ?_
        refine lv_goto (tgt := 73) hx hb dX8_tellsAs_69 (by decide) ?_
        have hm := Option.some.inj hm
        subst hm
        exact q_iret (v := (p1 + 2)) hx hb hr hlocks hP hS dX8_tellsAs_73
    have hm := it_n c_15_4 hm
    rcases Decidable.em (p0 = 5) with c_15_5 | c_15_5
    · have hm := it_s c_15_5 hm
      refine lv_tableIn (tgt := 74) hx hb dX8_tellsAs_15 (by rw [c_15_5]; decide) (by rw [c_15_5]; decide) (by rw [c_15_5]; rfl) (by decide) ?_
      refine lv_iload_n hx hb dX8_tellsAs_74 rfl (lv_at hl 0 rfl) ?_
      refine lv_iconst (v := 3) hx hb dX8_tellsAs_75 (by decide) ?_
      refine lv_icmp_le (tgt := 85) hx hb dX8_tellsAs_76 (by decide) (fun c_76 => ?_) (fun c_76 => ?_)
      · have hm := it_s c_76 hm
        refine lv_iconst (v := 0) hx hb dX8_tellsAs_85 (by decide) ?_
        have hm := Option.some.inj hm
        subst hm
        exact q_iret (v := 0) hx hb hr hlocks hP hS dX8_tellsAs_86
      · have hm := it_n c_76 hm
        refine lv_iload_n hx hb dX8_tellsAs_79 rfl (lv_at hl 0 rfl) ?_
        refine lv_iconst (v := 3) hx hb dX8_tellsAs_80 (by decide) ?_
        refine lv_isub hx hb dX8_tellsAs_81 ?_
        refine lv_goto (tgt := 86) hx hb dX8_tellsAs_82 (by decide) ?_
        have hm := Option.some.inj hm
        subst hm
        exact q_iret (v := (p1 - 3)) hx hb hr hlocks hP hS dX8_tellsAs_86
    have hm := it_n c_15_5 hm
    have ht_0 := lv_neT c_15_1 (show (1 : Int32).toInt = 1 by decide)
    have ht_1 := lv_neT c_15_2 (show (2 : Int32).toInt = 2 by decide)
    have ht_2 := lv_neT c_15_3 (show (3 : Int32).toInt = 3 by decide)
    have ht_3 := lv_neT c_15_4 (show (4 : Int32).toInt = 4 by decide)
    have ht_4 := lv_neT c_15_5 (show (5 : Int32).toInt = 5 by decide)
    refine lv_tableOut (tgt := 87) hx hb dX8_tellsAs_15 (by omega) (by decide) ?_
    refine lv_iload_n hx hb dX8_tellsAs_87 rfl (lv_at hl 2 rfl) ?_
    have hm := Option.some.inj hm
    subst hm
    exact q_iret (v := p1) hx hb hr hlocks hP hS dX8_tellsAs_88
  · have hm := it_s c_3 hm
    refine lv_iconst (v := 2) hx hb dX8_tellsAs_6 (by decide) ?_
    refine lv_iload_n hx hb dX8_tellsAs_7 rfl (lv_at hl 1 rfl) ?_
    refine lv_imul hx hb dX8_tellsAs_8 ?_
    refine lv_goto (tgt := 13) hx hb dX8_tellsAs_9 (by decide) ?_
    refine lv_istore_n (lv' := [(3, .int (2 * p1)), (0, .int p0), (1, .int p1), (2, .int p2)]) hx hb dX8_tellsAs_13 rfl hl (by decide) rfl (fun ls hl => ?_)
    refine lv_iload_n hx hb dX8_tellsAs_14 rfl (lv_at hl 1 rfl) ?_
    rcases Decidable.em (p0 = 1) with c_15_1 | c_15_1
    · have hm := it_s c_15_1 hm
      refine lv_tableIn (tgt := 48) hx hb dX8_tellsAs_15 (by rw [c_15_1]; decide) (by rw [c_15_1]; decide) (by rw [c_15_1]; rfl) (by decide) ?_
      refine lv_iload_n hx hb dX8_tellsAs_48 rfl (lv_at hl 2 rfl) ?_
      refine lv_iconst (v := 2) hx hb dX8_tellsAs_49 (by decide) ?_
      refine lv_iadd hx hb dX8_tellsAs_50 ?_
      have hm := Option.some.inj hm
      subst hm
      exact q_iret (v := (p1 + 2)) hx hb hr hlocks hP hS dX8_tellsAs_51
    have hm := it_n c_15_1 hm
    rcases Decidable.em (p0 = 2) with c_15_2 | c_15_2
    · have hm := it_s c_15_2 hm
      refine lv_tableIn (tgt := 52) hx hb dX8_tellsAs_15 (by rw [c_15_2]; decide) (by rw [c_15_2]; decide) (by rw [c_15_2]; rfl) (by decide) ?_
      refine lv_iload_n hx hb dX8_tellsAs_52 rfl (lv_at hl 0 rfl) ?_
      have hm := Option.some.inj hm
      subst hm
      exact q_iret (v := (2 * p1)) hx hb hr hlocks hP hS dX8_tellsAs_53
    have hm := it_n c_15_2 hm
    rcases Decidable.em (p0 = 3) with c_15_3 | c_15_3
    · have hm := it_s c_15_3 hm
      refine lv_tableIn (tgt := 54) hx hb dX8_tellsAs_15 (by rw [c_15_3]; decide) (by rw [c_15_3]; decide) (by rw [c_15_3]; rfl) (by decide) ?_
      refine lv_iload_n hx hb dX8_tellsAs_54 rfl (lv_at hl 2 rfl) ?_
      refine lv_iconst (v := 1) hx hb dX8_tellsAs_55 (by decide) ?_
      refine lv_iadd hx hb dX8_tellsAs_56 ?_
      refine lv_iconst (v := 2) hx hb dX8_tellsAs_57 (by decide) ?_
      refine lv_idiv hx hb dX8_tellsAs_58 (by decide) ?_
      have hm := Option.some.inj hm
      subst hm
      exact q_iret (v := ((p1 + 1) / 2)) hx hb hr hlocks hP hS dX8_tellsAs_59
    have hm := it_n c_15_3 hm
    rcases Decidable.em (p0 = 4) with c_15_4 | c_15_4
    · have hm := it_s c_15_4 hm
      refine lv_tableIn (tgt := 60) hx hb dX8_tellsAs_15 (by rw [c_15_4]; decide) (by rw [c_15_4]; decide) (by rw [c_15_4]; rfl) (by decide) ?_
      refine lv_iload_n hx hb dX8_tellsAs_60 rfl (lv_at hl 3 rfl) ?_
      refine lv_iconst (v := 2) hx hb dX8_tellsAs_61 (by decide) ?_
      refine lv_irem hx hb dX8_tellsAs_62 (by decide) ?_
      refine lv_if_ne (tgt := 72) hx hb dX8_tellsAs_63 (by decide) (fun c_63 => ?_) (fun c_63 => ?_)
      · have hm := it_n c_63 hm
        refine lv_iconst (v := 0) hx hb dX8_tellsAs_72 (by decide) ?_
        have hm := Option.some.inj hm
        subst hm
        exact q_iret (v := 0) hx hb hr hlocks hP hS dX8_tellsAs_73
      · have hm := it_s c_63 hm
        refine lv_iload_n hx hb dX8_tellsAs_66 rfl (lv_at hl 2 rfl) ?_
        refine lv_iconst (v := 2) hx hb dX8_tellsAs_67 (by decide) ?_
        refine lv_iadd hx hb dX8_tellsAs_68 ?_
        refine lv_goto (tgt := 73) hx hb dX8_tellsAs_69 (by decide) ?_
        have hm := Option.some.inj hm
        subst hm
        exact q_iret (v := (p1 + 2)) hx hb hr hlocks hP hS dX8_tellsAs_73
    have hm := it_n c_15_4 hm
    rcases Decidable.em (p0 = 5) with c_15_5 | c_15_5
    · have hm := it_s c_15_5 hm
      refine lv_tableIn (tgt := 74) hx hb dX8_tellsAs_15 (by rw [c_15_5]; decide) (by rw [c_15_5]; decide) (by rw [c_15_5]; rfl) (by decide) ?_
      refine lv_iload_n hx hb dX8_tellsAs_74 rfl (lv_at hl 0 rfl) ?_
      refine lv_iconst (v := 3) hx hb dX8_tellsAs_75 (by decide) ?_
      refine lv_icmp_le (tgt := 85) hx hb dX8_tellsAs_76 (by decide) (fun c_76 => ?_) (fun c_76 => ?_)
      · have hm := it_s c_76 hm
        refine lv_iconst (v := 0) hx hb dX8_tellsAs_85 (by decide) ?_
        have hm := Option.some.inj hm
        subst hm
        exact q_iret (v := 0) hx hb hr hlocks hP hS dX8_tellsAs_86
      · have hm := it_n c_76 hm
        refine lv_iload_n hx hb dX8_tellsAs_79 rfl (lv_at hl 0 rfl) ?_
        refine lv_iconst (v := 3) hx hb dX8_tellsAs_80 (by decide) ?_
        refine lv_isub hx hb dX8_tellsAs_81 ?_
        refine lv_goto (tgt := 86) hx hb dX8_tellsAs_82 (by decide) ?_
        have hm := Option.some.inj hm
        subst hm
        exact q_iret (v := ((2 * p1) - 3)) hx hb hr hlocks hP hS dX8_tellsAs_86
    have hm := it_n c_15_5 hm
    have ht_0 := lv_neT c_15_1 (show (1 : Int32).toInt = 1 by decide)
    have ht_1 := lv_neT c_15_2 (show (2 : Int32).toInt = 2 by decide)
    have ht_2 := lv_neT c_15_3 (show (3 : Int32).toInt = 3 by decide)
    have ht_3 := lv_neT c_15_4 (show (4 : Int32).toInt = 4 by decide)
    have ht_4 := lv_neT c_15_5 (show (5 : Int32).toInt = 5 by decide)
    refine lv_tableOut (tgt := 87) hx hb dX8_tellsAs_15 (by omega) (by decide) ?_
    refine lv_iload_n hx hb dX8_tellsAs_87 rfl (lv_at hl 2 rfl) ?_
    have hm := Option.some.inj hm
    subst hm
    exact q_iret (v := p1) hx hb hr hlocks hP hS dX8_tellsAs_88
theorem mb_X8_believesAs : q_mb yX8_believesAs cX8_believesAs 5 (some .int) 3 := ⟨wc_X8_believesAs, wn_X8, by decide, by decide, by decide +kernel⟩
def wd_X8_believesAs (cI cZ : ClassId) : va_W := []
def fm_X8_believesAs (p0 : Int32) (p1 : Int32) (p2 : Int32) : Option (Int32) := if p1 ≤ p2 then (if p1 < 1 then (if p0 = 1 then (some ((0 / 2))) else if p0 = 2 then (some (0)) else if p0 = 3 then (if 4 ≤ p1 then (some ((0 / 2))) else (some (0))) else if p0 = 4 then (some (0)) else if p0 = 5 then (some ((2 * 0))) else (some (0))) else (if p0 = 1 then (some ((0 / 2))) else if p0 = 2 then (some ((0 + 1))) else if p0 = 3 then (if 4 ≤ p1 then (some ((0 / 2))) else (some (0))) else if p0 = 4 then (some (0)) else if p0 = 5 then (some ((2 * (0 + 1)))) else (some (0)))) else (if p1 < 1 then (if p0 = 1 then (some (((p1 - p2) / 2))) else if p0 = 2 then (some ((p1 - p2))) else if p0 = 3 then (if 4 ≤ p1 then (some (((p1 - p2) / 2))) else (some (0))) else if p0 = 4 then (if (p1 - p2) ≤ 5 then (some ((p1 - p2))) else (some (5))) else if p0 = 5 then (some ((2 * (p1 - p2)))) else (some ((p1 - p2)))) else (if p0 = 1 then (some (((p1 - p2) / 2))) else if p0 = 2 then (some (((p1 - p2) + 1))) else if p0 = 3 then (if 4 ≤ p1 then (some (((p1 - p2) / 2))) else (some (0))) else if p0 = 4 then (if (p1 - p2) ≤ 5 then (some ((p1 - p2))) else (some (5))) else if p0 = 5 then (some ((2 * ((p1 - p2) + 1)))) else (some ((p1 - p2)))))
set_option maxHeartbeats 4000000 in
set_option maxRecDepth 100000 in
theorem c_X8_believesAs (l : Launch) (D : va_G) (cI cZ : ClassId) (sz : Nat) (p0 : Int32) (p1 : Int32) (p2 : Int32) (out : (Int32)) (hm : fm_X8_believesAs p0 p1 p2 = some out) : Met l yX8_believesAs (Cond.code yX8_believesAs cX8_believesAs 5 (some .int) :: bg) { frames := 0, cells := 0, slots := 0, locals := 0 } (va_Pc [.int p0, .int p1, .int p2] (q_pre D cI cZ sz (wd_X8_believesAs cI cZ))) (q_Qi D (wd_X8_believesAs cI cZ) out (va_A (wd_X8_believesAs cI cZ) sz)) 0 0 (va_A (wd_X8_believesAs cI cZ) sz) := by
  refine q_met (fun A => q_Qi D (wd_X8_believesAs cI cZ) out A) (by decide) (Nat.le_of_ble_eq_true rfl) ?_
  intro p e s m below meth c ls A hx hb hr hml hown hts hlocks _ hA hS hP hD hK hN hl
  have hown : s.vm.findClass RX8 = some m.cls := hown
  have hl : lv_has ls 5 [(0, .int p0), (1, .int p1), (2, .int p2)] := hl
  unfold fm_X8_believesAs at hm
  refine q_gen hS hP ?_
  intro H locs hP hS
  refine lv_iload_n hx hb dX8_believesAs_0 rfl (lv_at hl 1 rfl) ?_
  refine lv_iload_n hx hb dX8_believesAs_1 rfl (lv_at hl 2 rfl) ?_
  refine lv_icmp_le (tgt := 11) hx hb dX8_believesAs_2 (by decide) (fun c_2 => ?_) (fun c_2 => ?_)
  · have hm := it_s c_2 hm
    refine lv_iconst (v := 0) hx hb dX8_believesAs_11 (by decide) ?_
    refine lv_istore_n (lv' := [(3, .int 0), (0, .int p0), (1, .int p1), (2, .int p2)]) hx hb dX8_believesAs_12 rfl hl (by decide) rfl (fun ls hl => ?_)
    refine lv_iload_n hx hb dX8_believesAs_13 rfl (lv_at hl 2 rfl) ?_
    refine lv_iconst (v := 1) hx hb dX8_believesAs_14 (by decide) ?_
    refine lv_icmp_lt (tgt := 24) hx hb dX8_believesAs_15 (by decide) (fun c_15 => ?_) (fun c_15 => ?_)
    · have hm := it_s c_15 hm
      refine lv_iload_n hx hb dX8_believesAs_24 rfl (lv_at hl 0 rfl) ?_
      refine lv_istore (lv' := [(4, .int 0), (3, .int 0), (0, .int p0), (1, .int p1), (2, .int p2)]) hx hb dX8_believesAs_25 hl (by decide) rfl (fun ls hl => ?_)
      refine lv_iload_n hx hb dX8_believesAs_27 rfl (lv_at hl 2 rfl) ?_
      rcases Decidable.em (p0 = 1) with c_28_1 | c_28_1
      · have hm := it_s c_28_1 hm
        refine lv_tableIn (tgt := 64) hx hb dX8_believesAs_28 (by rw [c_28_1]; decide) (by rw [c_28_1]; decide) (by rw [c_28_1]; rfl) (by decide) ?_
        refine lv_iload_n hx hb dX8_believesAs_64 rfl (lv_at hl 1 rfl) ?_
        refine lv_iconst (v := 2) hx hb dX8_believesAs_65 (by decide) ?_
        refine lv_idiv hx hb dX8_believesAs_66 (by decide) ?_
        have hm := Option.some.inj hm
        subst hm
        exact q_iret (v := (0 / 2)) hx hb hr hlocks hP hS dX8_believesAs_67
      have hm := it_n c_28_1 hm
      rcases Decidable.em (p0 = 2) with c_28_2 | c_28_2
      · have hm := it_s c_28_2 hm
        refine lv_tableIn (tgt := 68) hx hb dX8_believesAs_28 (by rw [c_28_2]; decide) (by rw [c_28_2]; decide) (by rw [c_28_2]; rfl) (by decide) ?_
        refine lv_iload hx hb dX8_believesAs_68 (lv_at hl 0 rfl) ?_
        have hm := Option.some.inj hm
        subst hm
        exact q_iret (v := 0) hx hb hr hlocks hP hS dX8_believesAs_70
      have hm := it_n c_28_2 hm
      rcases Decidable.em (p0 = 3) with c_28_3 | c_28_3
      · have hm := it_s c_28_3 hm
        refine lv_tableIn (tgt := 71) hx hb dX8_believesAs_28 (by rw [c_28_3]; decide) (by rw [c_28_3]; decide) (by rw [c_28_3]; rfl) (by decide) ?_
        refine lv_iload_n hx hb dX8_believesAs_71 rfl (lv_at hl 3 rfl) ?_
        refine lv_iconst (v := 4) hx hb dX8_believesAs_72 (by decide) ?_
        refine lv_icmp_ge (tgt := 80) hx hb dX8_believesAs_73 (by decide) (fun c_73 => ?_) (fun c_73 => ?_)
        · have hm := it_s c_73 hm
          refine lv_iload_n hx hb dX8_believesAs_80 rfl (lv_at hl 1 rfl) ?_
          refine lv_iconst (v := 2) hx hb dX8_believesAs_81 (by decide) ?_
          refine lv_idiv hx hb dX8_believesAs_82 (by decide) ?_
          have hm := Option.some.inj hm
          subst hm
          exact q_iret (v := (0 / 2)) hx hb hr hlocks hP hS dX8_believesAs_83
        · have hm := it_n c_73 hm
          refine lv_iconst (v := 0) hx hb dX8_believesAs_76 (by decide) ?_
          refine lv_goto (tgt := 83) hx hb dX8_believesAs_77 (by decide) ?_
          have hm := Option.some.inj hm
          subst hm
          exact q_iret (v := 0) hx hb hr hlocks hP hS dX8_believesAs_83
      have hm := it_n c_28_3 hm
      rcases Decidable.em (p0 = 4) with c_28_4 | c_28_4
      · have hm := it_s c_28_4 hm
        refine lv_tableIn (tgt := 84) hx hb dX8_believesAs_28 (by rw [c_28_4]; decide) (by rw [c_28_4]; decide) (by rw [c_28_4]; rfl) (by decide) ?_
        refine lv_iload_n hx hb dX8_believesAs_84 rfl (lv_at hl 1 rfl) ?_
        refine lv_iconst (v := 5) hx hb dX8_believesAs_85 (by decide) ?_
        refine lv_icmp_le (tgt := 93) hx hb dX8_believesAs_86 (by decide) (fun _ => ?_) (fun c => absurd c (by decide))
        refine lv_iload_n hx hb dX8_believesAs_93 rfl (lv_at hl 1 rfl) ?_
        have hm := Option.some.inj hm
        subst hm
        exact q_iret (v := 0) hx hb hr hlocks hP hS dX8_believesAs_94
      have hm := it_n c_28_4 hm
      rcases Decidable.em (p0 = 5) with c_28_5 | c_28_5
      · have hm := it_s c_28_5 hm
        refine lv_tableIn (tgt := 95) hx hb dX8_believesAs_28 (by rw [c_28_5]; decide) (by rw [c_28_5]; decide) (by rw [c_28_5]; rfl) (by decide) ?_
        refine lv_iconst (v := 2) hx hb dX8_believesAs_95 (by decide) ?_
        refine lv_iload hx hb dX8_believesAs_96 (lv_at hl 0 rfl) ?_
        refine lv_imul hx hb dX8_believesAs_98 ?_
        have hm := Option.some.inj hm
        subst hm
        exact q_iret (v := (2 * 0)) hx hb hr hlocks hP hS dX8_believesAs_99
      have hm := it_n c_28_5 hm
      have ht_0 := lv_neT c_28_1 (show (1 : Int32).toInt = 1 by decide)
      have ht_1 := lv_neT c_28_2 (show (2 : Int32).toInt = 2 by decide)
      have ht_2 := lv_neT c_28_3 (show (3 : Int32).toInt = 3 by decide)
      have ht_3 := lv_neT c_28_4 (show (4 : Int32).toInt = 4 by decide)
      have ht_4 := lv_neT c_28_5 (show (5 : Int32).toInt = 5 by decide)
      refine lv_tableOut (tgt := 100) hx hb dX8_believesAs_28 (by omega) (by decide) ?_
      refine lv_iload_n hx hb dX8_believesAs_100 rfl (lv_at hl 1 rfl) ?_
      have hm := Option.some.inj hm
      subst hm
      exact q_iret (v := 0) hx hb hr hlocks hP hS dX8_believesAs_101
    · have hm := it_n c_15 hm
      refine lv_iload_n hx hb dX8_believesAs_18 rfl (lv_at hl 0 rfl) ?_
      refine lv_iconst (v := 1) hx hb dX8_believesAs_19 (by decide) ?_
      refine lv_iadd hx hb dX8_believesAs_20 ?_
      refine lv_goto (tgt := 25) hx hb dX8_believesAs_21 (by decide) ?_
      refine lv_istore (lv' := [(4, .int (0 + 1)), (3, .int 0), (0, .int p0), (1, .int p1), (2, .int p2)]) hx hb dX8_believesAs_25 hl (by decide) rfl (fun ls hl => ?_)
      refine lv_iload_n hx hb dX8_believesAs_27 rfl (lv_at hl 2 rfl) ?_
      rcases Decidable.em (p0 = 1) with c_28_1 | c_28_1
      · have hm := it_s c_28_1 hm
        refine lv_tableIn (tgt := 64) hx hb dX8_believesAs_28 (by rw [c_28_1]; decide) (by rw [c_28_1]; decide) (by rw [c_28_1]; rfl) (by decide) ?_
        refine lv_iload_n hx hb dX8_believesAs_64 rfl (lv_at hl 1 rfl) ?_
        refine lv_iconst (v := 2) hx hb dX8_believesAs_65 (by decide) ?_
        refine lv_idiv hx hb dX8_believesAs_66 (by decide) ?_
        have hm := Option.some.inj hm
        subst hm
        exact q_iret (v := (0 / 2)) hx hb hr hlocks hP hS dX8_believesAs_67
      have hm := it_n c_28_1 hm
      rcases Decidable.em (p0 = 2) with c_28_2 | c_28_2
      · have hm := it_s c_28_2 hm
        refine lv_tableIn (tgt := 68) hx hb dX8_believesAs_28 (by rw [c_28_2]; decide) (by rw [c_28_2]; decide) (by rw [c_28_2]; rfl) (by decide) ?_
        refine lv_iload hx hb dX8_believesAs_68 (lv_at hl 0 rfl) ?_
        have hm := Option.some.inj hm
        subst hm
        exact q_iret (v := (0 + 1)) hx hb hr hlocks hP hS dX8_believesAs_70
      have hm := it_n c_28_2 hm
      rcases Decidable.em (p0 = 3) with c_28_3 | c_28_3
      · have hm := it_s c_28_3 hm
        refine lv_tableIn (tgt := 71) hx hb dX8_believesAs_28 (by rw [c_28_3]; decide) (by rw [c_28_3]; decide) (by rw [c_28_3]; rfl) (by decide) ?_
        refine lv_iload_n hx hb dX8_believesAs_71 rfl (lv_at hl 3 rfl) ?_
        refine lv_iconst (v := 4) hx hb dX8_believesAs_72 (by decide) ?_
        refine lv_icmp_ge (tgt := 80) hx hb dX8_believesAs_73 (by decide) (fun c_73 => ?_) (fun c_73 => ?_)
        · have hm := it_s c_73 hm
          refine lv_iload_n hx hb dX8_believesAs_80 rfl (lv_at hl 1 rfl) ?_
          refine lv_iconst (v := 2) hx hb dX8_believesAs_81 (by decide) ?_
          refine lv_idiv hx hb dX8_believesAs_82 (by decide) ?_
          have hm := Option.some.inj hm
          subst hm
          exact q_iret (v := (0 / 2)) hx hb hr hlocks hP hS dX8_believesAs_83
        · have hm := it_n c_73 hm
          refine lv_iconst (v := 0) hx hb dX8_believesAs_76 (by decide) ?_
          refine lv_goto (tgt := 83) hx hb dX8_believesAs_77 (by decide) ?_
          have hm := Option.some.inj hm
          subst hm
          exact q_iret (v := 0) hx hb hr hlocks hP hS dX8_believesAs_83
      have hm := it_n c_28_3 hm
      rcases Decidable.em (p0 = 4) with c_28_4 | c_28_4
      · have hm := it_s c_28_4 hm
        refine lv_tableIn (tgt := 84) hx hb dX8_believesAs_28 (by rw [c_28_4]; decide) (by rw [c_28_4]; decide) (by rw [c_28_4]; rfl) (by decide) ?_
        refine lv_iload_n hx hb dX8_believesAs_84 rfl (lv_at hl 1 rfl) ?_
        refine lv_iconst (v := 5) hx hb dX8_believesAs_85 (by decide) ?_
        refine lv_icmp_le (tgt := 93) hx hb dX8_believesAs_86 (by decide) (fun _ => ?_) (fun c => absurd c (by decide))
        refine lv_iload_n hx hb dX8_believesAs_93 rfl (lv_at hl 1 rfl) ?_
        have hm := Option.some.inj hm
        subst hm
        exact q_iret (v := 0) hx hb hr hlocks hP hS dX8_believesAs_94
      have hm := it_n c_28_4 hm
      rcases Decidable.em (p0 = 5) with c_28_5 | c_28_5
      · have hm := it_s c_28_5 hm
        refine lv_tableIn (tgt := 95) hx hb dX8_believesAs_28 (by rw [c_28_5]; decide) (by rw [c_28_5]; decide) (by rw [c_28_5]; rfl) (by decide) ?_
        refine lv_iconst (v := 2) hx hb dX8_believesAs_95 (by decide) ?_
        refine lv_iload hx hb dX8_believesAs_96 (lv_at hl 0 rfl) ?_
        refine lv_imul hx hb dX8_believesAs_98 ?_
        have hm := Option.some.inj hm
        subst hm
        exact q_iret (v := (2 * (0 + 1))) hx hb hr hlocks hP hS dX8_believesAs_99
      have hm := it_n c_28_5 hm
      have ht_0 := lv_neT c_28_1 (show (1 : Int32).toInt = 1 by decide)
      have ht_1 := lv_neT c_28_2 (show (2 : Int32).toInt = 2 by decide)
      have ht_2 := lv_neT c_28_3 (show (3 : Int32).toInt = 3 by decide)
      have ht_3 := lv_neT c_28_4 (show (4 : Int32).toInt = 4 by decide)
      have ht_4 := lv_neT c_28_5 (show (5 : Int32).toInt = 5 by decide)
      refine lv_tableOut (tgt := 100) hx hb dX8_believesAs_28 (by omega) (by decide) ?_
      refine lv_iload_n hx hb dX8_believesAs_100 rfl (lv_at hl 1 rfl) ?_
      have hm := Option.some.inj hm
      subst hm
      exact q_iret (v := 0) hx hb hr hlocks hP hS dX8_believesAs_101
  · have hm := it_n c_2 hm
    refine lv_iload_n hx hb dX8_believesAs_5 rfl (lv_at hl 1 rfl) ?_
    refine lv_iload_n hx hb dX8_believesAs_6 rfl (lv_at hl 2 rfl) ?_
    refine lv_isub hx hb dX8_believesAs_7 ?_
    refine lv_goto (tgt := 12) hx hb dX8_believesAs_8 (by decide) ?_
    refine lv_istore_n (lv' := [(3, .int (p1 - p2)), (0, .int p0), (1, .int p1), (2, .int p2)]) hx hb dX8_believesAs_12 rfl hl (by decide) rfl (fun ls hl => ?_)
    refine lv_iload_n hx hb dX8_believesAs_13 rfl (lv_at hl 2 rfl) ?_
    refine lv_iconst (v := 1) hx hb dX8_believesAs_14 (by decide) ?_
    refine lv_icmp_lt (tgt := 24) hx hb dX8_believesAs_15 (by decide) (fun c_15 => ?_) (fun c_15 => ?_)
    · have hm := it_s c_15 hm
      refine lv_iload_n hx hb dX8_believesAs_24 rfl (lv_at hl 0 rfl) ?_
      refine lv_istore (lv' := [(4, .int (p1 - p2)), (3, .int (p1 - p2)), (0, .int p0), (1, .int p1), (2, .int p2)]) hx hb dX8_believesAs_25 hl (by decide) rfl (fun ls hl => ?_)
      refine lv_iload_n hx hb dX8_believesAs_27 rfl (lv_at hl 2 rfl) ?_
      rcases Decidable.em (p0 = 1) with c_28_1 | c_28_1
      · have hm := it_s c_28_1 hm
        refine lv_tableIn (tgt := 64) hx hb dX8_believesAs_28 (by rw [c_28_1]; decide) (by rw [c_28_1]; decide) (by rw [c_28_1]; rfl) (by decide) ?_
        refine lv_iload_n hx hb dX8_believesAs_64 rfl (lv_at hl 1 rfl) ?_
        refine lv_iconst (v := 2) hx hb dX8_believesAs_65 (by decide) ?_
        refine lv_idiv hx hb dX8_believesAs_66 (by decide) ?_
        have hm := Option.some.inj hm
        subst hm
        exact q_iret (v := ((p1 - p2) / 2)) hx hb hr hlocks hP hS dX8_believesAs_67
      have hm := it_n c_28_1 hm
      rcases Decidable.em (p0 = 2) with c_28_2 | c_28_2
      · have hm := it_s c_28_2 hm
        refine lv_tableIn (tgt := 68) hx hb dX8_believesAs_28 (by rw [c_28_2]; decide) (by rw [c_28_2]; decide) (by rw [c_28_2]; rfl) (by decide) ?_
        refine lv_iload hx hb dX8_believesAs_68 (lv_at hl 0 rfl) ?_
        have hm := Option.some.inj hm
        subst hm
        exact q_iret (v := (p1 - p2)) hx hb hr hlocks hP hS dX8_believesAs_70
      have hm := it_n c_28_2 hm
      rcases Decidable.em (p0 = 3) with c_28_3 | c_28_3
      · have hm := it_s c_28_3 hm
        refine lv_tableIn (tgt := 71) hx hb dX8_believesAs_28 (by rw [c_28_3]; decide) (by rw [c_28_3]; decide) (by rw [c_28_3]; rfl) (by decide) ?_
        refine lv_iload_n hx hb dX8_believesAs_71 rfl (lv_at hl 3 rfl) ?_
        refine lv_iconst (v := 4) hx hb dX8_believesAs_72 (by decide) ?_
        refine lv_icmp_ge (tgt := 80) hx hb dX8_believesAs_73 (by decide) (fun c_73 => ?_) (fun c_73 => ?_)
        · have hm := it_s c_73 hm
          refine lv_iload_n hx hb dX8_believesAs_80 rfl (lv_at hl 1 rfl) ?_
          refine lv_iconst (v := 2) hx hb dX8_believesAs_81 (by decide) ?_
          refine lv_idiv hx hb dX8_believesAs_82 (by decide) ?_
          have hm := Option.some.inj hm
          subst hm
          exact q_iret (v := ((p1 - p2) / 2)) hx hb hr hlocks hP hS dX8_believesAs_83
        · have hm := it_n c_73 hm
          refine lv_iconst (v := 0) hx hb dX8_believesAs_76 (by decide) ?_
          refine lv_goto (tgt := 83) hx hb dX8_believesAs_77 (by decide) ?_
          have hm := Option.some.inj hm
          subst hm
          exact q_iret (v := 0) hx hb hr hlocks hP hS dX8_believesAs_83
      have hm := it_n c_28_3 hm
      rcases Decidable.em (p0 = 4) with c_28_4 | c_28_4
      · have hm := it_s c_28_4 hm
        refine lv_tableIn (tgt := 84) hx hb dX8_believesAs_28 (by rw [c_28_4]; decide) (by rw [c_28_4]; decide) (by rw [c_28_4]; rfl) (by decide) ?_
        refine lv_iload_n hx hb dX8_believesAs_84 rfl (lv_at hl 1 rfl) ?_
        refine lv_iconst (v := 5) hx hb dX8_believesAs_85 (by decide) ?_
        refine lv_icmp_le (tgt := 93) hx hb dX8_believesAs_86 (by decide) (fun c_86 => ?_) (fun c_86 => ?_)
        · have hm := it_s c_86 hm
          refine lv_iload_n hx hb dX8_believesAs_93 rfl (lv_at hl 1 rfl) ?_
          have hm := Option.some.inj hm
          subst hm
          exact q_iret (v := (p1 - p2)) hx hb hr hlocks hP hS dX8_believesAs_94
        · have hm := it_n c_86 hm
          refine lv_iconst (v := 5) hx hb dX8_believesAs_89 (by decide) ?_
          refine lv_goto (tgt := 94) hx hb dX8_believesAs_90 (by decide) ?_
          have hm := Option.some.inj hm
          subst hm
          exact q_iret (v := 5) hx hb hr hlocks hP hS dX8_believesAs_94
      have hm := it_n c_28_4 hm
      rcases Decidable.em (p0 = 5) with c_28_5 | c_28_5
      · have hm := it_s c_28_5 hm
        refine lv_tableIn (tgt := 95) hx hb dX8_believesAs_28 (by rw [c_28_5]; decide) (by rw [c_28_5]; decide) (by rw [c_28_5]; rfl) (by decide) ?_
        refine lv_iconst (v := 2) hx hb dX8_believesAs_95 (by decide) ?_
        refine lv_iload hx hb dX8_believesAs_96 (lv_at hl 0 rfl) ?_
        refine lv_imul hx hb dX8_believesAs_98 ?_
        have hm := Option.some.inj hm
        subst hm
        exact q_iret (v := (2 * (p1 - p2))) hx hb hr hlocks hP hS dX8_believesAs_99
      have hm := it_n c_28_5 hm
      have ht_0 := lv_neT c_28_1 (show (1 : Int32).toInt = 1 by decide)
      have ht_1 := lv_neT c_28_2 (show (2 : Int32).toInt = 2 by decide)
      have ht_2 := lv_neT c_28_3 (show (3 : Int32).toInt = 3 by decide)
      have ht_3 := lv_neT c_28_4 (show (4 : Int32).toInt = 4 by decide)
      have ht_4 := lv_neT c_28_5 (show (5 : Int32).toInt = 5 by decide)
      refine lv_tableOut (tgt := 100) hx hb dX8_believesAs_28 (by omega) (by decide) ?_
      refine lv_iload_n hx hb dX8_believesAs_100 rfl (lv_at hl 1 rfl) ?_
      have hm := Option.some.inj hm
      subst hm
      exact q_iret (v := (p1 - p2)) hx hb hr hlocks hP hS dX8_believesAs_101
    · have hm := it_n c_15 hm
      refine lv_iload_n hx hb dX8_believesAs_18 rfl (lv_at hl 0 rfl) ?_
      refine lv_iconst (v := 1) hx hb dX8_believesAs_19 (by decide) ?_
      refine lv_iadd hx hb dX8_believesAs_20 ?_
      refine lv_goto (tgt := 25) hx hb dX8_believesAs_21 (by decide) ?_
      refine lv_istore (lv' := [(4, .int ((p1 - p2) + 1)), (3, .int (p1 - p2)), (0, .int p0), (1, .int p1), (2, .int p2)]) hx hb dX8_believesAs_25 hl (by decide) rfl (fun ls hl => ?_)
      refine lv_iload_n hx hb dX8_believesAs_27 rfl (lv_at hl 2 rfl) ?_
      rcases Decidable.em (p0 = 1) with c_28_1 | c_28_1
      · have hm := it_s c_28_1 hm
        refine lv_tableIn (tgt := 64) hx hb dX8_believesAs_28 (by rw [c_28_1]; decide) (by rw [c_28_1]; decide) (by rw [c_28_1]; rfl) (by decide) ?_
        refine lv_iload_n hx hb dX8_believesAs_64 rfl (lv_at hl 1 rfl) ?_
        refine lv_iconst (v := 2) hx hb dX8_believesAs_65 (by decide) ?_
        refine lv_idiv hx hb dX8_believesAs_66 (by decide) ?_
        have hm := Option.some.inj hm
        subst hm
        exact q_iret (v := ((p1 - p2) / 2)) hx hb hr hlocks hP hS dX8_believesAs_67
      have hm := it_n c_28_1 hm
      rcases Decidable.em (p0 = 2) with c_28_2 | c_28_2
      · have hm := it_s c_28_2 hm
        refine lv_tableIn (tgt := 68) hx hb dX8_believesAs_28 (by rw [c_28_2]; decide) (by rw [c_28_2]; decide) (by rw [c_28_2]; rfl) (by decide) ?_
        refine lv_iload hx hb dX8_believesAs_68 (lv_at hl 0 rfl) ?_
        have hm := Option.some.inj hm
        subst hm
        exact q_iret (v := ((p1 - p2) + 1)) hx hb hr hlocks hP hS dX8_believesAs_70
      have hm := it_n c_28_2 hm
      rcases Decidable.em (p0 = 3) with c_28_3 | c_28_3
      · have hm := it_s c_28_3 hm
        refine lv_tableIn (tgt := 71) hx hb dX8_believesAs_28 (by rw [c_28_3]; decide) (by rw [c_28_3]; decide) (by rw [c_28_3]; rfl) (by decide) ?_
        refine lv_iload_n hx hb dX8_believesAs_71 rfl (lv_at hl 3 rfl) ?_
        refine lv_iconst (v := 4) hx hb dX8_believesAs_72 (by decide) ?_
        refine lv_icmp_ge (tgt := 80) hx hb dX8_believesAs_73 (by decide) (fun c_73 => ?_) (fun c_73 => ?_)
        · have hm := it_s c_73 hm
          refine lv_iload_n hx hb dX8_believesAs_80 rfl (lv_at hl 1 rfl) ?_
          refine lv_iconst (v := 2) hx hb dX8_believesAs_81 (by decide) ?_
          refine lv_idiv hx hb dX8_believesAs_82 (by decide) ?_
          have hm := Option.some.inj hm
          subst hm
          exact q_iret (v := ((p1 - p2) / 2)) hx hb hr hlocks hP hS dX8_believesAs_83
        · have hm := it_n c_73 hm
          refine lv_iconst (v := 0) hx hb dX8_believesAs_76 (by decide) ?_
          refine lv_goto (tgt := 83) hx hb dX8_believesAs_77 (by decide) ?_
          have hm := Option.some.inj hm
          subst hm
          exact q_iret (v := 0) hx hb hr hlocks hP hS dX8_believesAs_83
      have hm := it_n c_28_3 hm
      rcases Decidable.em (p0 = 4) with c_28_4 | c_28_4
      · have hm := it_s c_28_4 hm
        refine lv_tableIn (tgt := 84) hx hb dX8_believesAs_28 (by rw [c_28_4]; decide) (by rw [c_28_4]; decide) (by rw [c_28_4]; rfl) (by decide) ?_
        refine lv_iload_n hx hb dX8_believesAs_84 rfl (lv_at hl 1 rfl) ?_
        refine lv_iconst (v := 5) hx hb dX8_believesAs_85 (by decide) ?_
        refine lv_icmp_le (tgt := 93) hx hb dX8_believesAs_86 (by decide) (fun c_86 => ?_) (fun c_86 => ?_)
        · have hm := it_s c_86 hm
          refine lv_iload_n hx hb dX8_believesAs_93 rfl (lv_at hl 1 rfl) ?_
          have hm := Option.some.inj hm
          subst hm
          exact q_iret (v := (p1 - p2)) hx hb hr hlocks hP hS dX8_believesAs_94
        · have hm := it_n c_86 hm
          refine lv_iconst (v := 5) hx hb dX8_believesAs_89 (by decide) ?_
          refine lv_goto (tgt := 94) hx hb dX8_believesAs_90 (by decide) ?_
          have hm := Option.some.inj hm
          subst hm
          exact q_iret (v := 5) hx hb hr hlocks hP hS dX8_believesAs_94
      have hm := it_n c_28_4 hm
      rcases Decidable.em (p0 = 5) with c_28_5 | c_28_5
      · have hm := it_s c_28_5 hm
        refine lv_tableIn (tgt := 95) hx hb dX8_believesAs_28 (by rw [c_28_5]; decide) (by rw [c_28_5]; decide) (by rw [c_28_5]; rfl) (by decide) ?_
        refine lv_iconst (v := 2) hx hb dX8_believesAs_95 (by decide) ?_
        refine lv_iload hx hb dX8_believesAs_96 (lv_at hl 0 rfl) ?_
        refine lv_imul hx hb dX8_believesAs_98 ?_
        have hm := Option.some.inj hm
        subst hm
        exact q_iret (v := (2 * ((p1 - p2) + 1))) hx hb hr hlocks hP hS dX8_believesAs_99
      have hm := it_n c_28_5 hm
      have ht_0 := lv_neT c_28_1 (show (1 : Int32).toInt = 1 by decide)
      have ht_1 := lv_neT c_28_2 (show (2 : Int32).toInt = 2 by decide)
      have ht_2 := lv_neT c_28_3 (show (3 : Int32).toInt = 3 by decide)
      have ht_3 := lv_neT c_28_4 (show (4 : Int32).toInt = 4 by decide)
      have ht_4 := lv_neT c_28_5 (show (5 : Int32).toInt = 5 by decide)
      refine lv_tableOut (tgt := 100) hx hb dX8_believesAs_28 (by omega) (by decide) ?_
      refine lv_iload_n hx hb dX8_believesAs_100 rfl (lv_at hl 1 rfl) ?_
      have hm := Option.some.inj hm
      subst hm
      exact q_iret (v := (p1 - p2)) hx hb hr hlocks hP hS dX8_believesAs_101
theorem mb_X8_believesOf : q_mb yX8_believesOf cX8_believesOf 3 (some .int) 3 := ⟨wc_X8_believesOf, wn_X8, by decide, by decide, by decide +kernel⟩
def wd_X8_believesOf (cI cZ : ClassId) (A0 : Nat) (n0 : Nat) (f0 : Nat → Int32) : va_W := [(A0, .inl (cI, n0, .inl f0))]
def fm_X8_believesOf (n0 : Nat) (p1 : Int32) (p2 : Int32) (f0 : Nat → Int32) : Option (Int32) := gd (31 + p1) n0 (gd (37 + p2) n0 (gd (43 + p2) n0 (gd 30 n0 (Option.bind (fm_X8_tellsAs (f0 (Int32.toNatClampNeg (37 + p2))) (f0 (Int32.toNatClampNeg (43 + p2))) (f0 30)) (fun r_22 => gd (12 + p1) n0 (Option.bind (fm_X8_believesAs (f0 (Int32.toNatClampNeg (31 + p1))) r_22 (f0 (Int32.toNatClampNeg (12 + p1)))) (fun r_31 => some (r_31))))))))
set_option maxHeartbeats 4000000 in
set_option maxRecDepth 100000 in
theorem c_X8_believesOf (l : Launch) (D : va_G) (cI cZ : ClassId) (sz : Nat) (A0 : Nat) (n0 : Nat) (f0 : Nat → Int32) (p1 : Int32) (p2 : Int32) (out : (Int32)) (hm : fm_X8_believesOf n0 p1 p2 f0 = some out) : Met l yX8_believesOf (Cond.code yX8_believesOf cX8_believesOf 3 (some .int) :: bg) { frames := 1, cells := 0, slots := 0, locals := 24 } (va_Pc [.ref A0, .int p1, .int p2] (q_pre D cI cZ sz (wd_X8_believesOf cI cZ A0 n0 f0))) (q_Qi D (wd_X8_believesOf cI cZ A0 n0 f0) out (va_A (wd_X8_believesOf cI cZ A0 n0 f0) sz)) 0 0 (va_A (wd_X8_believesOf cI cZ A0 n0 f0) sz) := by
  refine q_met (fun A => q_Qi D (wd_X8_believesOf cI cZ A0 n0 f0) out A) (by decide) (Nat.le_of_ble_eq_true rfl) ?_
  intro p e s m below meth c ls A hx hb hr hml hown hts hlocks _ hA hS hP hD hK hN hl
  have hown : s.vm.findClass RX8 = some m.cls := hown
  have hl : lv_has ls 3 [(0, .ref A0), (1, .int p1), (2, .int p2)] := hl
  unfold fm_X8_believesOf at hm
  refine q_gen hS hP ?_
  intro H locs hP hS
  refine lv_aload_n hx hb dX8_believesOf_0 rfl (lv_at hl 0 rfl) ?_
  refine lv_bipush (v := 31) hx hb dX8_believesOf_1 (by decide) ?_
  refine lv_iload_n hx hb dX8_believesOf_3 rfl (lv_at hl 1 rfl) ?_
  refine lv_iadd hx hb dX8_believesOf_4 ?_
  obtain ⟨hi_5, hm⟩ := gd_s hm
  refine q_iald (j := (Int32.toNatClampNeg (31 + p1))) hx hb hK hP 0 rfl hi_5 rfl dX8_believesOf_5 ?_
  refine lv_aload_n hx hb dX8_believesOf_6 rfl (lv_at hl 0 rfl) ?_
  refine lv_bipush (v := 37) hx hb dX8_believesOf_7 (by decide) ?_
  refine lv_iload_n hx hb dX8_believesOf_9 rfl (lv_at hl 2 rfl) ?_
  refine lv_iadd hx hb dX8_believesOf_10 ?_
  obtain ⟨hi_11, hm⟩ := gd_s hm
  refine q_iald (j := (Int32.toNatClampNeg (37 + p2))) hx hb hK hP 0 rfl hi_11 rfl dX8_believesOf_11 ?_
  refine lv_aload_n hx hb dX8_believesOf_12 rfl (lv_at hl 0 rfl) ?_
  refine lv_bipush (v := 43) hx hb dX8_believesOf_13 (by decide) ?_
  refine lv_iload_n hx hb dX8_believesOf_15 rfl (lv_at hl 2 rfl) ?_
  refine lv_iadd hx hb dX8_believesOf_16 ?_
  obtain ⟨hi_17, hm⟩ := gd_s hm
  refine q_iald (j := (Int32.toNatClampNeg (43 + p2))) hx hb hK hP 0 rfl hi_17 rfl dX8_believesOf_17 ?_
  refine lv_aload_n hx hb dX8_believesOf_18 rfl (lv_at hl 0 rfl) ?_
  refine lv_bipush (v := 30) hx hb dX8_believesOf_19 (by decide) ?_
  obtain ⟨hi_21, hm⟩ := gd_s hm
  refine q_iald (j := 30) hx hb hK hP 0 rfl hi_21 (by decide) dX8_believesOf_21 ?_
  obtain ⟨r_22, hc_22, hm⟩ := ob_s hm
  refine q_ci (q_rs (rest := [.int (f0 (Int32.toNatClampNeg (31 + p1)))]) ⟨hx, hb, hml, hown, hts⟩ hK hN hP hD (c_X8_tellsAs l D cI cZ H.size (f0 (Int32.toNatClampNeg (37 + p2))) (f0 (Int32.toNatClampNeg (43 + p2))) (f0 30) r_22 hc_22) mb_X8_tellsAs wt_X8_tellsAs wl_X8_96 [] rfl rfl (Nat.le_of_ble_eq_true rfl) (Nat.le_of_ble_eq_true rfl) rfl hl.1 rfl (Nat.le_of_ble_eq_true rfl) ⟨Nat.le_refl 0, Nat.le_refl 0⟩ dX8_believesOf_22) hP hD hS hA [] rfl rfl (fun H locs hP hD hS => ?_)
  have hP : va_P D vwCl (wd_X8_believesOf cI cZ A0 n0 f0) H := hP
  have hD : va_D A (wd_X8_believesOf cI cZ A0 n0 f0) := hD
  refine lv_aload_n hx hb dX8_believesOf_25 rfl (lv_at hl 0 rfl) ?_
  refine lv_bipush (v := 12) hx hb dX8_believesOf_26 (by decide) ?_
  refine lv_iload_n hx hb dX8_believesOf_28 rfl (lv_at hl 1 rfl) ?_
  refine lv_iadd hx hb dX8_believesOf_29 ?_
  obtain ⟨hi_30, hm⟩ := gd_s hm
  refine q_iald (j := (Int32.toNatClampNeg (12 + p1))) hx hb hK hP 0 rfl hi_30 rfl dX8_believesOf_30 ?_
  obtain ⟨r_31, hc_31, hm⟩ := ob_s hm
  refine q_ci (q_rs (rest := []) ⟨hx, hb, hml, hown, hts⟩ hK hN hP hD (c_X8_believesAs l D cI cZ H.size (f0 (Int32.toNatClampNeg (31 + p1))) r_22 (f0 (Int32.toNatClampNeg (12 + p1))) r_31 hc_31) mb_X8_believesAs wt_X8_believesAs wl_X8_100 [] rfl rfl (Nat.le_of_ble_eq_true rfl) (Nat.le_of_ble_eq_true rfl) rfl hl.1 rfl (Nat.le_of_ble_eq_true rfl) ⟨Nat.le_refl 0, Nat.le_refl 0⟩ dX8_believesOf_31) hP hD hS hA [] rfl rfl (fun H locs hP hD hS => ?_)
  have hP : va_P D vwCl (wd_X8_believesOf cI cZ A0 n0 f0) H := hP
  have hD : va_D A (wd_X8_believesOf cI cZ A0 n0 f0) := hD
  have hm := Option.some.inj hm
  subst hm
  exact q_iret (v := r_31) hx hb hr hlocks hP hS dX8_believesOf_34
theorem mb_X8_believesOn : q_mb yX8_believesOn cX8_believesOn 5 (some .int) 3 := ⟨wc_X8_believesOn, wn_X8, by decide, by decide, by decide +kernel⟩
def wd_X8_believesOn (cI cZ : ClassId) (A0 : Nat) (n0 : Nat) (f0 : Nat → Int32) : va_W := [(A0, .inl (cI, n0, .inl f0))]
def fL_X8_believesOn_5 (n0 : Nat) (p1 : Int32) (p2 : Int32) (f0 : Nat → Int32) : Nat → Int32 → Int32 → Option (Int32)
  | 0, _, _ => none
  | fu + 1, x4, x3 => gd 1 n0 (if (f0 1) ≤ x4 then (some (x3)) else (gd (24 + x4) n0 (if (f0 (Int32.toNatClampNeg (24 + x4))) = p2 then (Option.bind (fm_X8_believesOf n0 p1 x4 f0) (fun r_29 => fL_X8_believesOn_5 n0 p1 p2 f0 fu (x4 + 1) (x3 + r_29))) else (fL_X8_believesOn_5 n0 p1 p2 f0 fu (x4 + 1) (x3 + 0)))))
def fm_X8_believesOn (n0 : Nat) (p1 : Int32) (p2 : Int32) (f0 : Nat → Int32) : Option (Int32) := fL_X8_believesOn_5 n0 p1 p2 f0 FU 0 0
set_option maxHeartbeats 4000000 in
set_option maxRecDepth 100000 in
theorem c_X8_believesOn (l : Launch) (D : va_G) (cI cZ : ClassId) (sz : Nat) (A0 : Nat) (n0 : Nat) (f0 : Nat → Int32) (p1 : Int32) (p2 : Int32) (out : (Int32)) (hm : fm_X8_believesOn n0 p1 p2 f0 = some out) : Met l yX8_believesOn (Cond.code yX8_believesOn cX8_believesOn 5 (some .int) :: bg) { frames := 2, cells := 0, slots := 0, locals := 46 } (va_Pc [.ref A0, .int p1, .int p2] (q_pre D cI cZ sz (wd_X8_believesOn cI cZ A0 n0 f0))) (q_Qi D (wd_X8_believesOn cI cZ A0 n0 f0) out (va_A (wd_X8_believesOn cI cZ A0 n0 f0) sz)) 0 0 (va_A (wd_X8_believesOn cI cZ A0 n0 f0) sz) := by
  refine q_met (fun A => q_Qi D (wd_X8_believesOn cI cZ A0 n0 f0) out A) (by decide) (Nat.le_of_ble_eq_true rfl) ?_
  intro p e s m below meth c ls A hx hb hr hml hown hts hlocks _ hA hS hP hD hK hN hl
  have hown : s.vm.findClass RX8 = some m.cls := hown
  have hl : lv_has ls 5 [(0, .ref A0), (1, .int p1), (2, .int p2)] := hl
  have hL_5 : ∀ (fu_5 : Nat) (x4 : Int32) (x3 : Int32) (H : Heap) (locs : List Loc) (ls : Array Slot), fL_X8_believesOn_5 n0 p1 p2 f0 fu_5 x4 x3 = some out → va_P D vwCl (wd_X8_believesOn cI cZ A0 n0 f0) H → va_D A (wd_X8_believesOn cI cZ A0 n0 f0) → va_S A s.heap H locs → lv_has ls 5 [(4, .int x4), (3, .int x3), (0, .ref A0), (1, .int p1), (2, .int p2)] → W p l e { frames := 2, cells := 0, slots := 0, locals := 46 } s m ([.ref A0, .int p1, .int p2] : List Value).toArray below meth c H locs 0 0 (MQ below (q_Qi D (wd_X8_believesOn cI cZ A0 n0 f0) out A) ([.ref A0, .int p1, .int p2] : List Value).toArray s 0 0 A) (F0 m 5 ls []) := by
    intro fu_5
    induction fu_5 with
    | zero => intro x4 x3 H locs ls hm hP hD hS hl; exact absurd (show (none : Option (Int32)) = some out from hm) (fun h => nomatch h)
    | succ fu_5 ih_5 =>
      intro x4 x3 H locs ls hm hP hD hS hl
      rw [fL_X8_believesOn_5] at hm
      refine lv_iload hx hb dX8_believesOn_5 (lv_at hl 0 rfl) ?_
      refine lv_aload_n hx hb dX8_believesOn_7 rfl (lv_at hl 2 rfl) ?_
      refine lv_iconst (v := 1) hx hb dX8_believesOn_8 (by decide) ?_
      obtain ⟨hi_9, hm⟩ := gd_s hm
      refine q_iald (j := 1) hx hb hK hP 0 rfl hi_9 (by decide) dX8_believesOn_9 ?_
      refine lv_icmp_ge (tgt := 44) hx hb dX8_believesOn_10 (by decide) (fun c_10 => ?_) (fun c_10 => ?_)
      · have hm := it_s c_10 hm
        refine lv_iload_n hx hb dX8_believesOn_44 rfl (lv_at hl 1 rfl) ?_
        have hm := Option.some.inj hm
        subst hm
        exact q_iret (v := x3) hx hb hr hlocks hP hS dX8_believesOn_45
      · have hm := it_n c_10 hm
        refine lv_iload_n hx hb dX8_believesOn_13 rfl (lv_at hl 1 rfl) ?_
        refine lv_aload_n hx hb dX8_believesOn_14 rfl (lv_at hl 2 rfl) ?_
        refine lv_bipush (v := 24) hx hb dX8_believesOn_15 (by decide) ?_
        refine lv_iload hx hb dX8_believesOn_17 (lv_at hl 0 rfl) ?_
        refine lv_iadd hx hb dX8_believesOn_19 ?_
        obtain ⟨hi_20, hm⟩ := gd_s hm
        refine q_iald (j := (Int32.toNatClampNeg (24 + x4))) hx hb hK hP 0 rfl hi_20 rfl dX8_believesOn_20 ?_
        refine lv_iload_n hx hb dX8_believesOn_21 rfl (lv_at hl 4 rfl) ?_
        refine lv_icmp_ne (tgt := 35) hx hb dX8_believesOn_22 (by decide) (fun c_22 => ?_) (fun c_22 => ?_)
        · have hm := it_n c_22 hm
          refine lv_iconst (v := 0) hx hb dX8_believesOn_35 (by decide) ?_
          refine lv_iadd hx hb dX8_believesOn_36 ?_
          refine lv_istore_n (lv' := [(3, .int (x3 + 0)), (4, .int x4), (0, .ref A0), (1, .int p1), (2, .int p2)]) hx hb dX8_believesOn_37 rfl hl (by decide) rfl (fun ls hl => ?_)
          refine lv_iinc (v := (x4 + 1)) (lv' := [(4, .int (x4 + 1)), (3, .int (x3 + 0)), (0, .ref A0), (1, .int p1), (2, .int p2)]) hx hb dX8_believesOn_38 hl (k := 1) rfl rfl (by decide) rfl (fun ls hl => ?_)
          refine lv_goto (tgt := 5) hx hb dX8_believesOn_41 (by decide) ?_
          exact ih_5 (x4 + 1) (x3 + 0) H locs ls hm hP hD hS (lv_sub hl [0, 1, 2, 3, 4] rfl)
        · have hm := it_s c_22 hm
          refine lv_aload_n hx hb dX8_believesOn_25 rfl (lv_at hl 2 rfl) ?_
          refine lv_iload_n hx hb dX8_believesOn_26 rfl (lv_at hl 3 rfl) ?_
          refine lv_iload hx hb dX8_believesOn_27 (lv_at hl 0 rfl) ?_
          obtain ⟨r_29, hc_29, hm⟩ := ob_s hm
          refine q_ci (q_rs (rest := [.int x3]) ⟨hx, hb, hml, hown, hts⟩ hK hN hP hD (c_X8_believesOf l D cI cZ H.size A0 n0 f0 p1 x4 r_29 hc_29) mb_X8_believesOf wt_X8_believesOf wl_X8_103 [0] rfl rfl (Nat.le_of_ble_eq_true rfl) (Nat.le_of_ble_eq_true rfl) rfl hl.1 rfl (Nat.le_of_ble_eq_true rfl) ⟨Nat.le_refl 0, Nat.le_refl 0⟩ dX8_believesOn_29) hP hD hS hA [0] rfl rfl (fun H locs hP hD hS => ?_)
          have hP : va_P D vwCl (wd_X8_believesOn cI cZ A0 n0 f0) H := hP
          have hD : va_D A (wd_X8_believesOn cI cZ A0 n0 f0) := hD
          refine lv_goto (tgt := 36) hx hb dX8_believesOn_32 (by decide) ?_
          refine lv_iadd hx hb dX8_believesOn_36 ?_
          refine lv_istore_n (lv' := [(3, .int (x3 + r_29)), (4, .int x4), (0, .ref A0), (1, .int p1), (2, .int p2)]) hx hb dX8_believesOn_37 rfl hl (by decide) rfl (fun ls hl => ?_)
          refine lv_iinc (v := (x4 + 1)) (lv' := [(4, .int (x4 + 1)), (3, .int (x3 + r_29)), (0, .ref A0), (1, .int p1), (2, .int p2)]) hx hb dX8_believesOn_38 hl (k := 1) rfl rfl (by decide) rfl (fun ls hl => ?_)
          refine lv_goto (tgt := 5) hx hb dX8_believesOn_41 (by decide) ?_
          exact ih_5 (x4 + 1) (x3 + r_29) H locs ls hm hP hD hS (lv_sub hl [0, 1, 2, 3, 4] rfl)
  unfold fm_X8_believesOn at hm
  refine q_gen hS hP ?_
  intro H locs hP hS
  refine lv_iconst (v := 0) hx hb dX8_believesOn_0 (by decide) ?_
  refine lv_istore_n (lv' := [(3, .int 0), (0, .ref A0), (1, .int p1), (2, .int p2)]) hx hb dX8_believesOn_1 rfl hl (by decide) rfl (fun ls hl => ?_)
  refine lv_iconst (v := 0) hx hb dX8_believesOn_2 (by decide) ?_
  refine lv_istore (lv' := [(4, .int 0), (3, .int 0), (0, .ref A0), (1, .int p1), (2, .int p2)]) hx hb dX8_believesOn_3 hl (by decide) rfl (fun ls hl => ?_)
  exact hL_5 FU 0 0 H locs ls hm hP hD hS (lv_sub hl [0, 1, 2, 3, 4] rfl)
theorem mb_X8_goNight : q_mb yX8_goNight cX8_goNight 3 none 1 := ⟨wc_X8_goNight, wn_X8, by decide, by decide, by decide +kernel⟩
def wd_X8_goNight (cI cZ : ClassId) (A0 : Nat) (n0 : Nat) (f0 : Nat → Int32) : va_W := [(A0, .inl (cI, n0, .inl f0))]
def fL_X8_goNight_2 (n0 : Nat) : Nat → Int32 → (Nat → Int32) → Option ((Nat → Int32))
  | 0, _, _ => none
  | fu + 1, x1, f0 => gd 0 n0 (if (f0 0) ≤ x1 then (gd 30 n0 (some ((upd f0 30 ((f0 30) + 1))))) else (gd (18 + x1) n0 (gd (6 + x1) n0 (Option.bind (fm_X8_believesOn n0 x1 (f0 (Int32.toNatClampNeg (6 + x1))) f0) (fun r_23 => if ((f0 (Int32.toNatClampNeg (18 + x1))) + r_23) ≤ 999 then (fL_X8_goNight_2 n0 fu (x1 + 1) (upd f0 (Int32.toNatClampNeg (18 + x1)) ((f0 (Int32.toNatClampNeg (18 + x1))) + r_23))) else (fL_X8_goNight_2 n0 fu (x1 + 1) (upd f0 (Int32.toNatClampNeg (18 + x1)) 999)))))))
def fm_X8_goNight (n0 : Nat) (f0 : Nat → Int32) : Option ((Nat → Int32)) := fL_X8_goNight_2 n0 FU 0 f0
set_option maxHeartbeats 4000000 in
set_option maxRecDepth 100000 in
theorem c_X8_goNight (l : Launch) (D : va_G) (cI cZ : ClassId) (sz : Nat) (A0 : Nat) (n0 : Nat) (f0 : Nat → Int32) (out : ((Nat → Int32))) (hm : fm_X8_goNight n0 f0 = some out) : Met l yX8_goNight (Cond.code yX8_goNight cX8_goNight 3 none :: bg) { frames := 3, cells := 0, slots := 0, locals := 70 } (va_Pc [.ref A0] (q_pre D cI cZ sz (wd_X8_goNight cI cZ A0 n0 f0))) (q_Qv D (wd_X8_goNight cI cZ A0 n0 out) (va_A (wd_X8_goNight cI cZ A0 n0 f0) sz)) 0 0 (va_A (wd_X8_goNight cI cZ A0 n0 f0) sz) := by
  refine q_met (fun A => q_Qv D (wd_X8_goNight cI cZ A0 n0 out) A) (by decide) (Nat.le_of_ble_eq_true rfl) ?_
  intro p e s m below meth c ls A hx hb hr hml hown hts hlocks _ hA hS hP hD hK hN hl
  have hown : s.vm.findClass RX8 = some m.cls := hown
  have hl : lv_has ls 3 [(0, .ref A0)] := hl
  have hL_2 : ∀ (fu_2 : Nat) (x1 : Int32) (f0 : Nat → Int32) (H : Heap) (locs : List Loc) (ls : Array Slot), fL_X8_goNight_2 n0 fu_2 x1 f0 = some out → va_P D vwCl (wd_X8_goNight cI cZ A0 n0 f0) H → va_D A (wd_X8_goNight cI cZ A0 n0 f0) → va_S A s.heap H locs → lv_has ls 3 [(1, .int x1), (0, .ref A0)] → W p l e { frames := 3, cells := 0, slots := 0, locals := 70 } s m ([.ref A0] : List Value).toArray below meth c H locs 0 0 (MQ below (q_Qv D (wd_X8_goNight cI cZ A0 n0 out) A) ([.ref A0] : List Value).toArray s 0 0 A) (F0 m 2 ls []) := by
    intro fu_2
    induction fu_2 with
    | zero => intro x1 f0 H locs ls hm hP hD hS hl; exact absurd (show (none : Option ((Nat → Int32))) = some out from hm) (fun h => nomatch h)
    | succ fu_2 ih_2 =>
      intro x1 f0 H locs ls hm hP hD hS hl
      rw [fL_X8_goNight_2] at hm
      refine lv_iload_n hx hb dX8_goNight_2 rfl (lv_at hl 0 rfl) ?_
      refine lv_aload_n hx hb dX8_goNight_3 rfl (lv_at hl 1 rfl) ?_
      refine lv_iconst (v := 0) hx hb dX8_goNight_4 (by decide) ?_
      obtain ⟨hi_5, hm⟩ := gd_s hm
      refine q_iald (j := 0) hx hb hK hP 0 rfl hi_5 (by decide) dX8_goNight_5 ?_
      refine lv_icmp_ge (tgt := 54) hx hb dX8_goNight_6 (by decide) (fun c_6 => ?_) (fun c_6 => ?_)
      · have hm := it_s c_6 hm
        refine lv_aload_n hx hb dX8_goNight_54 rfl (lv_at hl 1 rfl) ?_
        refine lv_bipush (v := 30) hx hb dX8_goNight_55 (by decide) ?_
        refine lv_dup2_11 hx hb dX8_goNight_57 rfl rfl ?_
        obtain ⟨hi_58, hm⟩ := gd_s hm
        refine q_iald (j := 30) hx hb hK hP 0 rfl hi_58 (by decide) dX8_goNight_58 ?_
        refine lv_iconst (v := 1) hx hb dX8_goNight_59 (by decide) ?_
        refine lv_iadd hx hb dX8_goNight_60 ?_
        refine q_iast (j := 30) hx hb hK hP hD hS 0 rfl hi_58 (by decide) dX8_goNight_61 (fun H locs hP hD hS => ?_)
        have hP : va_P D vwCl (wd_X8_goNight cI cZ A0 n0 (upd f0 30 ((f0 30) + 1))) H := hP
        have hD : va_D A (wd_X8_goNight cI cZ A0 n0 (upd f0 30 ((f0 30) + 1))) := hD
        have hm := Option.some.inj hm
        subst hm
        exact q_vret hx hb hr hlocks hP hS dX8_goNight_62
      · have hm := it_n c_6 hm
        refine lv_aload_n hx hb dX8_goNight_9 rfl (lv_at hl 1 rfl) ?_
        refine lv_bipush (v := 18) hx hb dX8_goNight_10 (by decide) ?_
        refine lv_iload_n hx hb dX8_goNight_12 rfl (lv_at hl 0 rfl) ?_
        refine lv_iadd hx hb dX8_goNight_13 ?_
        obtain ⟨hi_14, hm⟩ := gd_s hm
        refine q_iald (j := (Int32.toNatClampNeg (18 + x1))) hx hb hK hP 0 rfl hi_14 rfl dX8_goNight_14 ?_
        refine lv_aload_n hx hb dX8_goNight_15 rfl (lv_at hl 1 rfl) ?_
        refine lv_iload_n hx hb dX8_goNight_16 rfl (lv_at hl 0 rfl) ?_
        refine lv_aload_n hx hb dX8_goNight_17 rfl (lv_at hl 1 rfl) ?_
        refine lv_bipush (v := 6) hx hb dX8_goNight_18 (by decide) ?_
        refine lv_iload_n hx hb dX8_goNight_20 rfl (lv_at hl 0 rfl) ?_
        refine lv_iadd hx hb dX8_goNight_21 ?_
        obtain ⟨hi_22, hm⟩ := gd_s hm
        refine q_iald (j := (Int32.toNatClampNeg (6 + x1))) hx hb hK hP 0 rfl hi_22 rfl dX8_goNight_22 ?_
        obtain ⟨r_23, hc_23, hm⟩ := ob_s hm
        refine q_ci (q_rs (rest := [.int (f0 (Int32.toNatClampNeg (18 + x1)))]) ⟨hx, hb, hml, hown, hts⟩ hK hN hP hD (c_X8_believesOn l D cI cZ H.size A0 n0 f0 x1 (f0 (Int32.toNatClampNeg (6 + x1))) r_23 hc_23) mb_X8_believesOn wt_X8_believesOn wl_X8_107 [0] rfl rfl (Nat.le_of_ble_eq_true rfl) (Nat.le_of_ble_eq_true rfl) rfl hl.1 rfl (Nat.le_of_ble_eq_true rfl) ⟨Nat.le_refl 0, Nat.le_refl 0⟩ dX8_goNight_23) hP hD hS hA [0] rfl rfl (fun H locs hP hD hS => ?_)
        have hP : va_P D vwCl (wd_X8_goNight cI cZ A0 n0 f0) H := hP
        have hD : va_D A (wd_X8_goNight cI cZ A0 n0 f0) := hD
        refine lv_iadd hx hb dX8_goNight_26 ?_
        refine lv_istore_n (lv' := [(2, .int ((f0 (Int32.toNatClampNeg (18 + x1))) + r_23)), (1, .int x1), (0, .ref A0)]) hx hb dX8_goNight_27 rfl hl (by decide) rfl (fun ls hl => ?_)
        refine lv_aload_n hx hb dX8_goNight_28 rfl (lv_at hl 2 rfl) ?_
        refine lv_bipush (v := 18) hx hb dX8_goNight_29 (by decide) ?_
        refine lv_iload_n hx hb dX8_goNight_31 rfl (lv_at hl 1 rfl) ?_
        refine lv_iadd hx hb dX8_goNight_32 ?_
        refine lv_iload_n hx hb dX8_goNight_33 rfl (lv_at hl 0 rfl) ?_
        refine lv_sipush (v := 999) hx hb dX8_goNight_34 (by decide) ?_
        refine lv_icmp_le (tgt := 46) hx hb dX8_goNight_37 (by decide) (fun c_37 => ?_) (fun c_37 => ?_)
        · have hm := it_s c_37 hm
          refine lv_iload_n hx hb dX8_goNight_46 rfl (lv_at hl 0 rfl) ?_
          refine q_iast (j := (Int32.toNatClampNeg (18 + x1))) hx hb hK hP hD hS 0 rfl hi_14 rfl dX8_goNight_47 (fun H locs hP hD hS => ?_)
          have hP : va_P D vwCl (wd_X8_goNight cI cZ A0 n0 (upd f0 (Int32.toNatClampNeg (18 + x1)) ((f0 (Int32.toNatClampNeg (18 + x1))) + r_23))) H := hP
          have hD : va_D A (wd_X8_goNight cI cZ A0 n0 (upd f0 (Int32.toNatClampNeg (18 + x1)) ((f0 (Int32.toNatClampNeg (18 + x1))) + r_23))) := hD
          refine lv_iinc (v := (x1 + 1)) (lv' := [(1, .int (x1 + 1)), (2, .int ((f0 (Int32.toNatClampNeg (18 + x1))) + r_23)), (0, .ref A0)]) hx hb dX8_goNight_48 hl (k := 1) rfl rfl (by decide) rfl (fun ls hl => ?_)
          refine lv_goto (tgt := 2) hx hb dX8_goNight_51 (by decide) ?_
          exact ih_2 (x1 + 1) (upd f0 (Int32.toNatClampNeg (18 + x1)) ((f0 (Int32.toNatClampNeg (18 + x1))) + r_23)) H locs ls hm hP hD hS (lv_sub hl [0, 2] rfl)
        · have hm := it_n c_37 hm
          refine lv_sipush (v := 999) hx hb dX8_goNight_40 (by decide) ?_
          refine lv_goto (tgt := 47) hx hb dX8_goNight_43 (by decide) ?_
          refine q_iast (j := (Int32.toNatClampNeg (18 + x1))) hx hb hK hP hD hS 0 rfl hi_14 rfl dX8_goNight_47 (fun H locs hP hD hS => ?_)
          have hP : va_P D vwCl (wd_X8_goNight cI cZ A0 n0 (upd f0 (Int32.toNatClampNeg (18 + x1)) 999)) H := hP
          have hD : va_D A (wd_X8_goNight cI cZ A0 n0 (upd f0 (Int32.toNatClampNeg (18 + x1)) 999)) := hD
          refine lv_iinc (v := (x1 + 1)) (lv' := [(1, .int (x1 + 1)), (2, .int ((f0 (Int32.toNatClampNeg (18 + x1))) + r_23)), (0, .ref A0)]) hx hb dX8_goNight_48 hl (k := 1) rfl rfl (by decide) rfl (fun ls hl => ?_)
          refine lv_goto (tgt := 2) hx hb dX8_goNight_51 (by decide) ?_
          exact ih_2 (x1 + 1) (upd f0 (Int32.toNatClampNeg (18 + x1)) 999) H locs ls hm hP hD hS (lv_sub hl [0, 2] rfl)
  unfold fm_X8_goNight at hm
  refine q_gen hS hP ?_
  intro H locs hP hS
  refine lv_iconst (v := 0) hx hb dX8_goNight_0 (by decide) ?_
  refine lv_istore_n (lv' := [(1, .int 0), (0, .ref A0)]) hx hb dX8_goNight_1 rfl hl (by decide) rfl (fun ls hl => ?_)
  exact hL_2 FU 0 f0 H locs ls hm hP hD hS (lv_sub hl [0, 1] rfl)
theorem mb_X8_goNights : q_mb yX8_goNights cX8_goNights 3 none 2 := ⟨wc_X8_goNights, wn_X8, by decide, by decide, by decide +kernel⟩
def wd_X8_goNights (cI cZ : ClassId) (A0 : Nat) (n0 : Nat) (f0 : Nat → Int32) : va_W := [(A0, .inl (cI, n0, .inl f0))]
def fL_X8_goNights_2 (n0 : Nat) (p1 : Int32) : Nat → Int32 → (Nat → Int32) → Option ((Nat → Int32))
  | 0, _, _ => none
  | fu + 1, x2, f0 => if p1 ≤ x2 then (some (f0)) else (gd 30 n0 (if 999 ≤ (f0 30) then (some (f0)) else (Option.bind (fm_X8_goNight n0 f0) (fun r_18 => fL_X8_goNights_2 n0 p1 fu (x2 + 1) r_18))))
def fm_X8_goNights (n0 : Nat) (p1 : Int32) (f0 : Nat → Int32) : Option ((Nat → Int32)) := fL_X8_goNights_2 n0 p1 FU 0 f0
set_option maxHeartbeats 4000000 in
set_option maxRecDepth 100000 in
theorem c_X8_goNights (l : Launch) (D : va_G) (cI cZ : ClassId) (sz : Nat) (A0 : Nat) (n0 : Nat) (f0 : Nat → Int32) (p1 : Int32) (out : ((Nat → Int32))) (hm : fm_X8_goNights n0 p1 f0 = some out) : Met l yX8_goNights (Cond.code yX8_goNights cX8_goNights 3 none :: bg) { frames := 4, cells := 0, slots := 0, locals := 92 } (va_Pc [.ref A0, .int p1] (q_pre D cI cZ sz (wd_X8_goNights cI cZ A0 n0 f0))) (q_Qv D (wd_X8_goNights cI cZ A0 n0 out) (va_A (wd_X8_goNights cI cZ A0 n0 f0) sz)) 0 0 (va_A (wd_X8_goNights cI cZ A0 n0 f0) sz) := by
  refine q_met (fun A => q_Qv D (wd_X8_goNights cI cZ A0 n0 out) A) (by decide) (Nat.le_of_ble_eq_true rfl) ?_
  intro p e s m below meth c ls A hx hb hr hml hown hts hlocks _ hA hS hP hD hK hN hl
  have hown : s.vm.findClass RX8 = some m.cls := hown
  have hl : lv_has ls 3 [(0, .ref A0), (1, .int p1)] := hl
  have hL_2 : ∀ (fu_2 : Nat) (x2 : Int32) (f0 : Nat → Int32) (H : Heap) (locs : List Loc) (ls : Array Slot), fL_X8_goNights_2 n0 p1 fu_2 x2 f0 = some out → va_P D vwCl (wd_X8_goNights cI cZ A0 n0 f0) H → va_D A (wd_X8_goNights cI cZ A0 n0 f0) → va_S A s.heap H locs → lv_has ls 3 [(2, .int x2), (0, .ref A0), (1, .int p1)] → W p l e { frames := 4, cells := 0, slots := 0, locals := 92 } s m ([.ref A0, .int p1] : List Value).toArray below meth c H locs 0 0 (MQ below (q_Qv D (wd_X8_goNights cI cZ A0 n0 out) A) ([.ref A0, .int p1] : List Value).toArray s 0 0 A) (F0 m 2 ls []) := by
    intro fu_2
    induction fu_2 with
    | zero => intro x2 f0 H locs ls hm hP hD hS hl; exact absurd (show (none : Option ((Nat → Int32))) = some out from hm) (fun h => nomatch h)
    | succ fu_2 ih_2 =>
      intro x2 f0 H locs ls hm hP hD hS hl
      rw [fL_X8_goNights_2] at hm
      refine lv_iload_n hx hb dX8_goNights_2 rfl (lv_at hl 0 rfl) ?_
      refine lv_iload_n hx hb dX8_goNights_3 rfl (lv_at hl 2 rfl) ?_
      refine lv_icmp_ge (tgt := 27) hx hb dX8_goNights_4 (by decide) (fun c_4 => ?_) (fun c_4 => ?_)
      · have hm := it_s c_4 hm
        have hm := Option.some.inj hm
        subst hm
        exact q_vret hx hb hr hlocks hP hS dX8_goNights_27
      · have hm := it_n c_4 hm
        refine lv_aload_n hx hb dX8_goNights_7 rfl (lv_at hl 1 rfl) ?_
        refine lv_bipush (v := 30) hx hb dX8_goNights_8 (by decide) ?_
        obtain ⟨hi_10, hm⟩ := gd_s hm
        refine q_iald (j := 30) hx hb hK hP 0 rfl hi_10 (by decide) dX8_goNights_10 ?_
        refine lv_sipush (v := 999) hx hb dX8_goNights_11 (by decide) ?_
        refine lv_icmp_ge (tgt := 27) hx hb dX8_goNights_14 (by decide) (fun c_14 => ?_) (fun c_14 => ?_)
        · have hm := it_s c_14 hm
          have hm := Option.some.inj hm
          subst hm
          exact q_vret hx hb hr hlocks hP hS dX8_goNights_27
        · have hm := it_n c_14 hm
          refine lv_aload_n hx hb dX8_goNights_17 rfl (lv_at hl 1 rfl) ?_
          obtain ⟨r_18, hc_18, hm⟩ := ob_s hm
          refine q_cv (q_rs (rest := []) ⟨hx, hb, hml, hown, hts⟩ hK hN hP hD (c_X8_goNight l D cI cZ H.size A0 n0 f0 r_18 hc_18) mb_X8_goNight wt_X8_goNight wl_X8_110 [0] rfl rfl (Nat.le_of_ble_eq_true rfl) (Nat.le_of_ble_eq_true rfl) rfl hl.1 rfl (Nat.le_of_ble_eq_true rfl) ⟨Nat.le_refl 0, Nat.le_refl 0⟩ dX8_goNights_18) hP hD hS hA [0] rfl rfl (fun H locs hP hD hS => ?_)
          have hP : va_P D vwCl (wd_X8_goNights cI cZ A0 n0 r_18) H := hP
          have hD : va_D A (wd_X8_goNights cI cZ A0 n0 r_18) := hD
          refine lv_iinc (v := (x2 + 1)) (lv' := [(2, .int (x2 + 1)), (0, .ref A0), (1, .int p1)]) hx hb dX8_goNights_21 hl (k := 0) rfl rfl (by decide) rfl (fun ls hl => ?_)
          refine lv_goto (tgt := 2) hx hb dX8_goNights_24 (by decide) ?_
          exact ih_2 (x2 + 1) r_18 H locs ls hm hP hD hS (lv_sub hl [0, 1, 2] rfl)
  unfold fm_X8_goNights at hm
  refine q_gen hS hP ?_
  intro H locs hP hS
  refine lv_iconst (v := 0) hx hb dX8_goNights_0 (by decide) ?_
  refine lv_istore_n (lv' := [(2, .int 0), (0, .ref A0), (1, .int p1)]) hx hb dX8_goNights_1 rfl hl (by decide) rfl (fun ls hl => ?_)
  exact hL_2 FU 0 f0 H locs ls hm hP hD hS (lv_sub hl [0, 1, 2] rfl)
theorem mb_X8_manyWhoDo : q_mb yX8_manyWhoDo cX8_manyWhoDo 3 (some .int) 1 := ⟨wc_X8_manyWhoDo, wn_X8, by decide, by decide, by decide +kernel⟩
def wd_X8_manyWhoDo (cI cZ : ClassId) (A0 : Nat) (n0 : Nat) (f0 : Nat → Int32) : va_W := [(A0, .inl (cI, n0, .inl f0))]
def fL_X8_manyWhoDo_4 (n0 : Nat) (f0 : Nat → Int32) : Nat → Int32 → Int32 → Option (Int32)
  | 0, _, _ => none
  | fu + 1, x2, x1 => gd 0 n0 (if (f0 0) ≤ x2 then (some (x1)) else (gd (18 + x2) n0 (if (f0 (Int32.toNatClampNeg (18 + x2))) < 20 then (fL_X8_manyWhoDo_4 n0 f0 fu (x2 + 1) (x1 + 0)) else (fL_X8_manyWhoDo_4 n0 f0 fu (x2 + 1) (x1 + 1)))))
def fm_X8_manyWhoDo (n0 : Nat) (f0 : Nat → Int32) : Option (Int32) := fL_X8_manyWhoDo_4 n0 f0 FU 0 0
set_option maxHeartbeats 4000000 in
set_option maxRecDepth 100000 in
theorem c_X8_manyWhoDo (l : Launch) (D : va_G) (cI cZ : ClassId) (sz : Nat) (A0 : Nat) (n0 : Nat) (f0 : Nat → Int32) (out : (Int32)) (hm : fm_X8_manyWhoDo n0 f0 = some out) : Met l yX8_manyWhoDo (Cond.code yX8_manyWhoDo cX8_manyWhoDo 3 (some .int) :: bg) { frames := 0, cells := 0, slots := 0, locals := 0 } (va_Pc [.ref A0] (q_pre D cI cZ sz (wd_X8_manyWhoDo cI cZ A0 n0 f0))) (q_Qi D (wd_X8_manyWhoDo cI cZ A0 n0 f0) out (va_A (wd_X8_manyWhoDo cI cZ A0 n0 f0) sz)) 0 0 (va_A (wd_X8_manyWhoDo cI cZ A0 n0 f0) sz) := by
  refine q_met (fun A => q_Qi D (wd_X8_manyWhoDo cI cZ A0 n0 f0) out A) (by decide) (Nat.le_of_ble_eq_true rfl) ?_
  intro p e s m below meth c ls A hx hb hr hml hown hts hlocks _ hA hS hP hD hK hN hl
  have hown : s.vm.findClass RX8 = some m.cls := hown
  have hl : lv_has ls 3 [(0, .ref A0)] := hl
  have hL_4 : ∀ (fu_4 : Nat) (x2 : Int32) (x1 : Int32) (H : Heap) (locs : List Loc) (ls : Array Slot), fL_X8_manyWhoDo_4 n0 f0 fu_4 x2 x1 = some out → va_P D vwCl (wd_X8_manyWhoDo cI cZ A0 n0 f0) H → va_D A (wd_X8_manyWhoDo cI cZ A0 n0 f0) → va_S A s.heap H locs → lv_has ls 3 [(2, .int x2), (1, .int x1), (0, .ref A0)] → W p l e { frames := 0, cells := 0, slots := 0, locals := 0 } s m ([.ref A0] : List Value).toArray below meth c H locs 0 0 (MQ below (q_Qi D (wd_X8_manyWhoDo cI cZ A0 n0 f0) out A) ([.ref A0] : List Value).toArray s 0 0 A) (F0 m 4 ls []) := by
    intro fu_4
    induction fu_4 with
    | zero => intro x2 x1 H locs ls hm hP hD hS hl; exact absurd (show (none : Option (Int32)) = some out from hm) (fun h => nomatch h)
    | succ fu_4 ih_4 =>
      intro x2 x1 H locs ls hm hP hD hS hl
      rw [fL_X8_manyWhoDo_4] at hm
      refine lv_iload_n hx hb dX8_manyWhoDo_4 rfl (lv_at hl 0 rfl) ?_
      refine lv_aload_n hx hb dX8_manyWhoDo_5 rfl (lv_at hl 2 rfl) ?_
      refine lv_iconst (v := 0) hx hb dX8_manyWhoDo_6 (by decide) ?_
      obtain ⟨hi_7, hm⟩ := gd_s hm
      refine q_iald (j := 0) hx hb hK hP 0 rfl hi_7 (by decide) dX8_manyWhoDo_7 ?_
      refine lv_icmp_ge (tgt := 36) hx hb dX8_manyWhoDo_8 (by decide) (fun c_8 => ?_) (fun c_8 => ?_)
      · have hm := it_s c_8 hm
        refine lv_iload_n hx hb dX8_manyWhoDo_36 rfl (lv_at hl 1 rfl) ?_
        have hm := Option.some.inj hm
        subst hm
        exact q_iret (v := x1) hx hb hr hlocks hP hS dX8_manyWhoDo_37
      · have hm := it_n c_8 hm
        refine lv_iload_n hx hb dX8_manyWhoDo_11 rfl (lv_at hl 1 rfl) ?_
        refine lv_aload_n hx hb dX8_manyWhoDo_12 rfl (lv_at hl 2 rfl) ?_
        refine lv_bipush (v := 18) hx hb dX8_manyWhoDo_13 (by decide) ?_
        refine lv_iload_n hx hb dX8_manyWhoDo_15 rfl (lv_at hl 0 rfl) ?_
        refine lv_iadd hx hb dX8_manyWhoDo_16 ?_
        obtain ⟨hi_17, hm⟩ := gd_s hm
        refine q_iald (j := (Int32.toNatClampNeg (18 + x2))) hx hb hK hP 0 rfl hi_17 rfl dX8_manyWhoDo_17 ?_
        refine lv_bipush (v := 20) hx hb dX8_manyWhoDo_18 (by decide) ?_
        refine lv_icmp_lt (tgt := 27) hx hb dX8_manyWhoDo_20 (by decide) (fun c_20 => ?_) (fun c_20 => ?_)
        · have hm := it_s c_20 hm
          refine lv_iconst (v := 0) hx hb dX8_manyWhoDo_27 (by decide) ?_
          refine lv_iadd hx hb dX8_manyWhoDo_28 ?_
          refine lv_istore_n (lv' := [(1, .int (x1 + 0)), (2, .int x2), (0, .ref A0)]) hx hb dX8_manyWhoDo_29 rfl hl (by decide) rfl (fun ls hl => ?_)
          refine lv_iinc (v := (x2 + 1)) (lv' := [(2, .int (x2 + 1)), (1, .int (x1 + 0)), (0, .ref A0)]) hx hb dX8_manyWhoDo_30 hl (k := 1) rfl rfl (by decide) rfl (fun ls hl => ?_)
          refine lv_goto (tgt := 4) hx hb dX8_manyWhoDo_33 (by decide) ?_
          exact ih_4 (x2 + 1) (x1 + 0) H locs ls hm hP hD hS (lv_sub hl [0, 1, 2] rfl)
        · have hm := it_n c_20 hm
          refine lv_iconst (v := 1) hx hb dX8_manyWhoDo_23 (by decide) ?_
          refine lv_goto (tgt := 28) hx hb dX8_manyWhoDo_24 (by decide) ?_
          refine lv_iadd hx hb dX8_manyWhoDo_28 ?_
          refine lv_istore_n (lv' := [(1, .int (x1 + 1)), (2, .int x2), (0, .ref A0)]) hx hb dX8_manyWhoDo_29 rfl hl (by decide) rfl (fun ls hl => ?_)
          refine lv_iinc (v := (x2 + 1)) (lv' := [(2, .int (x2 + 1)), (1, .int (x1 + 1)), (0, .ref A0)]) hx hb dX8_manyWhoDo_30 hl (k := 1) rfl rfl (by decide) rfl (fun ls hl => ?_)
          refine lv_goto (tgt := 4) hx hb dX8_manyWhoDo_33 (by decide) ?_
          exact ih_4 (x2 + 1) (x1 + 1) H locs ls hm hP hD hS (lv_sub hl [0, 1, 2] rfl)
  unfold fm_X8_manyWhoDo at hm
  refine q_gen hS hP ?_
  intro H locs hP hS
  refine lv_iconst (v := 0) hx hb dX8_manyWhoDo_0 (by decide) ?_
  refine lv_istore_n (lv' := [(1, .int 0), (0, .ref A0)]) hx hb dX8_manyWhoDo_1 rfl hl (by decide) rfl (fun ls hl => ?_)
  refine lv_iconst (v := 0) hx hb dX8_manyWhoDo_2 (by decide) ?_
  refine lv_istore_n (lv' := [(2, .int 0), (1, .int 0), (0, .ref A0)]) hx hb dX8_manyWhoDo_3 rfl hl (by decide) rfl (fun ls hl => ?_)
  exact hL_4 FU 0 0 H locs ls hm hP hD hS (lv_sub hl [0, 1, 2] rfl)
theorem mb_X8_save : q_mb yX8_save cX8_save 2 none 0 := ⟨wc_X8_save, wn_X8, by decide, by decide, by decide +kernel⟩
theorem mv_X8_save : q_mv yX8_save 8 := ⟨wi_X8_save, ws_X8_save, _, rfl, rfl⟩
def wd_X8_save (cI cZ : ClassId) (AT AT_al AT_kp AT_ik AT_rf AT_hd AT_bs AT_se AT_bf AT_te AT_by AT_an AT_vs : Nat) (vT_ab : Int64) (vT_be : Int64) (vT_byl : Int32) (vT_tka : Int32) (vT_tkl : Int32) (vT_tkn : Int32) (vT_val : Int32) (fT_al : Nat → Int32) : va_W := [(AT, .inr (8, [.ref AT_al, .ref AT_kp, .ref AT_ik, .ref AT_rf, .long vT_ab, .long vT_be, .ref AT_hd, .ref AT_bs, .ref AT_se, .ref AT_bf, .ref AT_te, .ref AT_by, .int vT_byl, .int vT_tka, .int vT_tkl, .int vT_tkn, .int vT_val, .ref AT_an, .ref AT_vs])), (AT_al, .inl (cI, 312, .inl fT_al))]
def fL_X8_save_55 : Nat → Int32 → (Nat → Int32) → Option ((Nat → Int32))
  | 0, _, _ => none
  | fu + 1, x1, fT_al => if 25 ≤ x1 then (some ((upd fT_al 5 ((fT_al 5) + 1)))) else (gd (6 + x1) 312 (gd ((112 + (25 * (fT_al 5))) + x1) 312 (fL_X8_save_55 fu (x1 + 1) (upd fT_al (Int32.toNatClampNeg ((112 + (25 * (fT_al 5))) + x1)) (fT_al (Int32.toNatClampNeg (6 + x1)))))))
def fL_X8_save_13 : Nat → Int32 → (Nat → Int32) → Option ((Nat → Int32))
  | 0, _, _ => none
  | fu + 1, x1, fT_al => if 175 ≤ x1 then (fL_X8_save_55 FU 0 (upd fT_al 5 7)) else (gd (137 + x1) 312 (gd (112 + x1) 312 (fL_X8_save_13 fu (x1 + 1) (upd fT_al (Int32.toNatClampNeg (112 + x1)) (fT_al (Int32.toNatClampNeg (137 + x1)))))))
def fm_X8_save (fT_al : Nat → Int32) : Option ((Nat → Int32)) := if (fT_al 5) = 8 then (fL_X8_save_13 FU 0 fT_al) else (fL_X8_save_55 FU 0 fT_al)
set_option maxHeartbeats 4000000 in
set_option maxRecDepth 100000 in
theorem c_X8_save (l : Launch) (D : va_G) (cI cZ : ClassId) (sz : Nat) (AT AT_al AT_kp AT_ik AT_rf AT_hd AT_bs AT_se AT_bf AT_te AT_by AT_an AT_vs : Nat) (vT_ab : Int64) (vT_be : Int64) (vT_byl : Int32) (vT_tka : Int32) (vT_tkl : Int32) (vT_tkn : Int32) (vT_val : Int32) (fT_al : Nat → Int32) (out : ((Nat → Int32))) (hm : fm_X8_save fT_al = some out) : Met l yX8_save (Cond.code yX8_save cX8_save 2 none :: bg) { frames := 0, cells := 0, slots := 0, locals := 0 } (va_Pc [.ref AT] (q_pre D cI cZ sz (wd_X8_save cI cZ AT AT_al AT_kp AT_ik AT_rf AT_hd AT_bs AT_se AT_bf AT_te AT_by AT_an AT_vs vT_ab vT_be vT_byl vT_tka vT_tkl vT_tkn vT_val fT_al))) (q_Qv D (wd_X8_save cI cZ AT AT_al AT_kp AT_ik AT_rf AT_hd AT_bs AT_se AT_bf AT_te AT_by AT_an AT_vs vT_ab vT_be vT_byl vT_tka vT_tkl vT_tkn vT_val out) (va_A (wd_X8_save cI cZ AT AT_al AT_kp AT_ik AT_rf AT_hd AT_bs AT_se AT_bf AT_te AT_by AT_an AT_vs vT_ab vT_be vT_byl vT_tka vT_tkl vT_tkn vT_val fT_al) sz)) 0 0 (va_A (wd_X8_save cI cZ AT AT_al AT_kp AT_ik AT_rf AT_hd AT_bs AT_se AT_bf AT_te AT_by AT_an AT_vs vT_ab vT_be vT_byl vT_tka vT_tkl vT_tkn vT_val fT_al) sz) := by
  refine q_met (fun A => q_Qv D (wd_X8_save cI cZ AT AT_al AT_kp AT_ik AT_rf AT_hd AT_bs AT_se AT_bf AT_te AT_by AT_an AT_vs vT_ab vT_be vT_byl vT_tka vT_tkl vT_tkn vT_val out) A) (by decide) (Nat.le_of_ble_eq_true rfl) ?_
  intro p e s m below meth c ls A hx hb hr hml hown hts hlocks _ hA hS hP hD hK hN hl
  have hown : s.vm.findClass RX8 = some m.cls := hown
  have hl : lv_has ls 2 [(0, .ref AT)] := hl
  have hL_55 : ∀ (fu_55 : Nat) (x1 : Int32) (fT_al : Nat → Int32) (H : Heap) (locs : List Loc) (ls : Array Slot), fL_X8_save_55 fu_55 x1 fT_al = some out → va_P D vwCl (wd_X8_save cI cZ AT AT_al AT_kp AT_ik AT_rf AT_hd AT_bs AT_se AT_bf AT_te AT_by AT_an AT_vs vT_ab vT_be vT_byl vT_tka vT_tkl vT_tkn vT_val fT_al) H → va_D A (wd_X8_save cI cZ AT AT_al AT_kp AT_ik AT_rf AT_hd AT_bs AT_se AT_bf AT_te AT_by AT_an AT_vs vT_ab vT_be vT_byl vT_tka vT_tkl vT_tkn vT_val fT_al) → va_S A s.heap H locs → lv_has ls 2 [(1, .int x1), (0, .ref AT)] → W p l e { frames := 0, cells := 0, slots := 0, locals := 0 } s m ([.ref AT] : List Value).toArray below meth c H locs 0 0 (MQ below (q_Qv D (wd_X8_save cI cZ AT AT_al AT_kp AT_ik AT_rf AT_hd AT_bs AT_se AT_bf AT_te AT_by AT_an AT_vs vT_ab vT_be vT_byl vT_tka vT_tkl vT_tkn vT_val out) A) ([.ref AT] : List Value).toArray s 0 0 A) (F0 m 55 ls []) := by
    intro fu_55
    induction fu_55 with
    | zero => intro x1 fT_al H locs ls hm hP hD hS hl; exact absurd (show (none : Option ((Nat → Int32))) = some out from hm) (fun h => nomatch h)
    | succ fu_55 ih_55 =>
      intro x1 fT_al H locs ls hm hP hD hS hl
      rw [fL_X8_save_55] at hm
      refine lv_iload_n hx hb dX8_save_55 rfl (lv_at hl 0 rfl) ?_
      refine lv_bipush (v := 25) hx hb dX8_save_56 (by decide) ?_
      refine lv_icmp_ge (tgt := 95) hx hb dX8_save_58 (by decide) (fun c_58 => ?_) (fun c_58 => ?_)
      · have hm := it_s c_58 hm
        refine lv_aload_n hx hb dX8_save_95 rfl (lv_at hl 1 rfl) ?_
        refine gf_X8_7 (v := .ref AT_al) hx hb hts hown hK hN hP 0 rfl rfl dX8_save_96 ?_
        refine lv_iconst (v := 5) hx hb dX8_save_99 (by decide) ?_
        refine lv_dup2_11 hx hb dX8_save_100 rfl rfl ?_
        refine q_iald (j := 5) hx hb hK hP 1 rfl (q_inl (by decide)) (by decide) dX8_save_101 ?_
        refine lv_iconst (v := 1) hx hb dX8_save_102 (by decide) ?_
        refine lv_iadd hx hb dX8_save_103 ?_
        refine q_iast (j := 5) hx hb hK hP hD hS 1 rfl (q_inl (by decide)) (by decide) dX8_save_104 (fun H locs hP hD hS => ?_)
        have hP : va_P D vwCl (wd_X8_save cI cZ AT AT_al AT_kp AT_ik AT_rf AT_hd AT_bs AT_se AT_bf AT_te AT_by AT_an AT_vs vT_ab vT_be vT_byl vT_tka vT_tkl vT_tkn vT_val (upd fT_al 5 ((fT_al 5) + 1))) H := hP
        have hD : va_D A (wd_X8_save cI cZ AT AT_al AT_kp AT_ik AT_rf AT_hd AT_bs AT_se AT_bf AT_te AT_by AT_an AT_vs vT_ab vT_be vT_byl vT_tka vT_tkl vT_tkn vT_val (upd fT_al 5 ((fT_al 5) + 1))) := hD
        have hm := Option.some.inj hm
        subst hm
        exact q_vret hx hb hr hlocks hP hS dX8_save_105
      · have hm := it_n c_58 hm
        refine lv_aload_n hx hb dX8_save_61 rfl (lv_at hl 1 rfl) ?_
        refine gf_X8_7 (v := .ref AT_al) hx hb hts hown hK hN hP 0 rfl rfl dX8_save_62 ?_
        refine lv_bipush (v := 112) hx hb dX8_save_65 (by decide) ?_
        refine lv_bipush (v := 25) hx hb dX8_save_67 (by decide) ?_
        refine lv_aload_n hx hb dX8_save_69 rfl (lv_at hl 1 rfl) ?_
        refine gf_X8_7 (v := .ref AT_al) hx hb hts hown hK hN hP 0 rfl rfl dX8_save_70 ?_
        refine lv_iconst (v := 5) hx hb dX8_save_73 (by decide) ?_
        refine q_iald (j := 5) hx hb hK hP 1 rfl (q_inl (by decide)) (by decide) dX8_save_74 ?_
        refine lv_imul hx hb dX8_save_75 ?_
        refine lv_iadd hx hb dX8_save_76 ?_
        refine lv_iload_n hx hb dX8_save_77 rfl (lv_at hl 0 rfl) ?_
        refine lv_iadd hx hb dX8_save_78 ?_
        refine lv_aload_n hx hb dX8_save_79 rfl (lv_at hl 1 rfl) ?_
        refine gf_X8_7 (v := .ref AT_al) hx hb hts hown hK hN hP 0 rfl rfl dX8_save_80 ?_
        refine lv_bipush (v := 6) hx hb dX8_save_83 (by decide) ?_
        refine lv_iload_n hx hb dX8_save_85 rfl (lv_at hl 0 rfl) ?_
        refine lv_iadd hx hb dX8_save_86 ?_
        obtain ⟨hi_87, hm⟩ := gd_s hm
        refine q_iald (j := (Int32.toNatClampNeg (6 + x1))) hx hb hK hP 1 rfl hi_87 rfl dX8_save_87 ?_
        obtain ⟨hi_88, hm⟩ := gd_s hm
        refine q_iast (j := (Int32.toNatClampNeg ((112 + (25 * (fT_al 5))) + x1))) hx hb hK hP hD hS 1 rfl hi_88 rfl dX8_save_88 (fun H locs hP hD hS => ?_)
        have hP : va_P D vwCl (wd_X8_save cI cZ AT AT_al AT_kp AT_ik AT_rf AT_hd AT_bs AT_se AT_bf AT_te AT_by AT_an AT_vs vT_ab vT_be vT_byl vT_tka vT_tkl vT_tkn vT_val (upd fT_al (Int32.toNatClampNeg ((112 + (25 * (fT_al 5))) + x1)) (fT_al (Int32.toNatClampNeg (6 + x1))))) H := hP
        have hD : va_D A (wd_X8_save cI cZ AT AT_al AT_kp AT_ik AT_rf AT_hd AT_bs AT_se AT_bf AT_te AT_by AT_an AT_vs vT_ab vT_be vT_byl vT_tka vT_tkl vT_tkn vT_val (upd fT_al (Int32.toNatClampNeg ((112 + (25 * (fT_al 5))) + x1)) (fT_al (Int32.toNatClampNeg (6 + x1))))) := hD
        refine lv_iinc (v := (x1 + 1)) (lv' := [(1, .int (x1 + 1)), (0, .ref AT)]) hx hb dX8_save_89 hl (k := 0) rfl rfl (by decide) rfl (fun ls hl => ?_)
        refine lv_goto (tgt := 55) hx hb dX8_save_92 (by decide) ?_
        exact ih_55 (x1 + 1) (upd fT_al (Int32.toNatClampNeg ((112 + (25 * (fT_al 5))) + x1)) (fT_al (Int32.toNatClampNeg (6 + x1)))) H locs ls hm hP hD hS (lv_sub hl [0, 1] rfl)
  have hL_13 : ∀ (fu_13 : Nat) (x1 : Int32) (fT_al : Nat → Int32) (H : Heap) (locs : List Loc) (ls : Array Slot), fL_X8_save_13 fu_13 x1 fT_al = some out → va_P D vwCl (wd_X8_save cI cZ AT AT_al AT_kp AT_ik AT_rf AT_hd AT_bs AT_se AT_bf AT_te AT_by AT_an AT_vs vT_ab vT_be vT_byl vT_tka vT_tkl vT_tkn vT_val fT_al) H → va_D A (wd_X8_save cI cZ AT AT_al AT_kp AT_ik AT_rf AT_hd AT_bs AT_se AT_bf AT_te AT_by AT_an AT_vs vT_ab vT_be vT_byl vT_tka vT_tkl vT_tkn vT_val fT_al) → va_S A s.heap H locs → lv_has ls 2 [(1, .int x1), (0, .ref AT)] → W p l e { frames := 0, cells := 0, slots := 0, locals := 0 } s m ([.ref AT] : List Value).toArray below meth c H locs 0 0 (MQ below (q_Qv D (wd_X8_save cI cZ AT AT_al AT_kp AT_ik AT_rf AT_hd AT_bs AT_se AT_bf AT_te AT_by AT_an AT_vs vT_ab vT_be vT_byl vT_tka vT_tkl vT_tkn vT_val out) A) ([.ref AT] : List Value).toArray s 0 0 A) (F0 m 13 ls []) := by
    intro fu_13
    induction fu_13 with
    | zero => intro x1 fT_al H locs ls hm hP hD hS hl; exact absurd (show (none : Option ((Nat → Int32))) = some out from hm) (fun h => nomatch h)
    | succ fu_13 ih_13 =>
      intro x1 fT_al H locs ls hm hP hD hS hl
      rw [fL_X8_save_13] at hm
      refine lv_iload_n hx hb dX8_save_13 rfl (lv_at hl 0 rfl) ?_
      refine lv_sipush (v := 175) hx hb dX8_save_14 (by decide) ?_
      refine lv_icmp_ge (tgt := 45) hx hb dX8_save_17 (by decide) (fun c_17 => ?_) (fun c_17 => ?_)
      · have hm := it_s c_17 hm
        refine lv_aload_n hx hb dX8_save_45 rfl (lv_at hl 1 rfl) ?_
        refine gf_X8_7 (v := .ref AT_al) hx hb hts hown hK hN hP 0 rfl rfl dX8_save_46 ?_
        refine lv_iconst (v := 5) hx hb dX8_save_49 (by decide) ?_
        refine lv_bipush (v := 7) hx hb dX8_save_50 (by decide) ?_
        refine q_iast (j := 5) hx hb hK hP hD hS 1 rfl (q_inl (by decide)) (by decide) dX8_save_52 (fun H locs hP hD hS => ?_)
        have hP : va_P D vwCl (wd_X8_save cI cZ AT AT_al AT_kp AT_ik AT_rf AT_hd AT_bs AT_se AT_bf AT_te AT_by AT_an AT_vs vT_ab vT_be vT_byl vT_tka vT_tkl vT_tkn vT_val (upd fT_al 5 7)) H := hP
        have hD : va_D A (wd_X8_save cI cZ AT AT_al AT_kp AT_ik AT_rf AT_hd AT_bs AT_se AT_bf AT_te AT_by AT_an AT_vs vT_ab vT_be vT_byl vT_tka vT_tkl vT_tkn vT_val (upd fT_al 5 7)) := hD
        refine lv_iconst (v := 0) hx hb dX8_save_53 (by decide) ?_
        refine lv_istore_n (lv' := [(1, .int 0), (0, .ref AT)]) hx hb dX8_save_54 rfl hl (by decide) rfl (fun ls hl => ?_)
        exact hL_55 FU 0 (upd fT_al 5 7) H locs ls hm hP hD hS (lv_sub hl [0, 1] rfl)
      · have hm := it_n c_17 hm
        refine lv_aload_n hx hb dX8_save_20 rfl (lv_at hl 1 rfl) ?_
        refine gf_X8_7 (v := .ref AT_al) hx hb hts hown hK hN hP 0 rfl rfl dX8_save_21 ?_
        refine lv_bipush (v := 112) hx hb dX8_save_24 (by decide) ?_
        refine lv_iload_n hx hb dX8_save_26 rfl (lv_at hl 0 rfl) ?_
        refine lv_iadd hx hb dX8_save_27 ?_
        refine lv_aload_n hx hb dX8_save_28 rfl (lv_at hl 1 rfl) ?_
        refine gf_X8_7 (v := .ref AT_al) hx hb hts hown hK hN hP 0 rfl rfl dX8_save_29 ?_
        refine lv_sipush (v := 137) hx hb dX8_save_32 (by decide) ?_
        refine lv_iload_n hx hb dX8_save_35 rfl (lv_at hl 0 rfl) ?_
        refine lv_iadd hx hb dX8_save_36 ?_
        obtain ⟨hi_37, hm⟩ := gd_s hm
        refine q_iald (j := (Int32.toNatClampNeg (137 + x1))) hx hb hK hP 1 rfl hi_37 rfl dX8_save_37 ?_
        obtain ⟨hi_38, hm⟩ := gd_s hm
        refine q_iast (j := (Int32.toNatClampNeg (112 + x1))) hx hb hK hP hD hS 1 rfl hi_38 rfl dX8_save_38 (fun H locs hP hD hS => ?_)
        have hP : va_P D vwCl (wd_X8_save cI cZ AT AT_al AT_kp AT_ik AT_rf AT_hd AT_bs AT_se AT_bf AT_te AT_by AT_an AT_vs vT_ab vT_be vT_byl vT_tka vT_tkl vT_tkn vT_val (upd fT_al (Int32.toNatClampNeg (112 + x1)) (fT_al (Int32.toNatClampNeg (137 + x1))))) H := hP
        have hD : va_D A (wd_X8_save cI cZ AT AT_al AT_kp AT_ik AT_rf AT_hd AT_bs AT_se AT_bf AT_te AT_by AT_an AT_vs vT_ab vT_be vT_byl vT_tka vT_tkl vT_tkn vT_val (upd fT_al (Int32.toNatClampNeg (112 + x1)) (fT_al (Int32.toNatClampNeg (137 + x1))))) := hD
        refine lv_iinc (v := (x1 + 1)) (lv' := [(1, .int (x1 + 1)), (0, .ref AT)]) hx hb dX8_save_39 hl (k := 0) rfl rfl (by decide) rfl (fun ls hl => ?_)
        refine lv_goto (tgt := 13) hx hb dX8_save_42 (by decide) ?_
        exact ih_13 (x1 + 1) (upd fT_al (Int32.toNatClampNeg (112 + x1)) (fT_al (Int32.toNatClampNeg (137 + x1)))) H locs ls hm hP hD hS (lv_sub hl [0, 1] rfl)
  unfold fm_X8_save at hm
  refine q_gen hS hP ?_
  intro H locs hP hS
  refine lv_aload_n hx hb dX8_save_0 rfl (lv_at hl 0 rfl) ?_
  refine gf_X8_7 (v := .ref AT_al) hx hb hts hown hK hN hP 0 rfl rfl dX8_save_1 ?_
  refine lv_iconst (v := 5) hx hb dX8_save_4 (by decide) ?_
  refine q_iald (j := 5) hx hb hK hP 1 rfl (q_inl (by decide)) (by decide) dX8_save_5 ?_
  refine lv_bipush (v := 8) hx hb dX8_save_6 (by decide) ?_
  refine lv_icmp_ne (tgt := 53) hx hb dX8_save_8 (by decide) (fun c_8 => ?_) (fun c_8 => ?_)
  · have hm := it_n c_8 hm
    refine lv_iconst (v := 0) hx hb dX8_save_53 (by decide) ?_
    refine lv_istore_n (lv' := [(1, .int 0), (0, .ref AT)]) hx hb dX8_save_54 rfl hl (by decide) rfl (fun ls hl => ?_)
    exact hL_55 FU 0 fT_al H locs ls hm hP hD hS (lv_sub hl [0, 1] rfl)
  · have hm := it_s c_8 hm
    refine lv_iconst (v := 0) hx hb dX8_save_11 (by decide) ?_
    refine lv_istore_n (lv' := [(1, .int 0), (0, .ref AT)]) hx hb dX8_save_12 rfl hl (by decide) rfl (fun ls hl => ?_)
    exact hL_13 FU 0 fT_al H locs ls hm hP hD hS (lv_sub hl [0, 1] rfl)
theorem mb_X8_nights : q_mb yX8_nights cX8_nights 2 (some .int) 1 := ⟨wc_X8_nights, wn_X8, by decide, by decide, by decide +kernel⟩
theorem mv_X8_nights : q_mv yX8_nights 8 := ⟨wi_X8_nights, ws_X8_nights, _, rfl, rfl⟩
def wd_X8_nights (cI cZ : ClassId) (AT AT_al AT_kp AT_ik AT_rf AT_hd AT_bs AT_se AT_bf AT_te AT_by AT_an AT_vs : Nat) (vT_ab : Int64) (vT_be : Int64) (vT_byl : Int32) (vT_tka : Int32) (vT_tkl : Int32) (vT_tkn : Int32) (vT_val : Int32) (fT_al : Nat → Int32) (fT_rf : Nat → Int32) : va_W := [(AT, .inr (8, [.ref AT_al, .ref AT_kp, .ref AT_ik, .ref AT_rf, .long vT_ab, .long vT_be, .ref AT_hd, .ref AT_bs, .ref AT_se, .ref AT_bf, .ref AT_te, .ref AT_by, .int vT_byl, .int vT_tka, .int vT_tkl, .int vT_tkn, .int vT_val, .ref AT_an, .ref AT_vs])), (AT_al, .inl (cI, 312, .inl fT_al)), (AT_rf, .inl (cI, 3, .inl fT_rf))]
def fm_X8_nights (p1 : Int32) (fT_al : Nat → Int32) (fT_rf : Nat → Int32) : Option (Int32 × (Nat → Int32) × (Nat → Int32)) := Option.bind (fm_X8_in (Int32.toInt64 p1) 1 60) (fun r_6 => if r_6 = 0 then (Option.bind (fm_X8_bad (-2) fT_rf) (fun r_15 => some (r_15.1, fT_al, r_15.2))) else (Option.bind (fm_X8_save fT_al) (fun r_20 => Option.bind (fm_X8_goNights 312 p1 r_20) (fun r_28 => Option.bind (fm_X8_manyWhoDo 312 r_28) (fun r_35 => some (r_35, r_28, fT_rf))))))
set_option maxHeartbeats 4000000 in
set_option maxRecDepth 100000 in
theorem c_X8_nights (l : Launch) (D : va_G) (cI cZ : ClassId) (sz : Nat) (AT AT_al AT_kp AT_ik AT_rf AT_hd AT_bs AT_se AT_bf AT_te AT_by AT_an AT_vs : Nat) (vT_ab : Int64) (vT_be : Int64) (vT_byl : Int32) (vT_tka : Int32) (vT_tkl : Int32) (vT_tkn : Int32) (vT_val : Int32) (fT_al : Nat → Int32) (fT_rf : Nat → Int32) (p1 : Int32) (out : (Int32 × (Nat → Int32) × (Nat → Int32))) (hm : fm_X8_nights p1 fT_al fT_rf = some out) : Met l yX8_nights (Cond.code yX8_nights cX8_nights 2 (some .int) :: bg) { frames := 5, cells := 0, slots := 0, locals := 114 } (va_Pc [.ref AT, .int p1] (q_pre D cI cZ sz (wd_X8_nights cI cZ AT AT_al AT_kp AT_ik AT_rf AT_hd AT_bs AT_se AT_bf AT_te AT_by AT_an AT_vs vT_ab vT_be vT_byl vT_tka vT_tkl vT_tkn vT_val fT_al fT_rf))) (q_Qi D (wd_X8_nights cI cZ AT AT_al AT_kp AT_ik AT_rf AT_hd AT_bs AT_se AT_bf AT_te AT_by AT_an AT_vs vT_ab vT_be vT_byl vT_tka vT_tkl vT_tkn vT_val out.2.1 out.2.2) out.1 (va_A (wd_X8_nights cI cZ AT AT_al AT_kp AT_ik AT_rf AT_hd AT_bs AT_se AT_bf AT_te AT_by AT_an AT_vs vT_ab vT_be vT_byl vT_tka vT_tkl vT_tkn vT_val fT_al fT_rf) sz)) 0 0 (va_A (wd_X8_nights cI cZ AT AT_al AT_kp AT_ik AT_rf AT_hd AT_bs AT_se AT_bf AT_te AT_by AT_an AT_vs vT_ab vT_be vT_byl vT_tka vT_tkl vT_tkn vT_val fT_al fT_rf) sz) := by
  refine q_met (fun A => q_Qi D (wd_X8_nights cI cZ AT AT_al AT_kp AT_ik AT_rf AT_hd AT_bs AT_se AT_bf AT_te AT_by AT_an AT_vs vT_ab vT_be vT_byl vT_tka vT_tkl vT_tkn vT_val out.2.1 out.2.2) out.1 A) (by decide) (Nat.le_of_ble_eq_true rfl) ?_
  intro p e s m below meth c ls A hx hb hr hml hown hts hlocks _ hA hS hP hD hK hN hl
  have hown : s.vm.findClass RX8 = some m.cls := hown
  have hl : lv_has ls 2 [(0, .ref AT), (1, .int p1)] := hl
  unfold fm_X8_nights at hm
  refine q_gen hS hP ?_
  intro H locs hP hS
  refine lv_iload_n hx hb dX8_nights_0 rfl (lv_at hl 1 rfl) ?_
  refine lv_i2l (v := (Int32.toInt64 p1)) hx hb dX8_nights_1 rfl ?_
  refine lv_lconst (v := 1) hx hb dX8_nights_2 (by decide) ?_
  refine lv_ldc2 (v := 60) hx hb hown (hts _ wv_X8_113) dX8_nights_3 ?_
  obtain ⟨r_6, hc_6, hm⟩ := ob_s hm
  refine q_ci (q_rs (rest := []) ⟨hx, hb, hml, hown, hts⟩ hK hN hP hD (c_X8_in l D cI cZ H.size (Int32.toInt64 p1) 1 60 r_6 hc_6) mb_X8_in wt_X8_in wl_X8_59 [] rfl rfl (Nat.le_of_ble_eq_true rfl) (Nat.le_of_ble_eq_true rfl) rfl hl.1 rfl (Nat.le_of_ble_eq_true rfl) ⟨Nat.le_refl 0, Nat.le_refl 0⟩ dX8_nights_6) hP hD hS hA [] rfl rfl (fun H locs hP hD hS => ?_)
  have hP : va_P D vwCl (wd_X8_nights cI cZ AT AT_al AT_kp AT_ik AT_rf AT_hd AT_bs AT_se AT_bf AT_te AT_by AT_an AT_vs vT_ab vT_be vT_byl vT_tka vT_tkl vT_tkn vT_val fT_al fT_rf) H := hP
  have hD : va_D A (wd_X8_nights cI cZ AT AT_al AT_kp AT_ik AT_rf AT_hd AT_bs AT_se AT_bf AT_te AT_by AT_an AT_vs vT_ab vT_be vT_byl vT_tka vT_tkl vT_tkn vT_val fT_al fT_rf) := hD
  refine lv_if_ne (tgt := 19) hx hb dX8_nights_9 (by decide) (fun c_9 => ?_) (fun c_9 => ?_)
  · have hm := it_n c_9 hm
    refine lv_aload_n hx hb dX8_nights_19 rfl (lv_at hl 0 rfl) ?_
    obtain ⟨r_20, hc_20, hm⟩ := ob_s hm
    refine q_cv (q_rv (rest := []) ⟨hx, hb, hml, hown, hts⟩ hK hN hP hD (c_X8_save l D cI cZ H.size AT AT_al AT_kp AT_ik AT_rf AT_hd AT_bs AT_se AT_bf AT_te AT_by AT_an AT_vs vT_ab vT_be vT_byl vT_tka vT_tkl vT_tkn vT_val fT_al r_20 hc_20) mb_X8_save mv_X8_save wl_X8_115 [0, 1] rfl rfl rfl (Nat.le_of_ble_eq_true rfl) (Nat.le_of_ble_eq_true rfl) rfl hl.1 rfl (Nat.le_of_ble_eq_true rfl) ⟨Nat.le_refl 0, Nat.le_refl 0⟩ dX8_nights_20) hP hD hS hA [0, 1] rfl rfl (fun H locs hP hD hS => ?_)
    have hP : va_P D vwCl (wd_X8_nights cI cZ AT AT_al AT_kp AT_ik AT_rf AT_hd AT_bs AT_se AT_bf AT_te AT_by AT_an AT_vs vT_ab vT_be vT_byl vT_tka vT_tkl vT_tkn vT_val r_20 fT_rf) H := hP
    have hD : va_D A (wd_X8_nights cI cZ AT AT_al AT_kp AT_ik AT_rf AT_hd AT_bs AT_se AT_bf AT_te AT_by AT_an AT_vs vT_ab vT_be vT_byl vT_tka vT_tkl vT_tkn vT_val r_20 fT_rf) := hD
    refine lv_aload_n hx hb dX8_nights_23 rfl (lv_at hl 0 rfl) ?_
    refine gf_X8_7 (v := .ref AT_al) hx hb hts hown hK hN hP 0 rfl rfl dX8_nights_24 ?_
    refine lv_iload_n hx hb dX8_nights_27 rfl (lv_at hl 1 rfl) ?_
    obtain ⟨r_28, hc_28, hm⟩ := ob_s hm
    refine q_cv (q_rs (rest := []) ⟨hx, hb, hml, hown, hts⟩ hK hN hP hD (c_X8_goNights l D cI cZ H.size AT_al 312 r_20 p1 r_28 hc_28) mb_X8_goNights wt_X8_goNights wl_X8_118 [1] rfl rfl (Nat.le_of_ble_eq_true rfl) (Nat.le_of_ble_eq_true rfl) rfl hl.1 rfl (Nat.le_of_ble_eq_true rfl) ⟨Nat.le_refl 0, Nat.le_refl 0⟩ dX8_nights_28) hP hD hS hA [1] rfl rfl (fun H locs hP hD hS => ?_)
    have hP : va_P D vwCl (wd_X8_nights cI cZ AT AT_al AT_kp AT_ik AT_rf AT_hd AT_bs AT_se AT_bf AT_te AT_by AT_an AT_vs vT_ab vT_be vT_byl vT_tka vT_tkl vT_tkn vT_val r_28 fT_rf) H := hP
    have hD : va_D A (wd_X8_nights cI cZ AT AT_al AT_kp AT_ik AT_rf AT_hd AT_bs AT_se AT_bf AT_te AT_by AT_an AT_vs vT_ab vT_be vT_byl vT_tka vT_tkl vT_tkn vT_val r_28 fT_rf) := hD
    refine lv_aload_n hx hb dX8_nights_31 rfl (lv_at hl 0 rfl) ?_
    refine gf_X8_7 (v := .ref AT_al) hx hb hts hown hK hN hP 0 rfl rfl dX8_nights_32 ?_
    obtain ⟨r_35, hc_35, hm⟩ := ob_s hm
    refine q_ci (q_rs (rest := []) ⟨hx, hb, hml, hown, hts⟩ hK hN hP hD (c_X8_manyWhoDo l D cI cZ H.size AT_al 312 r_28 r_35 hc_35) mb_X8_manyWhoDo wt_X8_manyWhoDo wl_X8_122 [1] rfl rfl (Nat.le_of_ble_eq_true rfl) (Nat.le_of_ble_eq_true rfl) rfl hl.1 rfl (Nat.le_of_ble_eq_true rfl) ⟨Nat.le_refl 0, Nat.le_refl 0⟩ dX8_nights_35) hP hD hS hA [1] rfl rfl (fun H locs hP hD hS => ?_)
    have hP : va_P D vwCl (wd_X8_nights cI cZ AT AT_al AT_kp AT_ik AT_rf AT_hd AT_bs AT_se AT_bf AT_te AT_by AT_an AT_vs vT_ab vT_be vT_byl vT_tka vT_tkl vT_tkn vT_val r_28 fT_rf) H := hP
    have hD : va_D A (wd_X8_nights cI cZ AT AT_al AT_kp AT_ik AT_rf AT_hd AT_bs AT_se AT_bf AT_te AT_by AT_an AT_vs vT_ab vT_be vT_byl vT_tka vT_tkl vT_tkn vT_val r_28 fT_rf) := hD
    have hm := Option.some.inj hm
    subst hm
    exact q_iret (v := r_35) hx hb hr hlocks hP hS dX8_nights_38
  · have hm := it_s c_9 hm
    refine lv_aload_n hx hb dX8_nights_12 rfl (lv_at hl 0 rfl) ?_
    refine lv_bipush (v := (-2)) hx hb dX8_nights_13 (by decide) ?_
    obtain ⟨r_15, hc_15, hm⟩ := ob_s hm
    refine q_ci (q_rv (rest := []) ⟨hx, hb, hml, hown, hts⟩ hK hN hP hD (c_X8_bad l D cI cZ H.size AT AT_al AT_kp AT_ik AT_rf AT_hd AT_bs AT_se AT_bf AT_te AT_by AT_an AT_vs vT_ab vT_be vT_byl vT_tka vT_tkl vT_tkn vT_val fT_rf (-2) r_15 hc_15) mb_X8_bad mv_X8_bad wl_X8_75 [0, 2] rfl rfl rfl (Nat.le_of_ble_eq_true rfl) (Nat.le_of_ble_eq_true rfl) rfl hl.1 rfl (Nat.le_of_ble_eq_true rfl) ⟨Nat.le_refl 0, Nat.le_refl 0⟩ dX8_nights_15) hP hD hS hA [0, 2] rfl rfl (fun H locs hP hD hS => ?_)
    have hP : va_P D vwCl (wd_X8_nights cI cZ AT AT_al AT_kp AT_ik AT_rf AT_hd AT_bs AT_se AT_bf AT_te AT_by AT_an AT_vs vT_ab vT_be vT_byl vT_tka vT_tkl vT_tkn vT_val fT_al r_15.2) H := hP
    have hD : va_D A (wd_X8_nights cI cZ AT AT_al AT_kp AT_ik AT_rf AT_hd AT_bs AT_se AT_bf AT_te AT_by AT_an AT_vs vT_ab vT_be vT_byl vT_tka vT_tkl vT_tkn vT_val fT_al r_15.2) := hD
    have hm := Option.some.inj hm
    subst hm
    exact q_iret (v := r_15.1) hx hb hr hlocks hP hS dX8_nights_18
theorem mb_X8_swapOn : q_mb yX8_swapOn cX8_swapOn 5 (some .int) 3 := ⟨wc_X8_swapOn, wn_X8, by decide, by decide, by decide +kernel⟩
def wd_X8_swapOn (cI cZ : ClassId) (A0 : Nat) (n0 : Nat) (f0 : Nat → Int32) : va_W := [(A0, .inl (cI, n0, .inl f0))]
def fm_X8_swapOn (n0 : Nat) (p1 : Int32) (p2 : Int32) (f0 : Nat → Int32) : Option (Int32 × (Nat → Int32)) := Option.bind (fm_X8_whoOn n0 p1 f0) (fun r_2 => Option.bind (fm_X8_whoOn n0 p2 f0) (fun r_8 => if r_2 = (-1) then (if r_8 = (-1) then (some ((0 + 0), f0)) else (gd (6 + r_8) n0 (some ((0 + 1), (upd f0 (Int32.toNatClampNeg (6 + r_8)) p1))))) else (gd (6 + r_2) n0 (if r_8 = (-1) then (some ((1 + 0), (upd f0 (Int32.toNatClampNeg (6 + r_2)) p2))) else (gd (6 + r_8) n0 (some ((1 + 1), (upd (upd f0 (Int32.toNatClampNeg (6 + r_2)) p2) (Int32.toNatClampNeg (6 + r_8)) p1))))))))
set_option maxHeartbeats 4000000 in
set_option maxRecDepth 100000 in
theorem c_X8_swapOn (l : Launch) (D : va_G) (cI cZ : ClassId) (sz : Nat) (A0 : Nat) (n0 : Nat) (f0 : Nat → Int32) (p1 : Int32) (p2 : Int32) (out : (Int32 × (Nat → Int32))) (hm : fm_X8_swapOn n0 p1 p2 f0 = some out) : Met l yX8_swapOn (Cond.code yX8_swapOn cX8_swapOn 5 (some .int) :: bg) { frames := 1, cells := 0, slots := 0, locals := 22 } (va_Pc [.ref A0, .int p1, .int p2] (q_pre D cI cZ sz (wd_X8_swapOn cI cZ A0 n0 f0))) (q_Qi D (wd_X8_swapOn cI cZ A0 n0 out.2) out.1 (va_A (wd_X8_swapOn cI cZ A0 n0 f0) sz)) 0 0 (va_A (wd_X8_swapOn cI cZ A0 n0 f0) sz) := by
  refine q_met (fun A => q_Qi D (wd_X8_swapOn cI cZ A0 n0 out.2) out.1 A) (by decide) (Nat.le_of_ble_eq_true rfl) ?_
  intro p e s m below meth c ls A hx hb hr hml hown hts hlocks _ hA hS hP hD hK hN hl
  have hown : s.vm.findClass RX8 = some m.cls := hown
  have hl : lv_has ls 5 [(0, .ref A0), (1, .int p1), (2, .int p2)] := hl
  unfold fm_X8_swapOn at hm
  refine q_gen hS hP ?_
  intro H locs hP hS
  refine lv_aload_n hx hb dX8_swapOn_0 rfl (lv_at hl 0 rfl) ?_
  refine lv_iload_n hx hb dX8_swapOn_1 rfl (lv_at hl 1 rfl) ?_
  obtain ⟨r_2, hc_2, hm⟩ := ob_s hm
  refine q_ci (q_rs (rest := []) ⟨hx, hb, hml, hown, hts⟩ hK hN hP hD (c_X8_whoOn l D cI cZ H.size A0 n0 f0 p1 r_2 hc_2) mb_X8_whoOn wt_X8_whoOn wl_X8_67 [0] rfl rfl (Nat.le_of_ble_eq_true rfl) (Nat.le_of_ble_eq_true rfl) rfl hl.1 rfl (Nat.le_of_ble_eq_true rfl) ⟨Nat.le_refl 0, Nat.le_refl 0⟩ dX8_swapOn_2) hP hD hS hA [0] rfl rfl (fun H locs hP hD hS => ?_)
  have hP : va_P D vwCl (wd_X8_swapOn cI cZ A0 n0 f0) H := hP
  have hD : va_D A (wd_X8_swapOn cI cZ A0 n0 f0) := hD
  refine lv_istore_n (lv' := [(3, .int r_2), (0, .ref A0), (1, .int p1), (2, .int p2)]) hx hb dX8_swapOn_5 rfl hl (by decide) rfl (fun ls hl => ?_)
  refine lv_aload_n hx hb dX8_swapOn_6 rfl (lv_at hl 1 rfl) ?_
  refine lv_iload_n hx hb dX8_swapOn_7 rfl (lv_at hl 3 rfl) ?_
  obtain ⟨r_8, hc_8, hm⟩ := ob_s hm
  refine q_ci (q_rs (rest := []) ⟨hx, hb, hml, hown, hts⟩ hK hN hP hD (c_X8_whoOn l D cI cZ H.size A0 n0 f0 p2 r_8 hc_8) mb_X8_whoOn wt_X8_whoOn wl_X8_67 [0] rfl rfl (Nat.le_of_ble_eq_true rfl) (Nat.le_of_ble_eq_true rfl) rfl hl.1 rfl (Nat.le_of_ble_eq_true rfl) ⟨Nat.le_refl 0, Nat.le_refl 0⟩ dX8_swapOn_8) hP hD hS hA [0] rfl rfl (fun H locs hP hD hS => ?_)
  have hP : va_P D vwCl (wd_X8_swapOn cI cZ A0 n0 f0) H := hP
  have hD : va_D A (wd_X8_swapOn cI cZ A0 n0 f0) := hD
  refine lv_istore (lv' := [(4, .int r_8), (3, .int r_2), (0, .ref A0), (1, .int p1), (2, .int p2)]) hx hb dX8_swapOn_11 hl (by decide) rfl (fun ls hl => ?_)
  refine lv_iload_n hx hb dX8_swapOn_13 rfl (lv_at hl 1 rfl) ?_
  refine lv_iconst (v := (-1)) hx hb dX8_swapOn_14 (by decide) ?_
  refine lv_icmp_eq (tgt := 25) hx hb dX8_swapOn_15 (by decide) (fun c_15 => ?_) (fun c_15 => ?_)
  · have hm := it_s c_15 hm
    refine lv_iload hx hb dX8_swapOn_25 (lv_at hl 0 rfl) ?_
    refine lv_iconst (v := (-1)) hx hb dX8_swapOn_27 (by decide) ?_
    refine lv_icmp_eq (tgt := 39) hx hb dX8_swapOn_28 (by decide) (fun c_28 => ?_) (fun c_28 => ?_)
    · have hm := it_s c_28 hm
      refine lv_iload_n hx hb dX8_swapOn_39 rfl (lv_at hl 1 rfl) ?_
      refine lv_iconst (v := (-1)) hx hb dX8_swapOn_40 (by decide) ?_
      refine lv_icmp_ne (tgt := 48) hx hb dX8_swapOn_41 (by decide) (fun c => absurd c_15 c) (fun _ => ?_)
      refine lv_iconst (v := 0) hx hb dX8_swapOn_44 (by decide) ?_
      refine lv_goto (tgt := 49) hx hb dX8_swapOn_45 (by decide) ?_
      refine lv_iload hx hb dX8_swapOn_49 (lv_at hl 0 rfl) ?_
      refine lv_iconst (v := (-1)) hx hb dX8_swapOn_51 (by decide) ?_
      refine lv_icmp_ne (tgt := 59) hx hb dX8_swapOn_52 (by decide) (fun c => absurd c_28 c) (fun _ => ?_)
      refine lv_iconst (v := 0) hx hb dX8_swapOn_55 (by decide) ?_
      refine lv_goto (tgt := 60) hx hb dX8_swapOn_56 (by decide) ?_
      refine lv_iadd hx hb dX8_swapOn_60 ?_
      have hm := Option.some.inj hm
      subst hm
      exact q_iret (v := (0 + 0)) hx hb hr hlocks hP hS dX8_swapOn_61
    · have hm := it_n c_28 hm
      refine lv_aload_n hx hb dX8_swapOn_31 rfl (lv_at hl 2 rfl) ?_
      refine lv_bipush (v := 6) hx hb dX8_swapOn_32 (by decide) ?_
      refine lv_iload hx hb dX8_swapOn_34 (lv_at hl 0 rfl) ?_
      refine lv_iadd hx hb dX8_swapOn_36 ?_
      refine lv_iload_n hx hb dX8_swapOn_37 rfl (lv_at hl 3 rfl) ?_
      obtain ⟨hi_38, hm⟩ := gd_s hm
      refine q_iast (j := (Int32.toNatClampNeg (6 + r_8))) hx hb hK hP hD hS 0 rfl hi_38 rfl dX8_swapOn_38 (fun H locs hP hD hS => ?_)
      have hP : va_P D vwCl (wd_X8_swapOn cI cZ A0 n0 (upd f0 (Int32.toNatClampNeg (6 + r_8)) p1)) H := hP
      have hD : va_D A (wd_X8_swapOn cI cZ A0 n0 (upd f0 (Int32.toNatClampNeg (6 + r_8)) p1)) := hD
      refine lv_iload_n hx hb dX8_swapOn_39 rfl (lv_at hl 1 rfl) ?_
      refine lv_iconst (v := (-1)) hx hb dX8_swapOn_40 (by decide) ?_
      refine lv_icmp_ne (tgt := 48) hx hb dX8_swapOn_41 (by decide) (fun c => absurd c_15 c) (fun _ => ?_)
      refine lv_iconst (v := 0) hx hb dX8_swapOn_44 (by decide) ?_
      refine lv_goto (tgt := 49) hx hb dX8_swapOn_45 (by decide) ?_
      refine lv_iload hx hb dX8_swapOn_49 (lv_at hl 0 rfl) ?_
      refine lv_iconst (v := (-1)) hx hb dX8_swapOn_51 (by decide) ?_
      refine lv_icmp_ne (tgt := 59) hx hb dX8_swapOn_52 (by decide) (fun _ => ?_) (fun c => absurd c c_28)
      refine lv_iconst (v := 1) hx hb dX8_swapOn_59 (by decide) ?_
      refine lv_iadd hx hb dX8_swapOn_60 ?_
      have hm := Option.some.inj hm
      subst hm
      exact q_iret (v := (0 + 1)) hx hb hr hlocks hP hS dX8_swapOn_61
  · have hm := it_n c_15 hm
    refine lv_aload_n hx hb dX8_swapOn_18 rfl (lv_at hl 2 rfl) ?_
    refine lv_bipush (v := 6) hx hb dX8_swapOn_19 (by decide) ?_
    refine lv_iload_n hx hb dX8_swapOn_21 rfl (lv_at hl 1 rfl) ?_
    refine lv_iadd hx hb dX8_swapOn_22 ?_
    refine lv_iload_n hx hb dX8_swapOn_23 rfl (lv_at hl 4 rfl) ?_
    obtain ⟨hi_24, hm⟩ := gd_s hm
    refine q_iast (j := (Int32.toNatClampNeg (6 + r_2))) hx hb hK hP hD hS 0 rfl hi_24 rfl dX8_swapOn_24 (fun H locs hP hD hS => ?_)
    have hP : va_P D vwCl (wd_X8_swapOn cI cZ A0 n0 (upd f0 (Int32.toNatClampNeg (6 + r_2)) p2)) H := hP
    have hD : va_D A (wd_X8_swapOn cI cZ A0 n0 (upd f0 (Int32.toNatClampNeg (6 + r_2)) p2)) := hD
    refine lv_iload hx hb dX8_swapOn_25 (lv_at hl 0 rfl) ?_
    refine lv_iconst (v := (-1)) hx hb dX8_swapOn_27 (by decide) ?_
    refine lv_icmp_eq (tgt := 39) hx hb dX8_swapOn_28 (by decide) (fun c_28 => ?_) (fun c_28 => ?_)
    · have hm := it_s c_28 hm
      refine lv_iload_n hx hb dX8_swapOn_39 rfl (lv_at hl 1 rfl) ?_
      refine lv_iconst (v := (-1)) hx hb dX8_swapOn_40 (by decide) ?_
      refine lv_icmp_ne (tgt := 48) hx hb dX8_swapOn_41 (by decide) (fun _ => ?_) (fun c => absurd c c_15)
      refine lv_iconst (v := 1) hx hb dX8_swapOn_48 (by decide) ?_
      refine lv_iload hx hb dX8_swapOn_49 (lv_at hl 0 rfl) ?_
      refine lv_iconst (v := (-1)) hx hb dX8_swapOn_51 (by decide) ?_
      refine lv_icmp_ne (tgt := 59) hx hb dX8_swapOn_52 (by decide) (fun c => absurd c_28 c) (fun _ => ?_)
      refine lv_iconst (v := 0) hx hb dX8_swapOn_55 (by decide) ?_
      refine lv_goto (tgt := 60) hx hb dX8_swapOn_56 (by decide) ?_
      refine lv_iadd hx hb dX8_swapOn_60 ?_
      have hm := Option.some.inj hm
      subst hm
      exact q_iret (v := (1 + 0)) hx hb hr hlocks hP hS dX8_swapOn_61
    · have hm := it_n c_28 hm
      refine lv_aload_n hx hb dX8_swapOn_31 rfl (lv_at hl 2 rfl) ?_
      refine lv_bipush (v := 6) hx hb dX8_swapOn_32 (by decide) ?_
      refine lv_iload hx hb dX8_swapOn_34 (lv_at hl 0 rfl) ?_
      refine lv_iadd hx hb dX8_swapOn_36 ?_
      refine lv_iload_n hx hb dX8_swapOn_37 rfl (lv_at hl 3 rfl) ?_
      obtain ⟨hi_38, hm⟩ := gd_s hm
      refine q_iast (j := (Int32.toNatClampNeg (6 + r_8))) hx hb hK hP hD hS 0 rfl hi_38 rfl dX8_swapOn_38 (fun H locs hP hD hS => ?_)
      have hP : va_P D vwCl (wd_X8_swapOn cI cZ A0 n0 (upd (upd f0 (Int32.toNatClampNeg (6 + r_2)) p2) (Int32.toNatClampNeg (6 + r_8)) p1)) H := hP
      have hD : va_D A (wd_X8_swapOn cI cZ A0 n0 (upd (upd f0 (Int32.toNatClampNeg (6 + r_2)) p2) (Int32.toNatClampNeg (6 + r_8)) p1)) := hD
      refine lv_iload_n hx hb dX8_swapOn_39 rfl (lv_at hl 1 rfl) ?_
      refine lv_iconst (v := (-1)) hx hb dX8_swapOn_40 (by decide) ?_
      refine lv_icmp_ne (tgt := 48) hx hb dX8_swapOn_41 (by decide) (fun _ => ?_) (fun c => absurd c c_15)
      refine lv_iconst (v := 1) hx hb dX8_swapOn_48 (by decide) ?_
      refine lv_iload hx hb dX8_swapOn_49 (lv_at hl 0 rfl) ?_
      refine lv_iconst (v := (-1)) hx hb dX8_swapOn_51 (by decide) ?_
      refine lv_icmp_ne (tgt := 59) hx hb dX8_swapOn_52 (by decide) (fun _ => ?_) (fun c => absurd c c_28)
      refine lv_iconst (v := 1) hx hb dX8_swapOn_59 (by decide) ?_
      refine lv_iadd hx hb dX8_swapOn_60 ?_
      have hm := Option.some.inj hm
      subst hm
      exact q_iret (v := (1 + 1)) hx hb hr hlocks hP hS dX8_swapOn_61
theorem mb_X8_swaps : q_mb yX8_swaps cX8_swaps 3 (some .int) 2 := ⟨wc_X8_swaps, wn_X8, by decide, by decide, by decide +kernel⟩
theorem mv_X8_swaps : q_mv yX8_swaps 8 := ⟨wi_X8_swaps, ws_X8_swaps, _, rfl, rfl⟩
def wd_X8_swaps (cI cZ : ClassId) (AT AT_al AT_kp AT_ik AT_rf AT_hd AT_bs AT_se AT_bf AT_te AT_by AT_an AT_vs : Nat) (vT_ab : Int64) (vT_be : Int64) (vT_byl : Int32) (vT_tka : Int32) (vT_tkl : Int32) (vT_tkn : Int32) (vT_val : Int32) (fT_rf : Nat → Int32) (fT_al : Nat → Int32) : va_W := [(AT, .inr (8, [.ref AT_al, .ref AT_kp, .ref AT_ik, .ref AT_rf, .long vT_ab, .long vT_be, .ref AT_hd, .ref AT_bs, .ref AT_se, .ref AT_bf, .ref AT_te, .ref AT_by, .int vT_byl, .int vT_tka, .int vT_tkl, .int vT_tkn, .int vT_val, .ref AT_an, .ref AT_vs])), (AT_rf, .inl (cI, 3, .inl fT_rf)), (AT_al, .inl (cI, 312, .inl fT_al))]
def fm_X8_swaps (p1 : Int32) (p2 : Int32) (fT_rf : Nat → Int32) (fT_al : Nat → Int32) : Option (Int32 × (Nat → Int32) × (Nat → Int32)) := Option.bind (fm_X8_isPillow p1) (fun r_1 => if r_1 = 0 then (Option.bind (fm_X8_bad (-2) fT_rf) (fun r_22 => some (r_22.1, r_22.2, fT_al))) else (Option.bind (fm_X8_isPillow p2) (fun r_8 => if r_8 = 0 then (Option.bind (fm_X8_bad (-2) fT_rf) (fun r_22 => some (r_22.1, r_22.2, fT_al))) else (if p1 = p2 then (Option.bind (fm_X8_bad (-2) fT_rf) (fun r_22 => some (r_22.1, r_22.2, fT_al))) else (Option.bind (fm_X8_whoOn 312 p1 fT_al) (fun r_31 => if r_31 = (-1) then (Option.bind (fm_X8_whoOn 312 p2 fT_al) (fun r_43 => if r_43 = (-1) then (Option.bind (fm_X8_no fT_rf) (fun r_51 => some (r_51.1, r_51.2, fT_al))) else (Option.bind (fm_X8_save fT_al) (fun r_56 => Option.bind (fm_X8_swapOn 312 p1 p2 r_56) (fun r_65 => some (r_65.1, fT_rf, r_65.2)))))) else (Option.bind (fm_X8_save fT_al) (fun r_56 => Option.bind (fm_X8_swapOn 312 p1 p2 r_56) (fun r_65 => some (r_65.1, fT_rf, r_65.2))))))))))
set_option maxHeartbeats 4000000 in
set_option maxRecDepth 100000 in
theorem c_X8_swaps (l : Launch) (D : va_G) (cI cZ : ClassId) (sz : Nat) (AT AT_al AT_kp AT_ik AT_rf AT_hd AT_bs AT_se AT_bf AT_te AT_by AT_an AT_vs : Nat) (vT_ab : Int64) (vT_be : Int64) (vT_byl : Int32) (vT_tka : Int32) (vT_tkl : Int32) (vT_tkn : Int32) (vT_val : Int32) (fT_rf : Nat → Int32) (fT_al : Nat → Int32) (p1 : Int32) (p2 : Int32) (out : (Int32 × (Nat → Int32) × (Nat → Int32))) (hm : fm_X8_swaps p1 p2 fT_rf fT_al = some out) : Met l yX8_swaps (Cond.code yX8_swaps cX8_swaps 3 (some .int) :: bg) { frames := 2, cells := 0, slots := 0, locals := 46 } (va_Pc [.ref AT, .int p1, .int p2] (q_pre D cI cZ sz (wd_X8_swaps cI cZ AT AT_al AT_kp AT_ik AT_rf AT_hd AT_bs AT_se AT_bf AT_te AT_by AT_an AT_vs vT_ab vT_be vT_byl vT_tka vT_tkl vT_tkn vT_val fT_rf fT_al))) (q_Qi D (wd_X8_swaps cI cZ AT AT_al AT_kp AT_ik AT_rf AT_hd AT_bs AT_se AT_bf AT_te AT_by AT_an AT_vs vT_ab vT_be vT_byl vT_tka vT_tkl vT_tkn vT_val out.2.1 out.2.2) out.1 (va_A (wd_X8_swaps cI cZ AT AT_al AT_kp AT_ik AT_rf AT_hd AT_bs AT_se AT_bf AT_te AT_by AT_an AT_vs vT_ab vT_be vT_byl vT_tka vT_tkl vT_tkn vT_val fT_rf fT_al) sz)) 0 0 (va_A (wd_X8_swaps cI cZ AT AT_al AT_kp AT_ik AT_rf AT_hd AT_bs AT_se AT_bf AT_te AT_by AT_an AT_vs vT_ab vT_be vT_byl vT_tka vT_tkl vT_tkn vT_val fT_rf fT_al) sz) := by
  refine q_met (fun A => q_Qi D (wd_X8_swaps cI cZ AT AT_al AT_kp AT_ik AT_rf AT_hd AT_bs AT_se AT_bf AT_te AT_by AT_an AT_vs vT_ab vT_be vT_byl vT_tka vT_tkl vT_tkn vT_val out.2.1 out.2.2) out.1 A) (by decide) (Nat.le_of_ble_eq_true rfl) ?_
  intro p e s m below meth c ls A hx hb hr hml hown hts hlocks _ hA hS hP hD hK hN hl
  have hown : s.vm.findClass RX8 = some m.cls := hown
  have hl : lv_has ls 3 [(0, .ref AT), (1, .int p1), (2, .int p2)] := hl
  unfold fm_X8_swaps at hm
  refine q_gen hS hP ?_
  intro H locs hP hS
  refine lv_iload_n hx hb dX8_swaps_0 rfl (lv_at hl 1 rfl) ?_
  obtain ⟨r_1, hc_1, hm⟩ := ob_s hm
  refine q_ci (q_rs (rest := []) ⟨hx, hb, hml, hown, hts⟩ hK hN hP hD (c_X8_isPillow l D cI cZ H.size p1 r_1 hc_1) mb_X8_isPillow wt_X8_isPillow wl_X8_89 [] rfl rfl (Nat.le_of_ble_eq_true rfl) (Nat.le_of_ble_eq_true rfl) rfl hl.1 rfl (Nat.le_of_ble_eq_true rfl) ⟨Nat.le_refl 0, Nat.le_refl 0⟩ dX8_swaps_1) hP hD hS hA [] rfl rfl (fun H locs hP hD hS => ?_)
  have hP : va_P D vwCl (wd_X8_swaps cI cZ AT AT_al AT_kp AT_ik AT_rf AT_hd AT_bs AT_se AT_bf AT_te AT_by AT_an AT_vs vT_ab vT_be vT_byl vT_tka vT_tkl vT_tkn vT_val fT_rf fT_al) H := hP
  have hD : va_D A (wd_X8_swaps cI cZ AT AT_al AT_kp AT_ik AT_rf AT_hd AT_bs AT_se AT_bf AT_te AT_by AT_an AT_vs vT_ab vT_be vT_byl vT_tka vT_tkl vT_tkn vT_val fT_rf fT_al) := hD
  refine lv_if_eq (tgt := 19) hx hb dX8_swaps_4 (by decide) (fun c_4 => ?_) (fun c_4 => ?_)
  · have hm := it_s c_4 hm
    refine lv_aload_n hx hb dX8_swaps_19 rfl (lv_at hl 0 rfl) ?_
    refine lv_bipush (v := (-2)) hx hb dX8_swaps_20 (by decide) ?_
    obtain ⟨r_22, hc_22, hm⟩ := ob_s hm
    refine q_ci (q_rv (rest := []) ⟨hx, hb, hml, hown, hts⟩ hK hN hP hD (c_X8_bad l D cI cZ H.size AT AT_al AT_kp AT_ik AT_rf AT_hd AT_bs AT_se AT_bf AT_te AT_by AT_an AT_vs vT_ab vT_be vT_byl vT_tka vT_tkl vT_tkn vT_val fT_rf (-2) r_22 hc_22) mb_X8_bad mv_X8_bad wl_X8_75 [0, 1] rfl rfl rfl (Nat.le_of_ble_eq_true rfl) (Nat.le_of_ble_eq_true rfl) rfl hl.1 rfl (Nat.le_of_ble_eq_true rfl) ⟨Nat.le_refl 0, Nat.le_refl 0⟩ dX8_swaps_22) hP hD hS hA [0, 1] rfl rfl (fun H locs hP hD hS => ?_)
    have hP : va_P D vwCl (wd_X8_swaps cI cZ AT AT_al AT_kp AT_ik AT_rf AT_hd AT_bs AT_se AT_bf AT_te AT_by AT_an AT_vs vT_ab vT_be vT_byl vT_tka vT_tkl vT_tkn vT_val r_22.2 fT_al) H := hP
    have hD : va_D A (wd_X8_swaps cI cZ AT AT_al AT_kp AT_ik AT_rf AT_hd AT_bs AT_se AT_bf AT_te AT_by AT_an AT_vs vT_ab vT_be vT_byl vT_tka vT_tkl vT_tkn vT_val r_22.2 fT_al) := hD
    have hm := Option.some.inj hm
    subst hm
    exact q_iret (v := r_22.1) hx hb hr hlocks hP hS dX8_swaps_25
  · have hm := it_n c_4 hm
    refine lv_iload_n hx hb dX8_swaps_7 rfl (lv_at hl 2 rfl) ?_
    obtain ⟨r_8, hc_8, hm⟩ := ob_s hm
    refine q_ci (q_rs (rest := []) ⟨hx, hb, hml, hown, hts⟩ hK hN hP hD (c_X8_isPillow l D cI cZ H.size p2 r_8 hc_8) mb_X8_isPillow wt_X8_isPillow wl_X8_89 [] rfl rfl (Nat.le_of_ble_eq_true rfl) (Nat.le_of_ble_eq_true rfl) rfl hl.1 rfl (Nat.le_of_ble_eq_true rfl) ⟨Nat.le_refl 0, Nat.le_refl 0⟩ dX8_swaps_8) hP hD hS hA [] rfl rfl (fun H locs hP hD hS => ?_)
    have hP : va_P D vwCl (wd_X8_swaps cI cZ AT AT_al AT_kp AT_ik AT_rf AT_hd AT_bs AT_se AT_bf AT_te AT_by AT_an AT_vs vT_ab vT_be vT_byl vT_tka vT_tkl vT_tkn vT_val fT_rf fT_al) H := hP
    have hD : va_D A (wd_X8_swaps cI cZ AT AT_al AT_kp AT_ik AT_rf AT_hd AT_bs AT_se AT_bf AT_te AT_by AT_an AT_vs vT_ab vT_be vT_byl vT_tka vT_tkl vT_tkn vT_val fT_rf fT_al) := hD
    refine lv_if_eq (tgt := 19) hx hb dX8_swaps_11 (by decide) (fun c_11 => ?_) (fun c_11 => ?_)
    · have hm := it_s c_11 hm
      refine lv_aload_n hx hb dX8_swaps_19 rfl (lv_at hl 0 rfl) ?_
      refine lv_bipush (v := (-2)) hx hb dX8_swaps_20 (by decide) ?_
      obtain ⟨r_22, hc_22, hm⟩ := ob_s hm
      refine q_ci (q_rv (rest := []) ⟨hx, hb, hml, hown, hts⟩ hK hN hP hD (c_X8_bad l D cI cZ H.size AT AT_al AT_kp AT_ik AT_rf AT_hd AT_bs AT_se AT_bf AT_te AT_by AT_an AT_vs vT_ab vT_be vT_byl vT_tka vT_tkl vT_tkn vT_val fT_rf (-2) r_22 hc_22) mb_X8_bad mv_X8_bad wl_X8_75 [0, 1] rfl rfl rfl (Nat.le_of_ble_eq_true rfl) (Nat.le_of_ble_eq_true rfl) rfl hl.1 rfl (Nat.le_of_ble_eq_true rfl) ⟨Nat.le_refl 0, Nat.le_refl 0⟩ dX8_swaps_22) hP hD hS hA [0, 1] rfl rfl (fun H locs hP hD hS => ?_)
      have hP : va_P D vwCl (wd_X8_swaps cI cZ AT AT_al AT_kp AT_ik AT_rf AT_hd AT_bs AT_se AT_bf AT_te AT_by AT_an AT_vs vT_ab vT_be vT_byl vT_tka vT_tkl vT_tkn vT_val r_22.2 fT_al) H := hP
      have hD : va_D A (wd_X8_swaps cI cZ AT AT_al AT_kp AT_ik AT_rf AT_hd AT_bs AT_se AT_bf AT_te AT_by AT_an AT_vs vT_ab vT_be vT_byl vT_tka vT_tkl vT_tkn vT_val r_22.2 fT_al) := hD
      have hm := Option.some.inj hm
      subst hm
      exact q_iret (v := r_22.1) hx hb hr hlocks hP hS dX8_swaps_25
    · have hm := it_n c_11 hm
      refine lv_iload_n hx hb dX8_swaps_14 rfl (lv_at hl 1 rfl) ?_
      refine lv_iload_n hx hb dX8_swaps_15 rfl (lv_at hl 2 rfl) ?_
      refine lv_icmp_ne (tgt := 26) hx hb dX8_swaps_16 (by decide) (fun c_16 => ?_) (fun c_16 => ?_)
      · have hm := it_n c_16 hm
        refine lv_aload_n hx hb dX8_swaps_26 rfl (lv_at hl 0 rfl) ?_
        refine gf_X8_7 (v := .ref AT_al) hx hb hts hown hK hN hP 0 rfl rfl dX8_swaps_27 ?_
        refine lv_iload_n hx hb dX8_swaps_30 rfl (lv_at hl 1 rfl) ?_
        obtain ⟨r_31, hc_31, hm⟩ := ob_s hm
        refine q_ci (q_rs (rest := []) ⟨hx, hb, hml, hown, hts⟩ hK hN hP hD (c_X8_whoOn l D cI cZ H.size AT_al 312 fT_al p1 r_31 hc_31) mb_X8_whoOn wt_X8_whoOn wl_X8_67 [2] rfl rfl (Nat.le_of_ble_eq_true rfl) (Nat.le_of_ble_eq_true rfl) rfl hl.1 rfl (Nat.le_of_ble_eq_true rfl) ⟨Nat.le_refl 0, Nat.le_refl 0⟩ dX8_swaps_31) hP hD hS hA [2] rfl rfl (fun H locs hP hD hS => ?_)
        have hP : va_P D vwCl (wd_X8_swaps cI cZ AT AT_al AT_kp AT_ik AT_rf AT_hd AT_bs AT_se AT_bf AT_te AT_by AT_an AT_vs vT_ab vT_be vT_byl vT_tka vT_tkl vT_tkn vT_val fT_rf fT_al) H := hP
        have hD : va_D A (wd_X8_swaps cI cZ AT AT_al AT_kp AT_ik AT_rf AT_hd AT_bs AT_se AT_bf AT_te AT_by AT_an AT_vs vT_ab vT_be vT_byl vT_tka vT_tkl vT_tkn vT_val fT_rf fT_al) := hD
        refine lv_iconst (v := (-1)) hx hb dX8_swaps_34 (by decide) ?_
        refine lv_icmp_ne (tgt := 55) hx hb dX8_swaps_35 (by decide) (fun c_35 => ?_) (fun c_35 => ?_)
        · have hm := it_n c_35 hm
          refine lv_aload_n hx hb dX8_swaps_55 rfl (lv_at hl 0 rfl) ?_
          obtain ⟨r_56, hc_56, hm⟩ := ob_s hm
          refine q_cv (q_rv (rest := []) ⟨hx, hb, hml, hown, hts⟩ hK hN hP hD (c_X8_save l D cI cZ H.size AT AT_al AT_kp AT_ik AT_rf AT_hd AT_bs AT_se AT_bf AT_te AT_by AT_an AT_vs vT_ab vT_be vT_byl vT_tka vT_tkl vT_tkn vT_val fT_al r_56 hc_56) mb_X8_save mv_X8_save wl_X8_115 [0, 2] rfl rfl rfl (Nat.le_of_ble_eq_true rfl) (Nat.le_of_ble_eq_true rfl) rfl hl.1 rfl (Nat.le_of_ble_eq_true rfl) ⟨Nat.le_refl 0, Nat.le_refl 0⟩ dX8_swaps_56) hP hD hS hA [0, 2] rfl rfl (fun H locs hP hD hS => ?_)
          have hP : va_P D vwCl (wd_X8_swaps cI cZ AT AT_al AT_kp AT_ik AT_rf AT_hd AT_bs AT_se AT_bf AT_te AT_by AT_an AT_vs vT_ab vT_be vT_byl vT_tka vT_tkl vT_tkn vT_val fT_rf r_56) H := hP
          have hD : va_D A (wd_X8_swaps cI cZ AT AT_al AT_kp AT_ik AT_rf AT_hd AT_bs AT_se AT_bf AT_te AT_by AT_an AT_vs vT_ab vT_be vT_byl vT_tka vT_tkl vT_tkn vT_val fT_rf r_56) := hD
          refine lv_aload_n hx hb dX8_swaps_59 rfl (lv_at hl 0 rfl) ?_
          refine gf_X8_7 (v := .ref AT_al) hx hb hts hown hK hN hP 0 rfl rfl dX8_swaps_60 ?_
          refine lv_iload_n hx hb dX8_swaps_63 rfl (lv_at hl 1 rfl) ?_
          refine lv_iload_n hx hb dX8_swaps_64 rfl (lv_at hl 2 rfl) ?_
          obtain ⟨r_65, hc_65, hm⟩ := ob_s hm
          refine q_ci (q_rs (rest := []) ⟨hx, hb, hml, hown, hts⟩ hK hN hP hD (c_X8_swapOn l D cI cZ H.size AT_al 312 r_56 p1 p2 r_65 hc_65) mb_X8_swapOn wt_X8_swapOn wl_X8_129 [2] rfl rfl (Nat.le_of_ble_eq_true rfl) (Nat.le_of_ble_eq_true rfl) rfl hl.1 rfl (Nat.le_of_ble_eq_true rfl) ⟨Nat.le_refl 0, Nat.le_refl 0⟩ dX8_swaps_65) hP hD hS hA [2] rfl rfl (fun H locs hP hD hS => ?_)
          have hP : va_P D vwCl (wd_X8_swaps cI cZ AT AT_al AT_kp AT_ik AT_rf AT_hd AT_bs AT_se AT_bf AT_te AT_by AT_an AT_vs vT_ab vT_be vT_byl vT_tka vT_tkl vT_tkn vT_val fT_rf r_65.2) H := hP
          have hD : va_D A (wd_X8_swaps cI cZ AT AT_al AT_kp AT_ik AT_rf AT_hd AT_bs AT_se AT_bf AT_te AT_by AT_an AT_vs vT_ab vT_be vT_byl vT_tka vT_tkl vT_tkn vT_val fT_rf r_65.2) := hD
          have hm := Option.some.inj hm
          subst hm
          exact q_iret (v := r_65.1) hx hb hr hlocks hP hS dX8_swaps_68
        · have hm := it_s c_35 hm
          refine lv_aload_n hx hb dX8_swaps_38 rfl (lv_at hl 0 rfl) ?_
          refine gf_X8_7 (v := .ref AT_al) hx hb hts hown hK hN hP 0 rfl rfl dX8_swaps_39 ?_
          refine lv_iload_n hx hb dX8_swaps_42 rfl (lv_at hl 2 rfl) ?_
          obtain ⟨r_43, hc_43, hm⟩ := ob_s hm
          refine q_ci (q_rs (rest := []) ⟨hx, hb, hml, hown, hts⟩ hK hN hP hD (c_X8_whoOn l D cI cZ H.size AT_al 312 fT_al p2 r_43 hc_43) mb_X8_whoOn wt_X8_whoOn wl_X8_67 [2] rfl rfl (Nat.le_of_ble_eq_true rfl) (Nat.le_of_ble_eq_true rfl) rfl hl.1 rfl (Nat.le_of_ble_eq_true rfl) ⟨Nat.le_refl 0, Nat.le_refl 0⟩ dX8_swaps_43) hP hD hS hA [2] rfl rfl (fun H locs hP hD hS => ?_)
          have hP : va_P D vwCl (wd_X8_swaps cI cZ AT AT_al AT_kp AT_ik AT_rf AT_hd AT_bs AT_se AT_bf AT_te AT_by AT_an AT_vs vT_ab vT_be vT_byl vT_tka vT_tkl vT_tkn vT_val fT_rf fT_al) H := hP
          have hD : va_D A (wd_X8_swaps cI cZ AT AT_al AT_kp AT_ik AT_rf AT_hd AT_bs AT_se AT_bf AT_te AT_by AT_an AT_vs vT_ab vT_be vT_byl vT_tka vT_tkl vT_tkn vT_val fT_rf fT_al) := hD
          refine lv_iconst (v := (-1)) hx hb dX8_swaps_46 (by decide) ?_
          refine lv_icmp_ne (tgt := 55) hx hb dX8_swaps_47 (by decide) (fun c_47 => ?_) (fun c_47 => ?_)
          · have hm := it_n c_47 hm
            refine lv_aload_n hx hb dX8_swaps_55 rfl (lv_at hl 0 rfl) ?_
            obtain ⟨r_56, hc_56, hm⟩ := ob_s hm
            refine q_cv (q_rv (rest := []) ⟨hx, hb, hml, hown, hts⟩ hK hN hP hD (c_X8_save l D cI cZ H.size AT AT_al AT_kp AT_ik AT_rf AT_hd AT_bs AT_se AT_bf AT_te AT_by AT_an AT_vs vT_ab vT_be vT_byl vT_tka vT_tkl vT_tkn vT_val fT_al r_56 hc_56) mb_X8_save mv_X8_save wl_X8_115 [0, 2] rfl rfl rfl (Nat.le_of_ble_eq_true rfl) (Nat.le_of_ble_eq_true rfl) rfl hl.1 rfl (Nat.le_of_ble_eq_true rfl) ⟨Nat.le_refl 0, Nat.le_refl 0⟩ dX8_swaps_56) hP hD hS hA [0, 2] rfl rfl (fun H locs hP hD hS => ?_)
            have hP : va_P D vwCl (wd_X8_swaps cI cZ AT AT_al AT_kp AT_ik AT_rf AT_hd AT_bs AT_se AT_bf AT_te AT_by AT_an AT_vs vT_ab vT_be vT_byl vT_tka vT_tkl vT_tkn vT_val fT_rf r_56) H := hP
            have hD : va_D A (wd_X8_swaps cI cZ AT AT_al AT_kp AT_ik AT_rf AT_hd AT_bs AT_se AT_bf AT_te AT_by AT_an AT_vs vT_ab vT_be vT_byl vT_tka vT_tkl vT_tkn vT_val fT_rf r_56) := hD
            refine lv_aload_n hx hb dX8_swaps_59 rfl (lv_at hl 0 rfl) ?_
            refine gf_X8_7 (v := .ref AT_al) hx hb hts hown hK hN hP 0 rfl rfl dX8_swaps_60 ?_
            refine lv_iload_n hx hb dX8_swaps_63 rfl (lv_at hl 1 rfl) ?_
            refine lv_iload_n hx hb dX8_swaps_64 rfl (lv_at hl 2 rfl) ?_
            obtain ⟨r_65, hc_65, hm⟩ := ob_s hm
            refine q_ci (q_rs (rest := []) ⟨hx, hb, hml, hown, hts⟩ hK hN hP hD (c_X8_swapOn l D cI cZ H.size AT_al 312 r_56 p1 p2 r_65 hc_65) mb_X8_swapOn wt_X8_swapOn wl_X8_129 [2] rfl rfl (Nat.le_of_ble_eq_true rfl) (Nat.le_of_ble_eq_true rfl) rfl hl.1 rfl (Nat.le_of_ble_eq_true rfl) ⟨Nat.le_refl 0, Nat.le_refl 0⟩ dX8_swaps_65) hP hD hS hA [2] rfl rfl (fun H locs hP hD hS => ?_)
            have hP : va_P D vwCl (wd_X8_swaps cI cZ AT AT_al AT_kp AT_ik AT_rf AT_hd AT_bs AT_se AT_bf AT_te AT_by AT_an AT_vs vT_ab vT_be vT_byl vT_tka vT_tkl vT_tkn vT_val fT_rf r_65.2) H := hP
            have hD : va_D A (wd_X8_swaps cI cZ AT AT_al AT_kp AT_ik AT_rf AT_hd AT_bs AT_se AT_bf AT_te AT_by AT_an AT_vs vT_ab vT_be vT_byl vT_tka vT_tkl vT_tkn vT_val fT_rf r_65.2) := hD
            have hm := Option.some.inj hm
            subst hm
            exact q_iret (v := r_65.1) hx hb hr hlocks hP hS dX8_swaps_68
          · have hm := it_s c_47 hm
            refine lv_aload_n hx hb dX8_swaps_50 rfl (lv_at hl 0 rfl) ?_
            obtain ⟨r_51, hc_51, hm⟩ := ob_s hm
            refine q_ci (q_rv (rest := []) ⟨hx, hb, hml, hown, hts⟩ hK hN hP hD (c_X8_no l D cI cZ H.size AT AT_al AT_kp AT_ik AT_rf AT_hd AT_bs AT_se AT_bf AT_te AT_by AT_an AT_vs vT_ab vT_be vT_byl vT_tka vT_tkl vT_tkn vT_val fT_rf r_51 hc_51) mb_X8_no mv_X8_no wl_X8_126 [0, 1] rfl rfl rfl (Nat.le_of_ble_eq_true rfl) (Nat.le_of_ble_eq_true rfl) rfl hl.1 rfl (Nat.le_of_ble_eq_true rfl) ⟨Nat.le_refl 0, Nat.le_refl 0⟩ dX8_swaps_51) hP hD hS hA [0, 1] rfl rfl (fun H locs hP hD hS => ?_)
            have hP : va_P D vwCl (wd_X8_swaps cI cZ AT AT_al AT_kp AT_ik AT_rf AT_hd AT_bs AT_se AT_bf AT_te AT_by AT_an AT_vs vT_ab vT_be vT_byl vT_tka vT_tkl vT_tkn vT_val r_51.2 fT_al) H := hP
            have hD : va_D A (wd_X8_swaps cI cZ AT AT_al AT_kp AT_ik AT_rf AT_hd AT_bs AT_se AT_bf AT_te AT_by AT_an AT_vs vT_ab vT_be vT_byl vT_tka vT_tkl vT_tkn vT_val r_51.2 fT_al) := hD
            have hm := Option.some.inj hm
            subst hm
            exact q_iret (v := r_51.1) hx hb hr hlocks hP hS dX8_swaps_54
      · have hm := it_s c_16 hm
        refine lv_aload_n hx hb dX8_swaps_19 rfl (lv_at hl 0 rfl) ?_
        refine lv_bipush (v := (-2)) hx hb dX8_swaps_20 (by decide) ?_
        obtain ⟨r_22, hc_22, hm⟩ := ob_s hm
        refine q_ci (q_rv (rest := []) ⟨hx, hb, hml, hown, hts⟩ hK hN hP hD (c_X8_bad l D cI cZ H.size AT AT_al AT_kp AT_ik AT_rf AT_hd AT_bs AT_se AT_bf AT_te AT_by AT_an AT_vs vT_ab vT_be vT_byl vT_tka vT_tkl vT_tkn vT_val fT_rf (-2) r_22 hc_22) mb_X8_bad mv_X8_bad wl_X8_75 [0, 1] rfl rfl rfl (Nat.le_of_ble_eq_true rfl) (Nat.le_of_ble_eq_true rfl) rfl hl.1 rfl (Nat.le_of_ble_eq_true rfl) ⟨Nat.le_refl 0, Nat.le_refl 0⟩ dX8_swaps_22) hP hD hS hA [0, 1] rfl rfl (fun H locs hP hD hS => ?_)
        have hP : va_P D vwCl (wd_X8_swaps cI cZ AT AT_al AT_kp AT_ik AT_rf AT_hd AT_bs AT_se AT_bf AT_te AT_by AT_an AT_vs vT_ab vT_be vT_byl vT_tka vT_tkl vT_tkn vT_val r_22.2 fT_al) H := hP
        have hD : va_D A (wd_X8_swaps cI cZ AT AT_al AT_kp AT_ik AT_rf AT_hd AT_bs AT_se AT_bf AT_te AT_by AT_an AT_vs vT_ab vT_be vT_byl vT_tka vT_tkl vT_tkn vT_val r_22.2 fT_al) := hD
        have hm := Option.some.inj hm
        subst hm
        exact q_iret (v := r_22.1) hx hb hr hlocks hP hS dX8_swaps_25
theorem mb_X8_wool : q_mb yX8_wool cX8_wool 4 (some .int) 2 := ⟨wc_X8_wool, wn_X8, by decide, by decide, by decide +kernel⟩
theorem mv_X8_wool : q_mv yX8_wool 8 := ⟨wi_X8_wool, ws_X8_wool, _, rfl, rfl⟩
def wd_X8_wool (cI cZ : ClassId) (AT AT_al AT_kp AT_ik AT_rf AT_hd AT_bs AT_se AT_bf AT_te AT_by AT_an AT_vs : Nat) (vT_ab : Int64) (vT_be : Int64) (vT_byl : Int32) (vT_tka : Int32) (vT_tkl : Int32) (vT_tkn : Int32) (vT_val : Int32) (fT_al : Nat → Int32) (fT_rf : Nat → Int32) : va_W := [(AT, .inr (8, [.ref AT_al, .ref AT_kp, .ref AT_ik, .ref AT_rf, .long vT_ab, .long vT_be, .ref AT_hd, .ref AT_bs, .ref AT_se, .ref AT_bf, .ref AT_te, .ref AT_by, .int vT_byl, .int vT_tka, .int vT_tkl, .int vT_tkn, .int vT_val, .ref AT_an, .ref AT_vs])), (AT_al, .inl (cI, 312, .inl fT_al)), (AT_rf, .inl (cI, 3, .inl fT_rf))]
def fm_X8_wool (p1 : Int32) (p2 : Int32) (fT_al : Nat → Int32) (fT_rf : Nat → Int32) : Option (Int32 × (Nat → Int32) × (Nat → Int32)) := Option.bind (fm_X8_isSleeper p1 fT_al) (fun r_2 => if r_2 = 0 then (Option.bind (fm_X8_bad (-2) fT_rf) (fun r_18 => some (r_18.1, fT_al, r_18.2))) else (Option.bind (fm_X8_isWool p2) (fun r_9 => if r_9 = 0 then (Option.bind (fm_X8_bad (-2) fT_rf) (fun r_18 => some (r_18.1, fT_al, r_18.2))) else (gd (12 + p1) 312 (if (fT_al (Int32.toNatClampNeg (12 + p1))) = p2 then (Option.bind (fm_X8_no fT_rf) (fun r_38 => some (r_38.1, fT_al, r_38.2))) else (Option.bind (fm_X8_save fT_al) (fun r_43 => some ((fT_al (Int32.toNatClampNeg (12 + p1))), (upd r_43 (Int32.toNatClampNeg (12 + p1)) p2), fT_rf))))))))
set_option maxHeartbeats 4000000 in
set_option maxRecDepth 100000 in
theorem c_X8_wool (l : Launch) (D : va_G) (cI cZ : ClassId) (sz : Nat) (AT AT_al AT_kp AT_ik AT_rf AT_hd AT_bs AT_se AT_bf AT_te AT_by AT_an AT_vs : Nat) (vT_ab : Int64) (vT_be : Int64) (vT_byl : Int32) (vT_tka : Int32) (vT_tkl : Int32) (vT_tkn : Int32) (vT_val : Int32) (fT_al : Nat → Int32) (fT_rf : Nat → Int32) (p1 : Int32) (p2 : Int32) (out : (Int32 × (Nat → Int32) × (Nat → Int32))) (hm : fm_X8_wool p1 p2 fT_al fT_rf = some out) : Met l yX8_wool (Cond.code yX8_wool cX8_wool 4 (some .int) :: bg) { frames := 2, cells := 0, slots := 0, locals := 46 } (va_Pc [.ref AT, .int p1, .int p2] (q_pre D cI cZ sz (wd_X8_wool cI cZ AT AT_al AT_kp AT_ik AT_rf AT_hd AT_bs AT_se AT_bf AT_te AT_by AT_an AT_vs vT_ab vT_be vT_byl vT_tka vT_tkl vT_tkn vT_val fT_al fT_rf))) (q_Qi D (wd_X8_wool cI cZ AT AT_al AT_kp AT_ik AT_rf AT_hd AT_bs AT_se AT_bf AT_te AT_by AT_an AT_vs vT_ab vT_be vT_byl vT_tka vT_tkl vT_tkn vT_val out.2.1 out.2.2) out.1 (va_A (wd_X8_wool cI cZ AT AT_al AT_kp AT_ik AT_rf AT_hd AT_bs AT_se AT_bf AT_te AT_by AT_an AT_vs vT_ab vT_be vT_byl vT_tka vT_tkl vT_tkn vT_val fT_al fT_rf) sz)) 0 0 (va_A (wd_X8_wool cI cZ AT AT_al AT_kp AT_ik AT_rf AT_hd AT_bs AT_se AT_bf AT_te AT_by AT_an AT_vs vT_ab vT_be vT_byl vT_tka vT_tkl vT_tkn vT_val fT_al fT_rf) sz) := by
  refine q_met (fun A => q_Qi D (wd_X8_wool cI cZ AT AT_al AT_kp AT_ik AT_rf AT_hd AT_bs AT_se AT_bf AT_te AT_by AT_an AT_vs vT_ab vT_be vT_byl vT_tka vT_tkl vT_tkn vT_val out.2.1 out.2.2) out.1 A) (by decide) (Nat.le_of_ble_eq_true rfl) ?_
  intro p e s m below meth c ls A hx hb hr hml hown hts hlocks _ hA hS hP hD hK hN hl
  have hown : s.vm.findClass RX8 = some m.cls := hown
  have hl : lv_has ls 4 [(0, .ref AT), (1, .int p1), (2, .int p2)] := hl
  unfold fm_X8_wool at hm
  refine q_gen hS hP ?_
  intro H locs hP hS
  refine lv_aload_n hx hb dX8_wool_0 rfl (lv_at hl 0 rfl) ?_
  refine lv_iload_n hx hb dX8_wool_1 rfl (lv_at hl 1 rfl) ?_
  obtain ⟨r_2, hc_2, hm⟩ := ob_s hm
  refine q_ci (q_rv (rest := []) ⟨hx, hb, hml, hown, hts⟩ hK hN hP hD (c_X8_isSleeper l D cI cZ H.size AT AT_al AT_kp AT_ik AT_rf AT_hd AT_bs AT_se AT_bf AT_te AT_by AT_an AT_vs vT_ab vT_be vT_byl vT_tka vT_tkl vT_tkn vT_val fT_al p1 r_2 hc_2) mb_X8_isSleeper mv_X8_isSleeper wl_X8_132 [0, 1] rfl rfl rfl (Nat.le_of_ble_eq_true rfl) (Nat.le_of_ble_eq_true rfl) rfl hl.1 rfl (Nat.le_of_ble_eq_true rfl) ⟨Nat.le_refl 0, Nat.le_refl 0⟩ dX8_wool_2) hP hD hS hA [0, 1] rfl rfl (fun H locs hP hD hS => ?_)
  have hP : va_P D vwCl (wd_X8_wool cI cZ AT AT_al AT_kp AT_ik AT_rf AT_hd AT_bs AT_se AT_bf AT_te AT_by AT_an AT_vs vT_ab vT_be vT_byl vT_tka vT_tkl vT_tkn vT_val fT_al fT_rf) H := hP
  have hD : va_D A (wd_X8_wool cI cZ AT AT_al AT_kp AT_ik AT_rf AT_hd AT_bs AT_se AT_bf AT_te AT_by AT_an AT_vs vT_ab vT_be vT_byl vT_tka vT_tkl vT_tkn vT_val fT_al fT_rf) := hD
  refine lv_if_eq (tgt := 15) hx hb dX8_wool_5 (by decide) (fun c_5 => ?_) (fun c_5 => ?_)
  · have hm := it_s c_5 hm
    refine lv_aload_n hx hb dX8_wool_15 rfl (lv_at hl 0 rfl) ?_
    refine lv_bipush (v := (-2)) hx hb dX8_wool_16 (by decide) ?_
    obtain ⟨r_18, hc_18, hm⟩ := ob_s hm
    refine q_ci (q_rv (rest := []) ⟨hx, hb, hml, hown, hts⟩ hK hN hP hD (c_X8_bad l D cI cZ H.size AT AT_al AT_kp AT_ik AT_rf AT_hd AT_bs AT_se AT_bf AT_te AT_by AT_an AT_vs vT_ab vT_be vT_byl vT_tka vT_tkl vT_tkn vT_val fT_rf (-2) r_18 hc_18) mb_X8_bad mv_X8_bad wl_X8_75 [0, 2] rfl rfl rfl (Nat.le_of_ble_eq_true rfl) (Nat.le_of_ble_eq_true rfl) rfl hl.1 rfl (Nat.le_of_ble_eq_true rfl) ⟨Nat.le_refl 0, Nat.le_refl 0⟩ dX8_wool_18) hP hD hS hA [0, 2] rfl rfl (fun H locs hP hD hS => ?_)
    have hP : va_P D vwCl (wd_X8_wool cI cZ AT AT_al AT_kp AT_ik AT_rf AT_hd AT_bs AT_se AT_bf AT_te AT_by AT_an AT_vs vT_ab vT_be vT_byl vT_tka vT_tkl vT_tkn vT_val fT_al r_18.2) H := hP
    have hD : va_D A (wd_X8_wool cI cZ AT AT_al AT_kp AT_ik AT_rf AT_hd AT_bs AT_se AT_bf AT_te AT_by AT_an AT_vs vT_ab vT_be vT_byl vT_tka vT_tkl vT_tkn vT_val fT_al r_18.2) := hD
    have hm := Option.some.inj hm
    subst hm
    exact q_iret (v := r_18.1) hx hb hr hlocks hP hS dX8_wool_21
  · have hm := it_n c_5 hm
    refine lv_iload_n hx hb dX8_wool_8 rfl (lv_at hl 2 rfl) ?_
    obtain ⟨r_9, hc_9, hm⟩ := ob_s hm
    refine q_ci (q_rs (rest := []) ⟨hx, hb, hml, hown, hts⟩ hK hN hP hD (c_X8_isWool l D cI cZ H.size p2 r_9 hc_9) mb_X8_isWool wt_X8_isWool wl_X8_135 [] rfl rfl (Nat.le_of_ble_eq_true rfl) (Nat.le_of_ble_eq_true rfl) rfl hl.1 rfl (Nat.le_of_ble_eq_true rfl) ⟨Nat.le_refl 0, Nat.le_refl 0⟩ dX8_wool_9) hP hD hS hA [] rfl rfl (fun H locs hP hD hS => ?_)
    have hP : va_P D vwCl (wd_X8_wool cI cZ AT AT_al AT_kp AT_ik AT_rf AT_hd AT_bs AT_se AT_bf AT_te AT_by AT_an AT_vs vT_ab vT_be vT_byl vT_tka vT_tkl vT_tkn vT_val fT_al fT_rf) H := hP
    have hD : va_D A (wd_X8_wool cI cZ AT AT_al AT_kp AT_ik AT_rf AT_hd AT_bs AT_se AT_bf AT_te AT_by AT_an AT_vs vT_ab vT_be vT_byl vT_tka vT_tkl vT_tkn vT_val fT_al fT_rf) := hD
    refine lv_if_ne (tgt := 22) hx hb dX8_wool_12 (by decide) (fun c_12 => ?_) (fun c_12 => ?_)
    · have hm := it_n c_12 hm
      refine lv_aload_n hx hb dX8_wool_22 rfl (lv_at hl 0 rfl) ?_
      refine gf_X8_7 (v := .ref AT_al) hx hb hts hown hK hN hP 0 rfl rfl dX8_wool_23 ?_
      refine lv_bipush (v := 12) hx hb dX8_wool_26 (by decide) ?_
      refine lv_iload_n hx hb dX8_wool_28 rfl (lv_at hl 1 rfl) ?_
      refine lv_iadd hx hb dX8_wool_29 ?_
      obtain ⟨hi_30, hm⟩ := gd_s hm
      refine q_iald (j := (Int32.toNatClampNeg (12 + p1))) hx hb hK hP 1 rfl hi_30 rfl dX8_wool_30 ?_
      refine lv_istore_n (lv' := [(3, .int (fT_al (Int32.toNatClampNeg (12 + p1)))), (0, .ref AT), (1, .int p1), (2, .int p2)]) hx hb dX8_wool_31 rfl hl (by decide) rfl (fun ls hl => ?_)
      refine lv_iload_n hx hb dX8_wool_32 rfl (lv_at hl 0 rfl) ?_
      refine lv_iload_n hx hb dX8_wool_33 rfl (lv_at hl 3 rfl) ?_
      refine lv_icmp_ne (tgt := 42) hx hb dX8_wool_34 (by decide) (fun c_34 => ?_) (fun c_34 => ?_)
      · have hm := it_n c_34 hm
        refine lv_aload_n hx hb dX8_wool_42 rfl (lv_at hl 1 rfl) ?_
        obtain ⟨r_43, hc_43, hm⟩ := ob_s hm
        refine q_cv (q_rv (rest := []) ⟨hx, hb, hml, hown, hts⟩ hK hN hP hD (c_X8_save l D cI cZ H.size AT AT_al AT_kp AT_ik AT_rf AT_hd AT_bs AT_se AT_bf AT_te AT_by AT_an AT_vs vT_ab vT_be vT_byl vT_tka vT_tkl vT_tkn vT_val fT_al r_43 hc_43) mb_X8_save mv_X8_save wl_X8_115 [0, 1] rfl rfl rfl (Nat.le_of_ble_eq_true rfl) (Nat.le_of_ble_eq_true rfl) rfl hl.1 rfl (Nat.le_of_ble_eq_true rfl) ⟨Nat.le_refl 0, Nat.le_refl 0⟩ dX8_wool_43) hP hD hS hA [0, 1] rfl rfl (fun H locs hP hD hS => ?_)
        have hP : va_P D vwCl (wd_X8_wool cI cZ AT AT_al AT_kp AT_ik AT_rf AT_hd AT_bs AT_se AT_bf AT_te AT_by AT_an AT_vs vT_ab vT_be vT_byl vT_tka vT_tkl vT_tkn vT_val r_43 fT_rf) H := hP
        have hD : va_D A (wd_X8_wool cI cZ AT AT_al AT_kp AT_ik AT_rf AT_hd AT_bs AT_se AT_bf AT_te AT_by AT_an AT_vs vT_ab vT_be vT_byl vT_tka vT_tkl vT_tkn vT_val r_43 fT_rf) := hD
        refine lv_aload_n hx hb dX8_wool_46 rfl (lv_at hl 1 rfl) ?_
        refine gf_X8_7 (v := .ref AT_al) hx hb hts hown hK hN hP 0 rfl rfl dX8_wool_47 ?_
        refine lv_bipush (v := 12) hx hb dX8_wool_50 (by decide) ?_
        refine lv_iload_n hx hb dX8_wool_52 rfl (lv_at hl 2 rfl) ?_
        refine lv_iadd hx hb dX8_wool_53 ?_
        refine lv_iload_n hx hb dX8_wool_54 rfl (lv_at hl 3 rfl) ?_
        refine q_iast (j := (Int32.toNatClampNeg (12 + p1))) hx hb hK hP hD hS 1 rfl hi_30 rfl dX8_wool_55 (fun H locs hP hD hS => ?_)
        have hP : va_P D vwCl (wd_X8_wool cI cZ AT AT_al AT_kp AT_ik AT_rf AT_hd AT_bs AT_se AT_bf AT_te AT_by AT_an AT_vs vT_ab vT_be vT_byl vT_tka vT_tkl vT_tkn vT_val (upd r_43 (Int32.toNatClampNeg (12 + p1)) p2) fT_rf) H := hP
        have hD : va_D A (wd_X8_wool cI cZ AT AT_al AT_kp AT_ik AT_rf AT_hd AT_bs AT_se AT_bf AT_te AT_by AT_an AT_vs vT_ab vT_be vT_byl vT_tka vT_tkl vT_tkn vT_val (upd r_43 (Int32.toNatClampNeg (12 + p1)) p2) fT_rf) := hD
        refine lv_iload_n hx hb dX8_wool_56 rfl (lv_at hl 0 rfl) ?_
        have hm := Option.some.inj hm
        subst hm
        exact q_iret (v := (fT_al (Int32.toNatClampNeg (12 + p1)))) hx hb hr hlocks hP hS dX8_wool_57
      · have hm := it_s c_34 hm
        refine lv_aload_n hx hb dX8_wool_37 rfl (lv_at hl 1 rfl) ?_
        obtain ⟨r_38, hc_38, hm⟩ := ob_s hm
        refine q_ci (q_rv (rest := []) ⟨hx, hb, hml, hown, hts⟩ hK hN hP hD (c_X8_no l D cI cZ H.size AT AT_al AT_kp AT_ik AT_rf AT_hd AT_bs AT_se AT_bf AT_te AT_by AT_an AT_vs vT_ab vT_be vT_byl vT_tka vT_tkl vT_tkn vT_val fT_rf r_38 hc_38) mb_X8_no mv_X8_no wl_X8_126 [0, 2] rfl rfl rfl (Nat.le_of_ble_eq_true rfl) (Nat.le_of_ble_eq_true rfl) rfl hl.1 rfl (Nat.le_of_ble_eq_true rfl) ⟨Nat.le_refl 0, Nat.le_refl 0⟩ dX8_wool_38) hP hD hS hA [0, 2] rfl rfl (fun H locs hP hD hS => ?_)
        have hP : va_P D vwCl (wd_X8_wool cI cZ AT AT_al AT_kp AT_ik AT_rf AT_hd AT_bs AT_se AT_bf AT_te AT_by AT_an AT_vs vT_ab vT_be vT_byl vT_tka vT_tkl vT_tkn vT_val fT_al r_38.2) H := hP
        have hD : va_D A (wd_X8_wool cI cZ AT AT_al AT_kp AT_ik AT_rf AT_hd AT_bs AT_se AT_bf AT_te AT_by AT_an AT_vs vT_ab vT_be vT_byl vT_tka vT_tkl vT_tkn vT_val fT_al r_38.2) := hD
        have hm := Option.some.inj hm
        subst hm
        exact q_iret (v := r_38.1) hx hb hr hlocks hP hS dX8_wool_41
    · have hm := it_s c_12 hm
      refine lv_aload_n hx hb dX8_wool_15 rfl (lv_at hl 0 rfl) ?_
      refine lv_bipush (v := (-2)) hx hb dX8_wool_16 (by decide) ?_
      obtain ⟨r_18, hc_18, hm⟩ := ob_s hm
      refine q_ci (q_rv (rest := []) ⟨hx, hb, hml, hown, hts⟩ hK hN hP hD (c_X8_bad l D cI cZ H.size AT AT_al AT_kp AT_ik AT_rf AT_hd AT_bs AT_se AT_bf AT_te AT_by AT_an AT_vs vT_ab vT_be vT_byl vT_tka vT_tkl vT_tkn vT_val fT_rf (-2) r_18 hc_18) mb_X8_bad mv_X8_bad wl_X8_75 [0, 2] rfl rfl rfl (Nat.le_of_ble_eq_true rfl) (Nat.le_of_ble_eq_true rfl) rfl hl.1 rfl (Nat.le_of_ble_eq_true rfl) ⟨Nat.le_refl 0, Nat.le_refl 0⟩ dX8_wool_18) hP hD hS hA [0, 2] rfl rfl (fun H locs hP hD hS => ?_)
      have hP : va_P D vwCl (wd_X8_wool cI cZ AT AT_al AT_kp AT_ik AT_rf AT_hd AT_bs AT_se AT_bf AT_te AT_by AT_an AT_vs vT_ab vT_be vT_byl vT_tka vT_tkl vT_tkn vT_val fT_al r_18.2) H := hP
      have hD : va_D A (wd_X8_wool cI cZ AT AT_al AT_kp AT_ik AT_rf AT_hd AT_bs AT_se AT_bf AT_te AT_by AT_an AT_vs vT_ab vT_be vT_byl vT_tka vT_tkl vT_tkn vT_val fT_al r_18.2) := hD
      have hm := Option.some.inj hm
      subst hm
      exact q_iret (v := r_18.1) hx hb hr hlocks hP hS dX8_wool_21
theorem mb_X8_sends : q_mb yX8_sends cX8_sends 4 (some .int) 2 := ⟨wc_X8_sends, wn_X8, by decide, by decide, by decide +kernel⟩
theorem mv_X8_sends : q_mv yX8_sends 8 := ⟨wi_X8_sends, ws_X8_sends, _, rfl, rfl⟩
def wd_X8_sends (cI cZ : ClassId) (AT AT_al AT_kp AT_ik AT_rf AT_hd AT_bs AT_se AT_bf AT_te AT_by AT_an AT_vs : Nat) (vT_ab : Int64) (vT_be : Int64) (vT_byl : Int32) (vT_tka : Int32) (vT_tkl : Int32) (vT_tkn : Int32) (vT_val : Int32) (fT_al : Nat → Int32) (fT_rf : Nat → Int32) : va_W := [(AT, .inr (8, [.ref AT_al, .ref AT_kp, .ref AT_ik, .ref AT_rf, .long vT_ab, .long vT_be, .ref AT_hd, .ref AT_bs, .ref AT_se, .ref AT_bf, .ref AT_te, .ref AT_by, .int vT_byl, .int vT_tka, .int vT_tkl, .int vT_tkn, .int vT_val, .ref AT_an, .ref AT_vs])), (AT_al, .inl (cI, 312, .inl fT_al)), (AT_rf, .inl (cI, 3, .inl fT_rf))]
def fm_X8_sends (p1 : Int32) (p2 : Int32) (fT_al : Nat → Int32) (fT_rf : Nat → Int32) : Option (Int32 × (Nat → Int32) × (Nat → Int32)) := Option.bind (fm_X8_isFlower p1 fT_al) (fun r_2 => if r_2 = 0 then (Option.bind (fm_X8_bad (-2) fT_rf) (fun r_18 => some (r_18.1, fT_al, r_18.2))) else (Option.bind (fm_X8_isPillow p2) (fun r_9 => if r_9 = 0 then (Option.bind (fm_X8_bad (-2) fT_rf) (fun r_18 => some (r_18.1, fT_al, r_18.2))) else (gd (24 + p1) 312 (if (fT_al (Int32.toNatClampNeg (24 + p1))) = p2 then (Option.bind (fm_X8_no fT_rf) (fun r_38 => some (r_38.1, fT_al, r_38.2))) else (Option.bind (fm_X8_save fT_al) (fun r_43 => some ((fT_al (Int32.toNatClampNeg (24 + p1))), (upd r_43 (Int32.toNatClampNeg (24 + p1)) p2), fT_rf))))))))
set_option maxHeartbeats 4000000 in
set_option maxRecDepth 100000 in
theorem c_X8_sends (l : Launch) (D : va_G) (cI cZ : ClassId) (sz : Nat) (AT AT_al AT_kp AT_ik AT_rf AT_hd AT_bs AT_se AT_bf AT_te AT_by AT_an AT_vs : Nat) (vT_ab : Int64) (vT_be : Int64) (vT_byl : Int32) (vT_tka : Int32) (vT_tkl : Int32) (vT_tkn : Int32) (vT_val : Int32) (fT_al : Nat → Int32) (fT_rf : Nat → Int32) (p1 : Int32) (p2 : Int32) (out : (Int32 × (Nat → Int32) × (Nat → Int32))) (hm : fm_X8_sends p1 p2 fT_al fT_rf = some out) : Met l yX8_sends (Cond.code yX8_sends cX8_sends 4 (some .int) :: bg) { frames := 2, cells := 0, slots := 0, locals := 46 } (va_Pc [.ref AT, .int p1, .int p2] (q_pre D cI cZ sz (wd_X8_sends cI cZ AT AT_al AT_kp AT_ik AT_rf AT_hd AT_bs AT_se AT_bf AT_te AT_by AT_an AT_vs vT_ab vT_be vT_byl vT_tka vT_tkl vT_tkn vT_val fT_al fT_rf))) (q_Qi D (wd_X8_sends cI cZ AT AT_al AT_kp AT_ik AT_rf AT_hd AT_bs AT_se AT_bf AT_te AT_by AT_an AT_vs vT_ab vT_be vT_byl vT_tka vT_tkl vT_tkn vT_val out.2.1 out.2.2) out.1 (va_A (wd_X8_sends cI cZ AT AT_al AT_kp AT_ik AT_rf AT_hd AT_bs AT_se AT_bf AT_te AT_by AT_an AT_vs vT_ab vT_be vT_byl vT_tka vT_tkl vT_tkn vT_val fT_al fT_rf) sz)) 0 0 (va_A (wd_X8_sends cI cZ AT AT_al AT_kp AT_ik AT_rf AT_hd AT_bs AT_se AT_bf AT_te AT_by AT_an AT_vs vT_ab vT_be vT_byl vT_tka vT_tkl vT_tkn vT_val fT_al fT_rf) sz) := by
  refine q_met (fun A => q_Qi D (wd_X8_sends cI cZ AT AT_al AT_kp AT_ik AT_rf AT_hd AT_bs AT_se AT_bf AT_te AT_by AT_an AT_vs vT_ab vT_be vT_byl vT_tka vT_tkl vT_tkn vT_val out.2.1 out.2.2) out.1 A) (by decide) (Nat.le_of_ble_eq_true rfl) ?_
  intro p e s m below meth c ls A hx hb hr hml hown hts hlocks _ hA hS hP hD hK hN hl
  have hown : s.vm.findClass RX8 = some m.cls := hown
  have hl : lv_has ls 4 [(0, .ref AT), (1, .int p1), (2, .int p2)] := hl
  unfold fm_X8_sends at hm
  refine q_gen hS hP ?_
  intro H locs hP hS
  refine lv_aload_n hx hb dX8_sends_0 rfl (lv_at hl 0 rfl) ?_
  refine lv_iload_n hx hb dX8_sends_1 rfl (lv_at hl 1 rfl) ?_
  obtain ⟨r_2, hc_2, hm⟩ := ob_s hm
  refine q_ci (q_rv (rest := []) ⟨hx, hb, hml, hown, hts⟩ hK hN hP hD (c_X8_isFlower l D cI cZ H.size AT AT_al AT_kp AT_ik AT_rf AT_hd AT_bs AT_se AT_bf AT_te AT_by AT_an AT_vs vT_ab vT_be vT_byl vT_tka vT_tkl vT_tkn vT_val fT_al p1 r_2 hc_2) mb_X8_isFlower mv_X8_isFlower wl_X8_138 [0, 1] rfl rfl rfl (Nat.le_of_ble_eq_true rfl) (Nat.le_of_ble_eq_true rfl) rfl hl.1 rfl (Nat.le_of_ble_eq_true rfl) ⟨Nat.le_refl 0, Nat.le_refl 0⟩ dX8_sends_2) hP hD hS hA [0, 1] rfl rfl (fun H locs hP hD hS => ?_)
  have hP : va_P D vwCl (wd_X8_sends cI cZ AT AT_al AT_kp AT_ik AT_rf AT_hd AT_bs AT_se AT_bf AT_te AT_by AT_an AT_vs vT_ab vT_be vT_byl vT_tka vT_tkl vT_tkn vT_val fT_al fT_rf) H := hP
  have hD : va_D A (wd_X8_sends cI cZ AT AT_al AT_kp AT_ik AT_rf AT_hd AT_bs AT_se AT_bf AT_te AT_by AT_an AT_vs vT_ab vT_be vT_byl vT_tka vT_tkl vT_tkn vT_val fT_al fT_rf) := hD
  refine lv_if_eq (tgt := 15) hx hb dX8_sends_5 (by decide) (fun c_5 => ?_) (fun c_5 => ?_)
  · have hm := it_s c_5 hm
    refine lv_aload_n hx hb dX8_sends_15 rfl (lv_at hl 0 rfl) ?_
    refine lv_bipush (v := (-2)) hx hb dX8_sends_16 (by decide) ?_
    obtain ⟨r_18, hc_18, hm⟩ := ob_s hm
    refine q_ci (q_rv (rest := []) ⟨hx, hb, hml, hown, hts⟩ hK hN hP hD (c_X8_bad l D cI cZ H.size AT AT_al AT_kp AT_ik AT_rf AT_hd AT_bs AT_se AT_bf AT_te AT_by AT_an AT_vs vT_ab vT_be vT_byl vT_tka vT_tkl vT_tkn vT_val fT_rf (-2) r_18 hc_18) mb_X8_bad mv_X8_bad wl_X8_75 [0, 2] rfl rfl rfl (Nat.le_of_ble_eq_true rfl) (Nat.le_of_ble_eq_true rfl) rfl hl.1 rfl (Nat.le_of_ble_eq_true rfl) ⟨Nat.le_refl 0, Nat.le_refl 0⟩ dX8_sends_18) hP hD hS hA [0, 2] rfl rfl (fun H locs hP hD hS => ?_)
    have hP : va_P D vwCl (wd_X8_sends cI cZ AT AT_al AT_kp AT_ik AT_rf AT_hd AT_bs AT_se AT_bf AT_te AT_by AT_an AT_vs vT_ab vT_be vT_byl vT_tka vT_tkl vT_tkn vT_val fT_al r_18.2) H := hP
    have hD : va_D A (wd_X8_sends cI cZ AT AT_al AT_kp AT_ik AT_rf AT_hd AT_bs AT_se AT_bf AT_te AT_by AT_an AT_vs vT_ab vT_be vT_byl vT_tka vT_tkl vT_tkn vT_val fT_al r_18.2) := hD
    have hm := Option.some.inj hm
    subst hm
    exact q_iret (v := r_18.1) hx hb hr hlocks hP hS dX8_sends_21
  · have hm := it_n c_5 hm
    refine lv_iload_n hx hb dX8_sends_8 rfl (lv_at hl 2 rfl) ?_
    obtain ⟨r_9, hc_9, hm⟩ := ob_s hm
    refine q_ci (q_rs (rest := []) ⟨hx, hb, hml, hown, hts⟩ hK hN hP hD (c_X8_isPillow l D cI cZ H.size p2 r_9 hc_9) mb_X8_isPillow wt_X8_isPillow wl_X8_89 [] rfl rfl (Nat.le_of_ble_eq_true rfl) (Nat.le_of_ble_eq_true rfl) rfl hl.1 rfl (Nat.le_of_ble_eq_true rfl) ⟨Nat.le_refl 0, Nat.le_refl 0⟩ dX8_sends_9) hP hD hS hA [] rfl rfl (fun H locs hP hD hS => ?_)
    have hP : va_P D vwCl (wd_X8_sends cI cZ AT AT_al AT_kp AT_ik AT_rf AT_hd AT_bs AT_se AT_bf AT_te AT_by AT_an AT_vs vT_ab vT_be vT_byl vT_tka vT_tkl vT_tkn vT_val fT_al fT_rf) H := hP
    have hD : va_D A (wd_X8_sends cI cZ AT AT_al AT_kp AT_ik AT_rf AT_hd AT_bs AT_se AT_bf AT_te AT_by AT_an AT_vs vT_ab vT_be vT_byl vT_tka vT_tkl vT_tkn vT_val fT_al fT_rf) := hD
    refine lv_if_ne (tgt := 22) hx hb dX8_sends_12 (by decide) (fun c_12 => ?_) (fun c_12 => ?_)
    · have hm := it_n c_12 hm
      refine lv_aload_n hx hb dX8_sends_22 rfl (lv_at hl 0 rfl) ?_
      refine gf_X8_7 (v := .ref AT_al) hx hb hts hown hK hN hP 0 rfl rfl dX8_sends_23 ?_
      refine lv_bipush (v := 24) hx hb dX8_sends_26 (by decide) ?_
      refine lv_iload_n hx hb dX8_sends_28 rfl (lv_at hl 1 rfl) ?_
      refine lv_iadd hx hb dX8_sends_29 ?_
      obtain ⟨hi_30, hm⟩ := gd_s hm
      refine q_iald (j := (Int32.toNatClampNeg (24 + p1))) hx hb hK hP 1 rfl hi_30 rfl dX8_sends_30 ?_
      refine lv_istore_n (lv' := [(3, .int (fT_al (Int32.toNatClampNeg (24 + p1)))), (0, .ref AT), (1, .int p1), (2, .int p2)]) hx hb dX8_sends_31 rfl hl (by decide) rfl (fun ls hl => ?_)
      refine lv_iload_n hx hb dX8_sends_32 rfl (lv_at hl 0 rfl) ?_
      refine lv_iload_n hx hb dX8_sends_33 rfl (lv_at hl 3 rfl) ?_
      refine lv_icmp_ne (tgt := 42) hx hb dX8_sends_34 (by decide) (fun c_34 => ?_) (fun c_34 => ?_)
      · have hm := it_n c_34 hm
        refine lv_aload_n hx hb dX8_sends_42 rfl (lv_at hl 1 rfl) ?_
        obtain ⟨r_43, hc_43, hm⟩ := ob_s hm
        refine q_cv (q_rv (rest := []) ⟨hx, hb, hml, hown, hts⟩ hK hN hP hD (c_X8_save l D cI cZ H.size AT AT_al AT_kp AT_ik AT_rf AT_hd AT_bs AT_se AT_bf AT_te AT_by AT_an AT_vs vT_ab vT_be vT_byl vT_tka vT_tkl vT_tkn vT_val fT_al r_43 hc_43) mb_X8_save mv_X8_save wl_X8_115 [0, 1] rfl rfl rfl (Nat.le_of_ble_eq_true rfl) (Nat.le_of_ble_eq_true rfl) rfl hl.1 rfl (Nat.le_of_ble_eq_true rfl) ⟨Nat.le_refl 0, Nat.le_refl 0⟩ dX8_sends_43) hP hD hS hA [0, 1] rfl rfl (fun H locs hP hD hS => ?_)
        have hP : va_P D vwCl (wd_X8_sends cI cZ AT AT_al AT_kp AT_ik AT_rf AT_hd AT_bs AT_se AT_bf AT_te AT_by AT_an AT_vs vT_ab vT_be vT_byl vT_tka vT_tkl vT_tkn vT_val r_43 fT_rf) H := hP
        have hD : va_D A (wd_X8_sends cI cZ AT AT_al AT_kp AT_ik AT_rf AT_hd AT_bs AT_se AT_bf AT_te AT_by AT_an AT_vs vT_ab vT_be vT_byl vT_tka vT_tkl vT_tkn vT_val r_43 fT_rf) := hD
        refine lv_aload_n hx hb dX8_sends_46 rfl (lv_at hl 1 rfl) ?_
        refine gf_X8_7 (v := .ref AT_al) hx hb hts hown hK hN hP 0 rfl rfl dX8_sends_47 ?_
        refine lv_bipush (v := 24) hx hb dX8_sends_50 (by decide) ?_
        refine lv_iload_n hx hb dX8_sends_52 rfl (lv_at hl 2 rfl) ?_
        refine lv_iadd hx hb dX8_sends_53 ?_
        refine lv_iload_n hx hb dX8_sends_54 rfl (lv_at hl 3 rfl) ?_
        refine q_iast (j := (Int32.toNatClampNeg (24 + p1))) hx hb hK hP hD hS 1 rfl hi_30 rfl dX8_sends_55 (fun H locs hP hD hS => ?_)
        have hP : va_P D vwCl (wd_X8_sends cI cZ AT AT_al AT_kp AT_ik AT_rf AT_hd AT_bs AT_se AT_bf AT_te AT_by AT_an AT_vs vT_ab vT_be vT_byl vT_tka vT_tkl vT_tkn vT_val (upd r_43 (Int32.toNatClampNeg (24 + p1)) p2) fT_rf) H := hP
        have hD : va_D A (wd_X8_sends cI cZ AT AT_al AT_kp AT_ik AT_rf AT_hd AT_bs AT_se AT_bf AT_te AT_by AT_an AT_vs vT_ab vT_be vT_byl vT_tka vT_tkl vT_tkn vT_val (upd r_43 (Int32.toNatClampNeg (24 + p1)) p2) fT_rf) := hD
        refine lv_iload_n hx hb dX8_sends_56 rfl (lv_at hl 0 rfl) ?_
        have hm := Option.some.inj hm
        subst hm
        exact q_iret (v := (fT_al (Int32.toNatClampNeg (24 + p1)))) hx hb hr hlocks hP hS dX8_sends_57
      · have hm := it_s c_34 hm
        refine lv_aload_n hx hb dX8_sends_37 rfl (lv_at hl 1 rfl) ?_
        obtain ⟨r_38, hc_38, hm⟩ := ob_s hm
        refine q_ci (q_rv (rest := []) ⟨hx, hb, hml, hown, hts⟩ hK hN hP hD (c_X8_no l D cI cZ H.size AT AT_al AT_kp AT_ik AT_rf AT_hd AT_bs AT_se AT_bf AT_te AT_by AT_an AT_vs vT_ab vT_be vT_byl vT_tka vT_tkl vT_tkn vT_val fT_rf r_38 hc_38) mb_X8_no mv_X8_no wl_X8_126 [0, 2] rfl rfl rfl (Nat.le_of_ble_eq_true rfl) (Nat.le_of_ble_eq_true rfl) rfl hl.1 rfl (Nat.le_of_ble_eq_true rfl) ⟨Nat.le_refl 0, Nat.le_refl 0⟩ dX8_sends_38) hP hD hS hA [0, 2] rfl rfl (fun H locs hP hD hS => ?_)
        have hP : va_P D vwCl (wd_X8_sends cI cZ AT AT_al AT_kp AT_ik AT_rf AT_hd AT_bs AT_se AT_bf AT_te AT_by AT_an AT_vs vT_ab vT_be vT_byl vT_tka vT_tkl vT_tkn vT_val fT_al r_38.2) H := hP
        have hD : va_D A (wd_X8_sends cI cZ AT AT_al AT_kp AT_ik AT_rf AT_hd AT_bs AT_se AT_bf AT_te AT_by AT_an AT_vs vT_ab vT_be vT_byl vT_tka vT_tkl vT_tkn vT_val fT_al r_38.2) := hD
        have hm := Option.some.inj hm
        subst hm
        exact q_iret (v := r_38.1) hx hb hr hlocks hP hS dX8_sends_41
    · have hm := it_s c_12 hm
      refine lv_aload_n hx hb dX8_sends_15 rfl (lv_at hl 0 rfl) ?_
      refine lv_bipush (v := (-2)) hx hb dX8_sends_16 (by decide) ?_
      obtain ⟨r_18, hc_18, hm⟩ := ob_s hm
      refine q_ci (q_rv (rest := []) ⟨hx, hb, hml, hown, hts⟩ hK hN hP hD (c_X8_bad l D cI cZ H.size AT AT_al AT_kp AT_ik AT_rf AT_hd AT_bs AT_se AT_bf AT_te AT_by AT_an AT_vs vT_ab vT_be vT_byl vT_tka vT_tkl vT_tkn vT_val fT_rf (-2) r_18 hc_18) mb_X8_bad mv_X8_bad wl_X8_75 [0, 2] rfl rfl rfl (Nat.le_of_ble_eq_true rfl) (Nat.le_of_ble_eq_true rfl) rfl hl.1 rfl (Nat.le_of_ble_eq_true rfl) ⟨Nat.le_refl 0, Nat.le_refl 0⟩ dX8_sends_18) hP hD hS hA [0, 2] rfl rfl (fun H locs hP hD hS => ?_)
      have hP : va_P D vwCl (wd_X8_sends cI cZ AT AT_al AT_kp AT_ik AT_rf AT_hd AT_bs AT_se AT_bf AT_te AT_by AT_an AT_vs vT_ab vT_be vT_byl vT_tka vT_tkl vT_tkn vT_val fT_al r_18.2) H := hP
      have hD : va_D A (wd_X8_sends cI cZ AT AT_al AT_kp AT_ik AT_rf AT_hd AT_bs AT_se AT_bf AT_te AT_by AT_an AT_vs vT_ab vT_be vT_byl vT_tka vT_tkl vT_tkn vT_val fT_al r_18.2) := hD
      have hm := Option.some.inj hm
      subst hm
      exact q_iret (v := r_18.1) hx hb hr hlocks hP hS dX8_sends_21
theorem mb_X8_undo : q_mb yX8_undo cX8_undo 2 (some .int) 0 := ⟨wc_X8_undo, wn_X8, by decide, by decide, by decide +kernel⟩
theorem mv_X8_undo : q_mv yX8_undo 8 := ⟨wi_X8_undo, ws_X8_undo, _, rfl, rfl⟩
def wd_X8_undo (cI cZ : ClassId) (AT AT_al AT_kp AT_ik AT_rf AT_hd AT_bs AT_se AT_bf AT_te AT_by AT_an AT_vs : Nat) (vT_ab : Int64) (vT_be : Int64) (vT_byl : Int32) (vT_tka : Int32) (vT_tkl : Int32) (vT_tkn : Int32) (vT_val : Int32) (fT_al : Nat → Int32) (fT_rf : Nat → Int32) : va_W := [(AT, .inr (8, [.ref AT_al, .ref AT_kp, .ref AT_ik, .ref AT_rf, .long vT_ab, .long vT_be, .ref AT_hd, .ref AT_bs, .ref AT_se, .ref AT_bf, .ref AT_te, .ref AT_by, .int vT_byl, .int vT_tka, .int vT_tkl, .int vT_tkn, .int vT_val, .ref AT_an, .ref AT_vs])), (AT_al, .inl (cI, 312, .inl fT_al)), (AT_rf, .inl (cI, 3, .inl fT_rf))]
def fL_X8_undo_26 : Nat → Int32 → (Nat → Int32) → (Nat → Int32) → Option (Int32 × (Nat → Int32) × (Nat → Int32))
  | 0, _, _, _ => none
  | fu + 1, x1, fT_al, fT_rf => if 25 ≤ x1 then (some ((fT_al 30), fT_al, fT_rf)) else (gd ((112 + (25 * (fT_al 5))) + x1) 312 (gd (6 + x1) 312 (fL_X8_undo_26 fu (x1 + 1) (upd fT_al (Int32.toNatClampNeg (6 + x1)) (fT_al (Int32.toNatClampNeg ((112 + (25 * (fT_al 5))) + x1)))) fT_rf)))
def fm_X8_undo (fT_al : Nat → Int32) (fT_rf : Nat → Int32) : Option (Int32 × (Nat → Int32) × (Nat → Int32)) := if (fT_al 5) = 0 then (Option.bind (fm_X8_no fT_rf) (fun r_10 => some (r_10.1, fT_al, r_10.2))) else (fL_X8_undo_26 FU 0 (upd fT_al 5 ((fT_al 5) - 1)) fT_rf)
set_option maxHeartbeats 4000000 in
set_option maxRecDepth 100000 in
theorem c_X8_undo (l : Launch) (D : va_G) (cI cZ : ClassId) (sz : Nat) (AT AT_al AT_kp AT_ik AT_rf AT_hd AT_bs AT_se AT_bf AT_te AT_by AT_an AT_vs : Nat) (vT_ab : Int64) (vT_be : Int64) (vT_byl : Int32) (vT_tka : Int32) (vT_tkl : Int32) (vT_tkn : Int32) (vT_val : Int32) (fT_al : Nat → Int32) (fT_rf : Nat → Int32) (out : (Int32 × (Nat → Int32) × (Nat → Int32))) (hm : fm_X8_undo fT_al fT_rf = some out) : Met l yX8_undo (Cond.code yX8_undo cX8_undo 2 (some .int) :: bg) { frames := 1, cells := 0, slots := 0, locals := 20 } (va_Pc [.ref AT] (q_pre D cI cZ sz (wd_X8_undo cI cZ AT AT_al AT_kp AT_ik AT_rf AT_hd AT_bs AT_se AT_bf AT_te AT_by AT_an AT_vs vT_ab vT_be vT_byl vT_tka vT_tkl vT_tkn vT_val fT_al fT_rf))) (q_Qi D (wd_X8_undo cI cZ AT AT_al AT_kp AT_ik AT_rf AT_hd AT_bs AT_se AT_bf AT_te AT_by AT_an AT_vs vT_ab vT_be vT_byl vT_tka vT_tkl vT_tkn vT_val out.2.1 out.2.2) out.1 (va_A (wd_X8_undo cI cZ AT AT_al AT_kp AT_ik AT_rf AT_hd AT_bs AT_se AT_bf AT_te AT_by AT_an AT_vs vT_ab vT_be vT_byl vT_tka vT_tkl vT_tkn vT_val fT_al fT_rf) sz)) 0 0 (va_A (wd_X8_undo cI cZ AT AT_al AT_kp AT_ik AT_rf AT_hd AT_bs AT_se AT_bf AT_te AT_by AT_an AT_vs vT_ab vT_be vT_byl vT_tka vT_tkl vT_tkn vT_val fT_al fT_rf) sz) := by
  refine q_met (fun A => q_Qi D (wd_X8_undo cI cZ AT AT_al AT_kp AT_ik AT_rf AT_hd AT_bs AT_se AT_bf AT_te AT_by AT_an AT_vs vT_ab vT_be vT_byl vT_tka vT_tkl vT_tkn vT_val out.2.1 out.2.2) out.1 A) (by decide) (Nat.le_of_ble_eq_true rfl) ?_
  intro p e s m below meth c ls A hx hb hr hml hown hts hlocks _ hA hS hP hD hK hN hl
  have hown : s.vm.findClass RX8 = some m.cls := hown
  have hl : lv_has ls 2 [(0, .ref AT)] := hl
  have hL_26 : ∀ (fu_26 : Nat) (x1 : Int32) (fT_al : Nat → Int32) (fT_rf : Nat → Int32) (H : Heap) (locs : List Loc) (ls : Array Slot), fL_X8_undo_26 fu_26 x1 fT_al fT_rf = some out → va_P D vwCl (wd_X8_undo cI cZ AT AT_al AT_kp AT_ik AT_rf AT_hd AT_bs AT_se AT_bf AT_te AT_by AT_an AT_vs vT_ab vT_be vT_byl vT_tka vT_tkl vT_tkn vT_val fT_al fT_rf) H → va_D A (wd_X8_undo cI cZ AT AT_al AT_kp AT_ik AT_rf AT_hd AT_bs AT_se AT_bf AT_te AT_by AT_an AT_vs vT_ab vT_be vT_byl vT_tka vT_tkl vT_tkn vT_val fT_al fT_rf) → va_S A s.heap H locs → lv_has ls 2 [(1, .int x1), (0, .ref AT)] → W p l e { frames := 1, cells := 0, slots := 0, locals := 20 } s m ([.ref AT] : List Value).toArray below meth c H locs 0 0 (MQ below (q_Qi D (wd_X8_undo cI cZ AT AT_al AT_kp AT_ik AT_rf AT_hd AT_bs AT_se AT_bf AT_te AT_by AT_an AT_vs vT_ab vT_be vT_byl vT_tka vT_tkl vT_tkn vT_val out.2.1 out.2.2) out.1 A) ([.ref AT] : List Value).toArray s 0 0 A) (F0 m 26 ls []) := by
    intro fu_26
    induction fu_26 with
    | zero => intro x1 fT_al fT_rf H locs ls hm hP hD hS hl; exact absurd (show (none : Option (Int32 × (Nat → Int32) × (Nat → Int32))) = some out from hm) (fun h => nomatch h)
    | succ fu_26 ih_26 =>
      intro x1 fT_al fT_rf H locs ls hm hP hD hS hl
      rw [fL_X8_undo_26] at hm
      refine lv_iload_n hx hb dX8_undo_26 rfl (lv_at hl 0 rfl) ?_
      refine lv_bipush (v := 25) hx hb dX8_undo_27 (by decide) ?_
      refine lv_icmp_ge (tgt := 66) hx hb dX8_undo_29 (by decide) (fun c_29 => ?_) (fun c_29 => ?_)
      · have hm := it_s c_29 hm
        refine lv_aload_n hx hb dX8_undo_66 rfl (lv_at hl 1 rfl) ?_
        refine gf_X8_7 (v := .ref AT_al) hx hb hts hown hK hN hP 0 rfl rfl dX8_undo_67 ?_
        refine lv_bipush (v := 30) hx hb dX8_undo_70 (by decide) ?_
        refine q_iald (j := 30) hx hb hK hP 1 rfl (q_inl (by decide)) (by decide) dX8_undo_72 ?_
        have hm := Option.some.inj hm
        subst hm
        exact q_iret (v := (fT_al 30)) hx hb hr hlocks hP hS dX8_undo_73
      · have hm := it_n c_29 hm
        refine lv_aload_n hx hb dX8_undo_32 rfl (lv_at hl 1 rfl) ?_
        refine gf_X8_7 (v := .ref AT_al) hx hb hts hown hK hN hP 0 rfl rfl dX8_undo_33 ?_
        refine lv_bipush (v := 6) hx hb dX8_undo_36 (by decide) ?_
        refine lv_iload_n hx hb dX8_undo_38 rfl (lv_at hl 0 rfl) ?_
        refine lv_iadd hx hb dX8_undo_39 ?_
        refine lv_aload_n hx hb dX8_undo_40 rfl (lv_at hl 1 rfl) ?_
        refine gf_X8_7 (v := .ref AT_al) hx hb hts hown hK hN hP 0 rfl rfl dX8_undo_41 ?_
        refine lv_bipush (v := 112) hx hb dX8_undo_44 (by decide) ?_
        refine lv_bipush (v := 25) hx hb dX8_undo_46 (by decide) ?_
        refine lv_aload_n hx hb dX8_undo_48 rfl (lv_at hl 1 rfl) ?_
        refine gf_X8_7 (v := .ref AT_al) hx hb hts hown hK hN hP 0 rfl rfl dX8_undo_49 ?_
        refine lv_iconst (v := 5) hx hb dX8_undo_52 (by decide) ?_
        refine q_iald (j := 5) hx hb hK hP 1 rfl (q_inl (by decide)) (by decide) dX8_undo_53 ?_
        refine lv_imul hx hb dX8_undo_54 ?_
        refine lv_iadd hx hb dX8_undo_55 ?_
        refine lv_iload_n hx hb dX8_undo_56 rfl (lv_at hl 0 rfl) ?_
        refine lv_iadd hx hb dX8_undo_57 ?_
        obtain ⟨hi_58, hm⟩ := gd_s hm
        refine q_iald (j := (Int32.toNatClampNeg ((112 + (25 * (fT_al 5))) + x1))) hx hb hK hP 1 rfl hi_58 rfl dX8_undo_58 ?_
        obtain ⟨hi_59, hm⟩ := gd_s hm
        refine q_iast (j := (Int32.toNatClampNeg (6 + x1))) hx hb hK hP hD hS 1 rfl hi_59 rfl dX8_undo_59 (fun H locs hP hD hS => ?_)
        have hP : va_P D vwCl (wd_X8_undo cI cZ AT AT_al AT_kp AT_ik AT_rf AT_hd AT_bs AT_se AT_bf AT_te AT_by AT_an AT_vs vT_ab vT_be vT_byl vT_tka vT_tkl vT_tkn vT_val (upd fT_al (Int32.toNatClampNeg (6 + x1)) (fT_al (Int32.toNatClampNeg ((112 + (25 * (fT_al 5))) + x1)))) fT_rf) H := hP
        have hD : va_D A (wd_X8_undo cI cZ AT AT_al AT_kp AT_ik AT_rf AT_hd AT_bs AT_se AT_bf AT_te AT_by AT_an AT_vs vT_ab vT_be vT_byl vT_tka vT_tkl vT_tkn vT_val (upd fT_al (Int32.toNatClampNeg (6 + x1)) (fT_al (Int32.toNatClampNeg ((112 + (25 * (fT_al 5))) + x1)))) fT_rf) := hD
        refine lv_iinc (v := (x1 + 1)) (lv' := [(1, .int (x1 + 1)), (0, .ref AT)]) hx hb dX8_undo_60 hl (k := 0) rfl rfl (by decide) rfl (fun ls hl => ?_)
        refine lv_goto (tgt := 26) hx hb dX8_undo_63 (by decide) ?_
        exact ih_26 (x1 + 1) (upd fT_al (Int32.toNatClampNeg (6 + x1)) (fT_al (Int32.toNatClampNeg ((112 + (25 * (fT_al 5))) + x1)))) fT_rf H locs ls hm hP hD hS (lv_sub hl [0, 1] rfl)
  unfold fm_X8_undo at hm
  refine q_gen hS hP ?_
  intro H locs hP hS
  refine lv_aload_n hx hb dX8_undo_0 rfl (lv_at hl 0 rfl) ?_
  refine gf_X8_7 (v := .ref AT_al) hx hb hts hown hK hN hP 0 rfl rfl dX8_undo_1 ?_
  refine lv_iconst (v := 5) hx hb dX8_undo_4 (by decide) ?_
  refine q_iald (j := 5) hx hb hK hP 1 rfl (q_inl (by decide)) (by decide) dX8_undo_5 ?_
  refine lv_if_ne (tgt := 14) hx hb dX8_undo_6 (by decide) (fun c_6 => ?_) (fun c_6 => ?_)
  · have hm := it_n c_6 hm
    refine lv_aload_n hx hb dX8_undo_14 rfl (lv_at hl 0 rfl) ?_
    refine gf_X8_7 (v := .ref AT_al) hx hb hts hown hK hN hP 0 rfl rfl dX8_undo_15 ?_
    refine lv_iconst (v := 5) hx hb dX8_undo_18 (by decide) ?_
    refine lv_dup2_11 hx hb dX8_undo_19 rfl rfl ?_
    refine q_iald (j := 5) hx hb hK hP 1 rfl (q_inl (by decide)) (by decide) dX8_undo_20 ?_
    refine lv_iconst (v := 1) hx hb dX8_undo_21 (by decide) ?_
    refine lv_isub hx hb dX8_undo_22 ?_
    refine q_iast (j := 5) hx hb hK hP hD hS 1 rfl (q_inl (by decide)) (by decide) dX8_undo_23 (fun H locs hP hD hS => ?_)
    have hP : va_P D vwCl (wd_X8_undo cI cZ AT AT_al AT_kp AT_ik AT_rf AT_hd AT_bs AT_se AT_bf AT_te AT_by AT_an AT_vs vT_ab vT_be vT_byl vT_tka vT_tkl vT_tkn vT_val (upd fT_al 5 ((fT_al 5) - 1)) fT_rf) H := hP
    have hD : va_D A (wd_X8_undo cI cZ AT AT_al AT_kp AT_ik AT_rf AT_hd AT_bs AT_se AT_bf AT_te AT_by AT_an AT_vs vT_ab vT_be vT_byl vT_tka vT_tkl vT_tkn vT_val (upd fT_al 5 ((fT_al 5) - 1)) fT_rf) := hD
    refine lv_iconst (v := 0) hx hb dX8_undo_24 (by decide) ?_
    refine lv_istore_n (lv' := [(1, .int 0), (0, .ref AT)]) hx hb dX8_undo_25 rfl hl (by decide) rfl (fun ls hl => ?_)
    exact hL_26 FU 0 (upd fT_al 5 ((fT_al 5) - 1)) fT_rf H locs ls hm hP hD hS (lv_sub hl [0, 1] rfl)
  · have hm := it_s c_6 hm
    refine lv_aload_n hx hb dX8_undo_9 rfl (lv_at hl 0 rfl) ?_
    obtain ⟨r_10, hc_10, hm⟩ := ob_s hm
    refine q_ci (q_rv (rest := []) ⟨hx, hb, hml, hown, hts⟩ hK hN hP hD (c_X8_no l D cI cZ H.size AT AT_al AT_kp AT_ik AT_rf AT_hd AT_bs AT_se AT_bf AT_te AT_by AT_an AT_vs vT_ab vT_be vT_byl vT_tka vT_tkl vT_tkn vT_val fT_rf r_10 hc_10) mb_X8_no mv_X8_no wl_X8_126 [0, 2] rfl rfl rfl (Nat.le_of_ble_eq_true rfl) (Nat.le_of_ble_eq_true rfl) rfl hl.1 rfl (Nat.le_of_ble_eq_true rfl) ⟨Nat.le_refl 0, Nat.le_refl 0⟩ dX8_undo_10) hP hD hS hA [0, 2] rfl rfl (fun H locs hP hD hS => ?_)
    have hP : va_P D vwCl (wd_X8_undo cI cZ AT AT_al AT_kp AT_ik AT_rf AT_hd AT_bs AT_se AT_bf AT_te AT_by AT_an AT_vs vT_ab vT_be vT_byl vT_tka vT_tkl vT_tkn vT_val fT_al r_10.2) H := hP
    have hD : va_D A (wd_X8_undo cI cZ AT AT_al AT_kp AT_ik AT_rf AT_hd AT_bs AT_se AT_bf AT_te AT_by AT_an AT_vs vT_ab vT_be vT_byl vT_tka vT_tkl vT_tkn vT_val fT_al r_10.2) := hD
    have hm := Option.some.inj hm
    subst hm
    exact q_iret (v := r_10.1) hx hb hr hlocks hP hS dX8_undo_13
theorem mb_X8_of : q_mb yX8_of cX8_of 3 (some .int) 2 := ⟨wc_X8_of, wn_X8, by decide, by decide, by decide +kernel⟩
theorem mv_X8_of : q_mv yX8_of 8 := ⟨wi_X8_of, ws_X8_of, _, rfl, rfl⟩
def wd_X8_of (cI cZ : ClassId) (AT AT_al AT_kp AT_ik AT_rf AT_hd AT_bs AT_se AT_bf AT_te AT_by AT_an AT_vs : Nat) (vT_ab : Int64) (vT_be : Int64) (vT_byl : Int32) (vT_tka : Int32) (vT_tkl : Int32) (vT_tkn : Int32) (vT_val : Int32) (fT_al : Nat → Int32) (fT_rf : Nat → Int32) : va_W := [(AT, .inr (8, [.ref AT_al, .ref AT_kp, .ref AT_ik, .ref AT_rf, .long vT_ab, .long vT_be, .ref AT_hd, .ref AT_bs, .ref AT_se, .ref AT_bf, .ref AT_te, .ref AT_by, .int vT_byl, .int vT_tka, .int vT_tkl, .int vT_tkn, .int vT_val, .ref AT_an, .ref AT_vs])), (AT_al, .inl (cI, 312, .inl fT_al)), (AT_rf, .inl (cI, 3, .inl fT_rf))]
def fm_X8_of (p1 : Int32) (p2 : Int32) (fT_al : Nat → Int32) (fT_rf : Nat → Int32) : Option (Int32 × (Nat → Int32)) := Option.bind (fm_X8_isSleeper p1 fT_al) (fun r_2 => if r_2 = 0 then (Option.bind (fm_X8_bad (-2) fT_rf) (fun r_23 => some (r_23.1, r_23.2))) else (Option.bind (fm_X8_in (Int32.toInt64 p2) 0 4) (fun r_14 => if r_14 = 0 then (Option.bind (fm_X8_bad (-2) fT_rf) (fun r_23 => some (r_23.1, r_23.2))) else (if p2 = 4 then (gd (6 + p1) 312 (Option.bind (fm_X8_believesOn 312 p1 (fT_al (Int32.toNatClampNeg (6 + p1))) fT_al) (fun r_46 => some (r_46, fT_rf)))) else (if p2 = 0 then (gd (31 + p1) 312 (some ((fT_al (Int32.toNatClampNeg (31 + p1))), fT_rf))) else (if p2 = 1 then (gd (6 + p1) 312 (some ((fT_al (Int32.toNatClampNeg (6 + p1))), fT_rf))) else (if p2 = 2 then (gd (12 + p1) 312 (some ((fT_al (Int32.toNatClampNeg (12 + p1))), fT_rf))) else (gd (18 + p1) 312 (some ((fT_al (Int32.toNatClampNeg (18 + p1))), fT_rf))))))))))
set_option maxHeartbeats 4000000 in
set_option maxRecDepth 100000 in
theorem c_X8_of (l : Launch) (D : va_G) (cI cZ : ClassId) (sz : Nat) (AT AT_al AT_kp AT_ik AT_rf AT_hd AT_bs AT_se AT_bf AT_te AT_by AT_an AT_vs : Nat) (vT_ab : Int64) (vT_be : Int64) (vT_byl : Int32) (vT_tka : Int32) (vT_tkl : Int32) (vT_tkn : Int32) (vT_val : Int32) (fT_al : Nat → Int32) (fT_rf : Nat → Int32) (p1 : Int32) (p2 : Int32) (out : (Int32 × (Nat → Int32))) (hm : fm_X8_of p1 p2 fT_al fT_rf = some out) : Met l yX8_of (Cond.code yX8_of cX8_of 3 (some .int) :: bg) { frames := 3, cells := 0, slots := 0, locals := 70 } (va_Pc [.ref AT, .int p1, .int p2] (q_pre D cI cZ sz (wd_X8_of cI cZ AT AT_al AT_kp AT_ik AT_rf AT_hd AT_bs AT_se AT_bf AT_te AT_by AT_an AT_vs vT_ab vT_be vT_byl vT_tka vT_tkl vT_tkn vT_val fT_al fT_rf))) (q_Qi D (wd_X8_of cI cZ AT AT_al AT_kp AT_ik AT_rf AT_hd AT_bs AT_se AT_bf AT_te AT_by AT_an AT_vs vT_ab vT_be vT_byl vT_tka vT_tkl vT_tkn vT_val fT_al out.2) out.1 (va_A (wd_X8_of cI cZ AT AT_al AT_kp AT_ik AT_rf AT_hd AT_bs AT_se AT_bf AT_te AT_by AT_an AT_vs vT_ab vT_be vT_byl vT_tka vT_tkl vT_tkn vT_val fT_al fT_rf) sz)) 0 0 (va_A (wd_X8_of cI cZ AT AT_al AT_kp AT_ik AT_rf AT_hd AT_bs AT_se AT_bf AT_te AT_by AT_an AT_vs vT_ab vT_be vT_byl vT_tka vT_tkl vT_tkn vT_val fT_al fT_rf) sz) := by
  refine q_met (fun A => q_Qi D (wd_X8_of cI cZ AT AT_al AT_kp AT_ik AT_rf AT_hd AT_bs AT_se AT_bf AT_te AT_by AT_an AT_vs vT_ab vT_be vT_byl vT_tka vT_tkl vT_tkn vT_val fT_al out.2) out.1 A) (by decide) (Nat.le_of_ble_eq_true rfl) ?_
  intro p e s m below meth c ls A hx hb hr hml hown hts hlocks _ hA hS hP hD hK hN hl
  have hown : s.vm.findClass RX8 = some m.cls := hown
  have hl : lv_has ls 3 [(0, .ref AT), (1, .int p1), (2, .int p2)] := hl
  unfold fm_X8_of at hm
  refine q_gen hS hP ?_
  intro H locs hP hS
  refine lv_aload_n hx hb dX8_of_0 rfl (lv_at hl 0 rfl) ?_
  refine lv_iload_n hx hb dX8_of_1 rfl (lv_at hl 1 rfl) ?_
  obtain ⟨r_2, hc_2, hm⟩ := ob_s hm
  refine q_ci (q_rv (rest := []) ⟨hx, hb, hml, hown, hts⟩ hK hN hP hD (c_X8_isSleeper l D cI cZ H.size AT AT_al AT_kp AT_ik AT_rf AT_hd AT_bs AT_se AT_bf AT_te AT_by AT_an AT_vs vT_ab vT_be vT_byl vT_tka vT_tkl vT_tkn vT_val fT_al p1 r_2 hc_2) mb_X8_isSleeper mv_X8_isSleeper wl_X8_132 [0, 1] rfl rfl rfl (Nat.le_of_ble_eq_true rfl) (Nat.le_of_ble_eq_true rfl) rfl hl.1 rfl (Nat.le_of_ble_eq_true rfl) ⟨Nat.le_refl 0, Nat.le_refl 0⟩ dX8_of_2) hP hD hS hA [0, 1] rfl rfl (fun H locs hP hD hS => ?_)
  have hP : va_P D vwCl (wd_X8_of cI cZ AT AT_al AT_kp AT_ik AT_rf AT_hd AT_bs AT_se AT_bf AT_te AT_by AT_an AT_vs vT_ab vT_be vT_byl vT_tka vT_tkl vT_tkn vT_val fT_al fT_rf) H := hP
  have hD : va_D A (wd_X8_of cI cZ AT AT_al AT_kp AT_ik AT_rf AT_hd AT_bs AT_se AT_bf AT_te AT_by AT_an AT_vs vT_ab vT_be vT_byl vT_tka vT_tkl vT_tkn vT_val fT_al fT_rf) := hD
  refine lv_if_eq (tgt := 20) hx hb dX8_of_5 (by decide) (fun c_5 => ?_) (fun c_5 => ?_)
  · have hm := it_s c_5 hm
    refine lv_aload_n hx hb dX8_of_20 rfl (lv_at hl 0 rfl) ?_
    refine lv_bipush (v := (-2)) hx hb dX8_of_21 (by decide) ?_
    obtain ⟨r_23, hc_23, hm⟩ := ob_s hm
    refine q_ci (q_rv (rest := []) ⟨hx, hb, hml, hown, hts⟩ hK hN hP hD (c_X8_bad l D cI cZ H.size AT AT_al AT_kp AT_ik AT_rf AT_hd AT_bs AT_se AT_bf AT_te AT_by AT_an AT_vs vT_ab vT_be vT_byl vT_tka vT_tkl vT_tkn vT_val fT_rf (-2) r_23 hc_23) mb_X8_bad mv_X8_bad wl_X8_75 [0, 2] rfl rfl rfl (Nat.le_of_ble_eq_true rfl) (Nat.le_of_ble_eq_true rfl) rfl hl.1 rfl (Nat.le_of_ble_eq_true rfl) ⟨Nat.le_refl 0, Nat.le_refl 0⟩ dX8_of_23) hP hD hS hA [0, 2] rfl rfl (fun H locs hP hD hS => ?_)
    have hP : va_P D vwCl (wd_X8_of cI cZ AT AT_al AT_kp AT_ik AT_rf AT_hd AT_bs AT_se AT_bf AT_te AT_by AT_an AT_vs vT_ab vT_be vT_byl vT_tka vT_tkl vT_tkn vT_val fT_al r_23.2) H := hP
    have hD : va_D A (wd_X8_of cI cZ AT AT_al AT_kp AT_ik AT_rf AT_hd AT_bs AT_se AT_bf AT_te AT_by AT_an AT_vs vT_ab vT_be vT_byl vT_tka vT_tkl vT_tkn vT_val fT_al r_23.2) := hD
    have hm := Option.some.inj hm
    subst hm
    exact q_iret (v := r_23.1) hx hb hr hlocks hP hS dX8_of_26
  · have hm := it_n c_5 hm
    refine lv_iload_n hx hb dX8_of_8 rfl (lv_at hl 2 rfl) ?_
    refine lv_i2l (v := (Int32.toInt64 p2)) hx hb dX8_of_9 rfl ?_
    refine lv_lconst (v := 0) hx hb dX8_of_10 (by decide) ?_
    refine lv_ldc2 (v := 4) hx hb hown (hts _ wv_X8_141) dX8_of_11 ?_
    obtain ⟨r_14, hc_14, hm⟩ := ob_s hm
    refine q_ci (q_rs (rest := []) ⟨hx, hb, hml, hown, hts⟩ hK hN hP hD (c_X8_in l D cI cZ H.size (Int32.toInt64 p2) 0 4 r_14 hc_14) mb_X8_in wt_X8_in wl_X8_59 [] rfl rfl (Nat.le_of_ble_eq_true rfl) (Nat.le_of_ble_eq_true rfl) rfl hl.1 rfl (Nat.le_of_ble_eq_true rfl) ⟨Nat.le_refl 0, Nat.le_refl 0⟩ dX8_of_14) hP hD hS hA [] rfl rfl (fun H locs hP hD hS => ?_)
    have hP : va_P D vwCl (wd_X8_of cI cZ AT AT_al AT_kp AT_ik AT_rf AT_hd AT_bs AT_se AT_bf AT_te AT_by AT_an AT_vs vT_ab vT_be vT_byl vT_tka vT_tkl vT_tkn vT_val fT_al fT_rf) H := hP
    have hD : va_D A (wd_X8_of cI cZ AT AT_al AT_kp AT_ik AT_rf AT_hd AT_bs AT_se AT_bf AT_te AT_by AT_an AT_vs vT_ab vT_be vT_byl vT_tka vT_tkl vT_tkn vT_val fT_al fT_rf) := hD
    refine lv_if_ne (tgt := 27) hx hb dX8_of_17 (by decide) (fun c_17 => ?_) (fun c_17 => ?_)
    · have hm := it_n c_17 hm
      refine lv_iload_n hx hb dX8_of_27 rfl (lv_at hl 2 rfl) ?_
      refine lv_iconst (v := 4) hx hb dX8_of_28 (by decide) ?_
      refine lv_icmp_ne (tgt := 52) hx hb dX8_of_29 (by decide) (fun c_29 => ?_) (fun c_29 => ?_)
      · have hm := it_n c_29 hm
        refine lv_aload_n hx hb dX8_of_52 rfl (lv_at hl 0 rfl) ?_
        refine gf_X8_7 (v := .ref AT_al) hx hb hts hown hK hN hP 0 rfl rfl dX8_of_53 ?_
        refine lv_iload_n hx hb dX8_of_56 rfl (lv_at hl 2 rfl) ?_
        refine lv_if_ne (tgt := 65) hx hb dX8_of_57 (by decide) (fun c_57 => ?_) (fun c_57 => ?_)
        · have hm := it_n c_57 hm
          refine lv_iload_n hx hb dX8_of_65 rfl (lv_at hl 2 rfl) ?_
          refine lv_iconst (v := 1) hx hb dX8_of_66 (by decide) ?_
          refine lv_icmp_ne (tgt := 75) hx hb dX8_of_67 (by decide) (fun c_67 => ?_) (fun c_67 => ?_)
          · have hm := it_n c_67 hm
            refine lv_iload_n hx hb dX8_of_75 rfl (lv_at hl 2 rfl) ?_
            refine lv_iconst (v := 2) hx hb dX8_of_76 (by decide) ?_
            refine lv_icmp_ne (tgt := 85) hx hb dX8_of_77 (by decide) (fun c_77 => ?_) (fun c_77 => ?_)
            · have hm := it_n c_77 hm
              refine lv_bipush (v := 18) hx hb dX8_of_85 (by decide) ?_
              refine lv_iload_n hx hb dX8_of_87 rfl (lv_at hl 1 rfl) ?_
              refine lv_iadd hx hb dX8_of_88 ?_
              obtain ⟨hi_89, hm⟩ := gd_s hm
              refine q_iald (j := (Int32.toNatClampNeg (18 + p1))) hx hb hK hP 1 rfl hi_89 rfl dX8_of_89 ?_
              have hm := Option.some.inj hm
              subst hm
              exact q_iret (v := (fT_al (Int32.toNatClampNeg (18 + p1)))) hx hb hr hlocks hP hS dX8_of_90
            · have hm := it_s c_77 hm
              refine lv_bipush (v := 12) hx hb dX8_of_80 (by decide) ?_
              refine lv_goto (tgt := 87) hx hb dX8_of_82 (by decide) ?_
              refine lv_iload_n hx hb dX8_of_87 rfl (lv_at hl 1 rfl) ?_
              refine lv_iadd hx hb dX8_of_88 ?_
              obtain ⟨hi_89, hm⟩ := gd_s hm
              refine q_iald (j := (Int32.toNatClampNeg (12 + p1))) hx hb hK hP 1 rfl hi_89 rfl dX8_of_89 ?_
              have hm := Option.some.inj hm
              subst hm
              exact q_iret (v := (fT_al (Int32.toNatClampNeg (12 + p1)))) hx hb hr hlocks hP hS dX8_of_90
          · have hm := it_s c_67 hm
            refine lv_bipush (v := 6) hx hb dX8_of_70 (by decide) ?_
            refine lv_goto (tgt := 87) hx hb dX8_of_72 (by decide) ?_
            refine lv_iload_n hx hb dX8_of_87 rfl (lv_at hl 1 rfl) ?_
            refine lv_iadd hx hb dX8_of_88 ?_
            obtain ⟨hi_89, hm⟩ := gd_s hm
            refine q_iald (j := (Int32.toNatClampNeg (6 + p1))) hx hb hK hP 1 rfl hi_89 rfl dX8_of_89 ?_
            have hm := Option.some.inj hm
            subst hm
            exact q_iret (v := (fT_al (Int32.toNatClampNeg (6 + p1)))) hx hb hr hlocks hP hS dX8_of_90
        · have hm := it_s c_57 hm
          refine lv_bipush (v := 31) hx hb dX8_of_60 (by decide) ?_
          refine lv_goto (tgt := 87) hx hb dX8_of_62 (by decide) ?_
          refine lv_iload_n hx hb dX8_of_87 rfl (lv_at hl 1 rfl) ?_
          refine lv_iadd hx hb dX8_of_88 ?_
          obtain ⟨hi_89, hm⟩ := gd_s hm
          refine q_iald (j := (Int32.toNatClampNeg (31 + p1))) hx hb hK hP 1 rfl hi_89 rfl dX8_of_89 ?_
          have hm := Option.some.inj hm
          subst hm
          exact q_iret (v := (fT_al (Int32.toNatClampNeg (31 + p1)))) hx hb hr hlocks hP hS dX8_of_90
      · have hm := it_s c_29 hm
        refine lv_aload_n hx hb dX8_of_32 rfl (lv_at hl 0 rfl) ?_
        refine gf_X8_7 (v := .ref AT_al) hx hb hts hown hK hN hP 0 rfl rfl dX8_of_33 ?_
        refine lv_iload_n hx hb dX8_of_36 rfl (lv_at hl 1 rfl) ?_
        refine lv_aload_n hx hb dX8_of_37 rfl (lv_at hl 0 rfl) ?_
        refine gf_X8_7 (v := .ref AT_al) hx hb hts hown hK hN hP 0 rfl rfl dX8_of_38 ?_
        refine lv_bipush (v := 6) hx hb dX8_of_41 (by decide) ?_
        refine lv_iload_n hx hb dX8_of_43 rfl (lv_at hl 1 rfl) ?_
        refine lv_iadd hx hb dX8_of_44 ?_
        obtain ⟨hi_45, hm⟩ := gd_s hm
        refine q_iald (j := (Int32.toNatClampNeg (6 + p1))) hx hb hK hP 1 rfl hi_45 rfl dX8_of_45 ?_
        obtain ⟨r_46, hc_46, hm⟩ := ob_s hm
        refine q_ci (q_rs (rest := []) ⟨hx, hb, hml, hown, hts⟩ hK hN hP hD (c_X8_believesOn l D cI cZ H.size AT_al 312 fT_al p1 (fT_al (Int32.toNatClampNeg (6 + p1))) r_46 hc_46) mb_X8_believesOn wt_X8_believesOn wl_X8_107 [1] rfl rfl (Nat.le_of_ble_eq_true rfl) (Nat.le_of_ble_eq_true rfl) rfl hl.1 rfl (Nat.le_of_ble_eq_true rfl) ⟨Nat.le_refl 0, Nat.le_refl 0⟩ dX8_of_46) hP hD hS hA [1] rfl rfl (fun H locs hP hD hS => ?_)
        have hP : va_P D vwCl (wd_X8_of cI cZ AT AT_al AT_kp AT_ik AT_rf AT_hd AT_bs AT_se AT_bf AT_te AT_by AT_an AT_vs vT_ab vT_be vT_byl vT_tka vT_tkl vT_tkn vT_val fT_al fT_rf) H := hP
        have hD : va_D A (wd_X8_of cI cZ AT AT_al AT_kp AT_ik AT_rf AT_hd AT_bs AT_se AT_bf AT_te AT_by AT_an AT_vs vT_ab vT_be vT_byl vT_tka vT_tkl vT_tkn vT_val fT_al fT_rf) := hD
        refine lv_goto (tgt := 90) hx hb dX8_of_49 (by decide) ?_
        have hm := Option.some.inj hm
        subst hm
        exact q_iret (v := r_46) hx hb hr hlocks hP hS dX8_of_90
    · have hm := it_s c_17 hm
      refine lv_aload_n hx hb dX8_of_20 rfl (lv_at hl 0 rfl) ?_
      refine lv_bipush (v := (-2)) hx hb dX8_of_21 (by decide) ?_
      obtain ⟨r_23, hc_23, hm⟩ := ob_s hm
      refine q_ci (q_rv (rest := []) ⟨hx, hb, hml, hown, hts⟩ hK hN hP hD (c_X8_bad l D cI cZ H.size AT AT_al AT_kp AT_ik AT_rf AT_hd AT_bs AT_se AT_bf AT_te AT_by AT_an AT_vs vT_ab vT_be vT_byl vT_tka vT_tkl vT_tkn vT_val fT_rf (-2) r_23 hc_23) mb_X8_bad mv_X8_bad wl_X8_75 [0, 2] rfl rfl rfl (Nat.le_of_ble_eq_true rfl) (Nat.le_of_ble_eq_true rfl) rfl hl.1 rfl (Nat.le_of_ble_eq_true rfl) ⟨Nat.le_refl 0, Nat.le_refl 0⟩ dX8_of_23) hP hD hS hA [0, 2] rfl rfl (fun H locs hP hD hS => ?_)
      have hP : va_P D vwCl (wd_X8_of cI cZ AT AT_al AT_kp AT_ik AT_rf AT_hd AT_bs AT_se AT_bf AT_te AT_by AT_an AT_vs vT_ab vT_be vT_byl vT_tka vT_tkl vT_tkn vT_val fT_al r_23.2) H := hP
      have hD : va_D A (wd_X8_of cI cZ AT AT_al AT_kp AT_ik AT_rf AT_hd AT_bs AT_se AT_bf AT_te AT_by AT_an AT_vs vT_ab vT_be vT_byl vT_tka vT_tkl vT_tkn vT_val fT_al r_23.2) := hD
      have hm := Option.some.inj hm
      subst hm
      exact q_iret (v := r_23.1) hx hb hr hlocks hP hS dX8_of_26
theorem mb_X8_about : q_mb yX8_about cX8_about 3 (some .int) 2 := ⟨wc_X8_about, wn_X8, by decide, by decide, by decide +kernel⟩
theorem mv_X8_about : q_mv yX8_about 8 := ⟨wi_X8_about, ws_X8_about, _, rfl, rfl⟩
def wd_X8_about (cI cZ : ClassId) (AT AT_al AT_kp AT_ik AT_rf AT_hd AT_bs AT_se AT_bf AT_te AT_by AT_an AT_vs : Nat) (vT_ab : Int64) (vT_be : Int64) (vT_byl : Int32) (vT_tka : Int32) (vT_tkl : Int32) (vT_tkn : Int32) (vT_val : Int32) (fT_al : Nat → Int32) (fT_rf : Nat → Int32) : va_W := [(AT, .inr (8, [.ref AT_al, .ref AT_kp, .ref AT_ik, .ref AT_rf, .long vT_ab, .long vT_be, .ref AT_hd, .ref AT_bs, .ref AT_se, .ref AT_bf, .ref AT_te, .ref AT_by, .int vT_byl, .int vT_tka, .int vT_tkl, .int vT_tkn, .int vT_val, .ref AT_an, .ref AT_vs])), (AT_al, .inl (cI, 312, .inl fT_al)), (AT_rf, .inl (cI, 3, .inl fT_rf))]
def fm_X8_about (p1 : Int32) (p2 : Int32) (fT_al : Nat → Int32) (fT_rf : Nat → Int32) : Option (Int32 × (Nat → Int32)) := Option.bind (fm_X8_isFlower p1 fT_al) (fun r_2 => if r_2 = 0 then (Option.bind (fm_X8_bad (-2) fT_rf) (fun r_23 => some (r_23.1, r_23.2))) else (Option.bind (fm_X8_in (Int32.toInt64 p2) 0 3) (fun r_14 => if r_14 = 0 then (Option.bind (fm_X8_bad (-2) fT_rf) (fun r_23 => some (r_23.1, r_23.2))) else (if p2 = 3 then (gd (37 + p1) 312 (gd (43 + p1) 312 (Option.bind (fm_X8_tellsAs (fT_al (Int32.toNatClampNeg (37 + p1))) (fT_al (Int32.toNatClampNeg (43 + p1))) (fT_al 30)) (fun r_57 => some (r_57, fT_rf))))) else (if p2 = 0 then (gd (37 + p1) 312 (some ((fT_al (Int32.toNatClampNeg (37 + p1))), fT_rf))) else (if p2 = 1 then (gd (43 + p1) 312 (some ((fT_al (Int32.toNatClampNeg (43 + p1))), fT_rf))) else (gd (24 + p1) 312 (some ((fT_al (Int32.toNatClampNeg (24 + p1))), fT_rf)))))))))
set_option maxHeartbeats 4000000 in
set_option maxRecDepth 100000 in
theorem c_X8_about (l : Launch) (D : va_G) (cI cZ : ClassId) (sz : Nat) (AT AT_al AT_kp AT_ik AT_rf AT_hd AT_bs AT_se AT_bf AT_te AT_by AT_an AT_vs : Nat) (vT_ab : Int64) (vT_be : Int64) (vT_byl : Int32) (vT_tka : Int32) (vT_tkl : Int32) (vT_tkn : Int32) (vT_val : Int32) (fT_al : Nat → Int32) (fT_rf : Nat → Int32) (p1 : Int32) (p2 : Int32) (out : (Int32 × (Nat → Int32))) (hm : fm_X8_about p1 p2 fT_al fT_rf = some out) : Met l yX8_about (Cond.code yX8_about cX8_about 3 (some .int) :: bg) { frames := 2, cells := 0, slots := 0, locals := 46 } (va_Pc [.ref AT, .int p1, .int p2] (q_pre D cI cZ sz (wd_X8_about cI cZ AT AT_al AT_kp AT_ik AT_rf AT_hd AT_bs AT_se AT_bf AT_te AT_by AT_an AT_vs vT_ab vT_be vT_byl vT_tka vT_tkl vT_tkn vT_val fT_al fT_rf))) (q_Qi D (wd_X8_about cI cZ AT AT_al AT_kp AT_ik AT_rf AT_hd AT_bs AT_se AT_bf AT_te AT_by AT_an AT_vs vT_ab vT_be vT_byl vT_tka vT_tkl vT_tkn vT_val fT_al out.2) out.1 (va_A (wd_X8_about cI cZ AT AT_al AT_kp AT_ik AT_rf AT_hd AT_bs AT_se AT_bf AT_te AT_by AT_an AT_vs vT_ab vT_be vT_byl vT_tka vT_tkl vT_tkn vT_val fT_al fT_rf) sz)) 0 0 (va_A (wd_X8_about cI cZ AT AT_al AT_kp AT_ik AT_rf AT_hd AT_bs AT_se AT_bf AT_te AT_by AT_an AT_vs vT_ab vT_be vT_byl vT_tka vT_tkl vT_tkn vT_val fT_al fT_rf) sz) := by
  refine q_met (fun A => q_Qi D (wd_X8_about cI cZ AT AT_al AT_kp AT_ik AT_rf AT_hd AT_bs AT_se AT_bf AT_te AT_by AT_an AT_vs vT_ab vT_be vT_byl vT_tka vT_tkl vT_tkn vT_val fT_al out.2) out.1 A) (by decide) (Nat.le_of_ble_eq_true rfl) ?_
  intro p e s m below meth c ls A hx hb hr hml hown hts hlocks _ hA hS hP hD hK hN hl
  have hown : s.vm.findClass RX8 = some m.cls := hown
  have hl : lv_has ls 3 [(0, .ref AT), (1, .int p1), (2, .int p2)] := hl
  unfold fm_X8_about at hm
  refine q_gen hS hP ?_
  intro H locs hP hS
  refine lv_aload_n hx hb dX8_about_0 rfl (lv_at hl 0 rfl) ?_
  refine lv_iload_n hx hb dX8_about_1 rfl (lv_at hl 1 rfl) ?_
  obtain ⟨r_2, hc_2, hm⟩ := ob_s hm
  refine q_ci (q_rv (rest := []) ⟨hx, hb, hml, hown, hts⟩ hK hN hP hD (c_X8_isFlower l D cI cZ H.size AT AT_al AT_kp AT_ik AT_rf AT_hd AT_bs AT_se AT_bf AT_te AT_by AT_an AT_vs vT_ab vT_be vT_byl vT_tka vT_tkl vT_tkn vT_val fT_al p1 r_2 hc_2) mb_X8_isFlower mv_X8_isFlower wl_X8_138 [0, 1] rfl rfl rfl (Nat.le_of_ble_eq_true rfl) (Nat.le_of_ble_eq_true rfl) rfl hl.1 rfl (Nat.le_of_ble_eq_true rfl) ⟨Nat.le_refl 0, Nat.le_refl 0⟩ dX8_about_2) hP hD hS hA [0, 1] rfl rfl (fun H locs hP hD hS => ?_)
  have hP : va_P D vwCl (wd_X8_about cI cZ AT AT_al AT_kp AT_ik AT_rf AT_hd AT_bs AT_se AT_bf AT_te AT_by AT_an AT_vs vT_ab vT_be vT_byl vT_tka vT_tkl vT_tkn vT_val fT_al fT_rf) H := hP
  have hD : va_D A (wd_X8_about cI cZ AT AT_al AT_kp AT_ik AT_rf AT_hd AT_bs AT_se AT_bf AT_te AT_by AT_an AT_vs vT_ab vT_be vT_byl vT_tka vT_tkl vT_tkn vT_val fT_al fT_rf) := hD
  refine lv_if_eq (tgt := 20) hx hb dX8_about_5 (by decide) (fun c_5 => ?_) (fun c_5 => ?_)
  · have hm := it_s c_5 hm
    refine lv_aload_n hx hb dX8_about_20 rfl (lv_at hl 0 rfl) ?_
    refine lv_bipush (v := (-2)) hx hb dX8_about_21 (by decide) ?_
    obtain ⟨r_23, hc_23, hm⟩ := ob_s hm
    refine q_ci (q_rv (rest := []) ⟨hx, hb, hml, hown, hts⟩ hK hN hP hD (c_X8_bad l D cI cZ H.size AT AT_al AT_kp AT_ik AT_rf AT_hd AT_bs AT_se AT_bf AT_te AT_by AT_an AT_vs vT_ab vT_be vT_byl vT_tka vT_tkl vT_tkn vT_val fT_rf (-2) r_23 hc_23) mb_X8_bad mv_X8_bad wl_X8_75 [0, 2] rfl rfl rfl (Nat.le_of_ble_eq_true rfl) (Nat.le_of_ble_eq_true rfl) rfl hl.1 rfl (Nat.le_of_ble_eq_true rfl) ⟨Nat.le_refl 0, Nat.le_refl 0⟩ dX8_about_23) hP hD hS hA [0, 2] rfl rfl (fun H locs hP hD hS => ?_)
    have hP : va_P D vwCl (wd_X8_about cI cZ AT AT_al AT_kp AT_ik AT_rf AT_hd AT_bs AT_se AT_bf AT_te AT_by AT_an AT_vs vT_ab vT_be vT_byl vT_tka vT_tkl vT_tkn vT_val fT_al r_23.2) H := hP
    have hD : va_D A (wd_X8_about cI cZ AT AT_al AT_kp AT_ik AT_rf AT_hd AT_bs AT_se AT_bf AT_te AT_by AT_an AT_vs vT_ab vT_be vT_byl vT_tka vT_tkl vT_tkn vT_val fT_al r_23.2) := hD
    have hm := Option.some.inj hm
    subst hm
    exact q_iret (v := r_23.1) hx hb hr hlocks hP hS dX8_about_26
  · have hm := it_n c_5 hm
    refine lv_iload_n hx hb dX8_about_8 rfl (lv_at hl 2 rfl) ?_
    refine lv_i2l (v := (Int32.toInt64 p2)) hx hb dX8_about_9 rfl ?_
    refine lv_lconst (v := 0) hx hb dX8_about_10 (by decide) ?_
    refine lv_ldc2 (v := 3) hx hb hown (hts _ wv_X8_143) dX8_about_11 ?_
    obtain ⟨r_14, hc_14, hm⟩ := ob_s hm
    refine q_ci (q_rs (rest := []) ⟨hx, hb, hml, hown, hts⟩ hK hN hP hD (c_X8_in l D cI cZ H.size (Int32.toInt64 p2) 0 3 r_14 hc_14) mb_X8_in wt_X8_in wl_X8_59 [] rfl rfl (Nat.le_of_ble_eq_true rfl) (Nat.le_of_ble_eq_true rfl) rfl hl.1 rfl (Nat.le_of_ble_eq_true rfl) ⟨Nat.le_refl 0, Nat.le_refl 0⟩ dX8_about_14) hP hD hS hA [] rfl rfl (fun H locs hP hD hS => ?_)
    have hP : va_P D vwCl (wd_X8_about cI cZ AT AT_al AT_kp AT_ik AT_rf AT_hd AT_bs AT_se AT_bf AT_te AT_by AT_an AT_vs vT_ab vT_be vT_byl vT_tka vT_tkl vT_tkn vT_val fT_al fT_rf) H := hP
    have hD : va_D A (wd_X8_about cI cZ AT AT_al AT_kp AT_ik AT_rf AT_hd AT_bs AT_se AT_bf AT_te AT_by AT_an AT_vs vT_ab vT_be vT_byl vT_tka vT_tkl vT_tkn vT_val fT_al fT_rf) := hD
    refine lv_if_ne (tgt := 27) hx hb dX8_about_17 (by decide) (fun c_17 => ?_) (fun c_17 => ?_)
    · have hm := it_n c_17 hm
      refine lv_iload_n hx hb dX8_about_27 rfl (lv_at hl 2 rfl) ?_
      refine lv_iconst (v := 3) hx hb dX8_about_28 (by decide) ?_
      refine lv_icmp_ne (tgt := 63) hx hb dX8_about_29 (by decide) (fun c_29 => ?_) (fun c_29 => ?_)
      · have hm := it_n c_29 hm
        refine lv_aload_n hx hb dX8_about_63 rfl (lv_at hl 0 rfl) ?_
        refine gf_X8_7 (v := .ref AT_al) hx hb hts hown hK hN hP 0 rfl rfl dX8_about_64 ?_
        refine lv_iload_n hx hb dX8_about_67 rfl (lv_at hl 2 rfl) ?_
        refine lv_if_ne (tgt := 76) hx hb dX8_about_68 (by decide) (fun c_68 => ?_) (fun c_68 => ?_)
        · have hm := it_n c_68 hm
          refine lv_iload_n hx hb dX8_about_76 rfl (lv_at hl 2 rfl) ?_
          refine lv_iconst (v := 1) hx hb dX8_about_77 (by decide) ?_
          refine lv_icmp_ne (tgt := 86) hx hb dX8_about_78 (by decide) (fun c_78 => ?_) (fun c_78 => ?_)
          · have hm := it_n c_78 hm
            refine lv_bipush (v := 24) hx hb dX8_about_86 (by decide) ?_
            refine lv_iload_n hx hb dX8_about_88 rfl (lv_at hl 1 rfl) ?_
            refine lv_iadd hx hb dX8_about_89 ?_
            obtain ⟨hi_90, hm⟩ := gd_s hm
            refine q_iald (j := (Int32.toNatClampNeg (24 + p1))) hx hb hK hP 1 rfl hi_90 rfl dX8_about_90 ?_
            have hm := Option.some.inj hm
            subst hm
            exact q_iret (v := (fT_al (Int32.toNatClampNeg (24 + p1)))) hx hb hr hlocks hP hS dX8_about_91
          · have hm := it_s c_78 hm
            refine lv_bipush (v := 43) hx hb dX8_about_81 (by decide) ?_
            refine lv_goto (tgt := 88) hx hb dX8_about_83 (by decide) ?_
            refine lv_iload_n hx hb dX8_about_88 rfl (lv_at hl 1 rfl) ?_
            refine lv_iadd hx hb dX8_about_89 ?_
            obtain ⟨hi_90, hm⟩ := gd_s hm
            refine q_iald (j := (Int32.toNatClampNeg (43 + p1))) hx hb hK hP 1 rfl hi_90 rfl dX8_about_90 ?_
            have hm := Option.some.inj hm
            subst hm
            exact q_iret (v := (fT_al (Int32.toNatClampNeg (43 + p1)))) hx hb hr hlocks hP hS dX8_about_91
        · have hm := it_s c_68 hm
          refine lv_bipush (v := 37) hx hb dX8_about_71 (by decide) ?_
          refine lv_goto (tgt := 88) hx hb dX8_about_73 (by decide) ?_
          refine lv_iload_n hx hb dX8_about_88 rfl (lv_at hl 1 rfl) ?_
          refine lv_iadd hx hb dX8_about_89 ?_
          obtain ⟨hi_90, hm⟩ := gd_s hm
          refine q_iald (j := (Int32.toNatClampNeg (37 + p1))) hx hb hK hP 1 rfl hi_90 rfl dX8_about_90 ?_
          have hm := Option.some.inj hm
          subst hm
          exact q_iret (v := (fT_al (Int32.toNatClampNeg (37 + p1)))) hx hb hr hlocks hP hS dX8_about_91
      · have hm := it_s c_29 hm
        refine lv_aload_n hx hb dX8_about_32 rfl (lv_at hl 0 rfl) ?_
        refine gf_X8_7 (v := .ref AT_al) hx hb hts hown hK hN hP 0 rfl rfl dX8_about_33 ?_
        refine lv_bipush (v := 37) hx hb dX8_about_36 (by decide) ?_
        refine lv_iload_n hx hb dX8_about_38 rfl (lv_at hl 1 rfl) ?_
        refine lv_iadd hx hb dX8_about_39 ?_
        obtain ⟨hi_40, hm⟩ := gd_s hm
        refine q_iald (j := (Int32.toNatClampNeg (37 + p1))) hx hb hK hP 1 rfl hi_40 rfl dX8_about_40 ?_
        refine lv_aload_n hx hb dX8_about_41 rfl (lv_at hl 0 rfl) ?_
        refine gf_X8_7 (v := .ref AT_al) hx hb hts hown hK hN hP 0 rfl rfl dX8_about_42 ?_
        refine lv_bipush (v := 43) hx hb dX8_about_45 (by decide) ?_
        refine lv_iload_n hx hb dX8_about_47 rfl (lv_at hl 1 rfl) ?_
        refine lv_iadd hx hb dX8_about_48 ?_
        obtain ⟨hi_49, hm⟩ := gd_s hm
        refine q_iald (j := (Int32.toNatClampNeg (43 + p1))) hx hb hK hP 1 rfl hi_49 rfl dX8_about_49 ?_
        refine lv_aload_n hx hb dX8_about_50 rfl (lv_at hl 0 rfl) ?_
        refine gf_X8_7 (v := .ref AT_al) hx hb hts hown hK hN hP 0 rfl rfl dX8_about_51 ?_
        refine lv_bipush (v := 30) hx hb dX8_about_54 (by decide) ?_
        refine q_iald (j := 30) hx hb hK hP 1 rfl (q_inl (by decide)) (by decide) dX8_about_56 ?_
        obtain ⟨r_57, hc_57, hm⟩ := ob_s hm
        refine q_ci (q_rs (rest := []) ⟨hx, hb, hml, hown, hts⟩ hK hN hP hD (c_X8_tellsAs l D cI cZ H.size (fT_al (Int32.toNatClampNeg (37 + p1))) (fT_al (Int32.toNatClampNeg (43 + p1))) (fT_al 30) r_57 hc_57) mb_X8_tellsAs wt_X8_tellsAs wl_X8_96 [] rfl rfl (Nat.le_of_ble_eq_true rfl) (Nat.le_of_ble_eq_true rfl) rfl hl.1 rfl (Nat.le_of_ble_eq_true rfl) ⟨Nat.le_refl 0, Nat.le_refl 0⟩ dX8_about_57) hP hD hS hA [] rfl rfl (fun H locs hP hD hS => ?_)
        have hP : va_P D vwCl (wd_X8_about cI cZ AT AT_al AT_kp AT_ik AT_rf AT_hd AT_bs AT_se AT_bf AT_te AT_by AT_an AT_vs vT_ab vT_be vT_byl vT_tka vT_tkl vT_tkn vT_val fT_al fT_rf) H := hP
        have hD : va_D A (wd_X8_about cI cZ AT AT_al AT_kp AT_ik AT_rf AT_hd AT_bs AT_se AT_bf AT_te AT_by AT_an AT_vs vT_ab vT_be vT_byl vT_tka vT_tkl vT_tkn vT_val fT_al fT_rf) := hD
        refine lv_goto (tgt := 91) hx hb dX8_about_60 (by decide) ?_
        have hm := Option.some.inj hm
        subst hm
        exact q_iret (v := r_57) hx hb hr hlocks hP hS dX8_about_91
    · have hm := it_s c_17 hm
      refine lv_aload_n hx hb dX8_about_20 rfl (lv_at hl 0 rfl) ?_
      refine lv_bipush (v := (-2)) hx hb dX8_about_21 (by decide) ?_
      obtain ⟨r_23, hc_23, hm⟩ := ob_s hm
      refine q_ci (q_rv (rest := []) ⟨hx, hb, hml, hown, hts⟩ hK hN hP hD (c_X8_bad l D cI cZ H.size AT AT_al AT_kp AT_ik AT_rf AT_hd AT_bs AT_se AT_bf AT_te AT_by AT_an AT_vs vT_ab vT_be vT_byl vT_tka vT_tkl vT_tkn vT_val fT_rf (-2) r_23 hc_23) mb_X8_bad mv_X8_bad wl_X8_75 [0, 2] rfl rfl rfl (Nat.le_of_ble_eq_true rfl) (Nat.le_of_ble_eq_true rfl) rfl hl.1 rfl (Nat.le_of_ble_eq_true rfl) ⟨Nat.le_refl 0, Nat.le_refl 0⟩ dX8_about_23) hP hD hS hA [0, 2] rfl rfl (fun H locs hP hD hS => ?_)
      have hP : va_P D vwCl (wd_X8_about cI cZ AT AT_al AT_kp AT_ik AT_rf AT_hd AT_bs AT_se AT_bf AT_te AT_by AT_an AT_vs vT_ab vT_be vT_byl vT_tka vT_tkl vT_tkn vT_val fT_al r_23.2) H := hP
      have hD : va_D A (wd_X8_about cI cZ AT AT_al AT_kp AT_ik AT_rf AT_hd AT_bs AT_se AT_bf AT_te AT_by AT_an AT_vs vT_ab vT_be vT_byl vT_tka vT_tkl vT_tkn vT_val fT_al r_23.2) := hD
      have hm := Option.some.inj hm
      subst hm
      exact q_iret (v := r_23.1) hx hb hr hlocks hP hS dX8_about_26
theorem mb_X8_believes : q_mb yX8_believes cX8_believes 3 (some .int) 2 := ⟨wc_X8_believes, wn_X8, by decide, by decide, by decide +kernel⟩
theorem mv_X8_believes : q_mv yX8_believes 8 := ⟨wi_X8_believes, ws_X8_believes, _, rfl, rfl⟩
def wd_X8_believes (cI cZ : ClassId) (AT AT_al AT_kp AT_ik AT_rf AT_hd AT_bs AT_se AT_bf AT_te AT_by AT_an AT_vs : Nat) (vT_ab : Int64) (vT_be : Int64) (vT_byl : Int32) (vT_tka : Int32) (vT_tkl : Int32) (vT_tkn : Int32) (vT_val : Int32) (fT_al : Nat → Int32) (fT_rf : Nat → Int32) : va_W := [(AT, .inr (8, [.ref AT_al, .ref AT_kp, .ref AT_ik, .ref AT_rf, .long vT_ab, .long vT_be, .ref AT_hd, .ref AT_bs, .ref AT_se, .ref AT_bf, .ref AT_te, .ref AT_by, .int vT_byl, .int vT_tka, .int vT_tkl, .int vT_tkn, .int vT_val, .ref AT_an, .ref AT_vs])), (AT_al, .inl (cI, 312, .inl fT_al)), (AT_rf, .inl (cI, 3, .inl fT_rf))]
def fm_X8_believes (p1 : Int32) (p2 : Int32) (fT_al : Nat → Int32) (fT_rf : Nat → Int32) : Option (Int32 × (Nat → Int32)) := Option.bind (fm_X8_isSleeper p1 fT_al) (fun r_2 => if r_2 = 0 then (Option.bind (fm_X8_bad (-2) fT_rf) (fun r_31 => some (r_31.1, r_31.2))) else (Option.bind (fm_X8_isFlower p2 fT_al) (fun r_10 => if r_10 = 0 then (Option.bind (fm_X8_bad (-2) fT_rf) (fun r_31 => some (r_31.1, r_31.2))) else (Option.bind (fm_X8_believesOf 312 p1 p2 fT_al) (fun r_22 => some (r_22, fT_rf))))))
set_option maxHeartbeats 4000000 in
set_option maxRecDepth 100000 in
theorem c_X8_believes (l : Launch) (D : va_G) (cI cZ : ClassId) (sz : Nat) (AT AT_al AT_kp AT_ik AT_rf AT_hd AT_bs AT_se AT_bf AT_te AT_by AT_an AT_vs : Nat) (vT_ab : Int64) (vT_be : Int64) (vT_byl : Int32) (vT_tka : Int32) (vT_tkl : Int32) (vT_tkn : Int32) (vT_val : Int32) (fT_al : Nat → Int32) (fT_rf : Nat → Int32) (p1 : Int32) (p2 : Int32) (out : (Int32 × (Nat → Int32))) (hm : fm_X8_believes p1 p2 fT_al fT_rf = some out) : Met l yX8_believes (Cond.code yX8_believes cX8_believes 3 (some .int) :: bg) { frames := 2, cells := 0, slots := 0, locals := 46 } (va_Pc [.ref AT, .int p1, .int p2] (q_pre D cI cZ sz (wd_X8_believes cI cZ AT AT_al AT_kp AT_ik AT_rf AT_hd AT_bs AT_se AT_bf AT_te AT_by AT_an AT_vs vT_ab vT_be vT_byl vT_tka vT_tkl vT_tkn vT_val fT_al fT_rf))) (q_Qi D (wd_X8_believes cI cZ AT AT_al AT_kp AT_ik AT_rf AT_hd AT_bs AT_se AT_bf AT_te AT_by AT_an AT_vs vT_ab vT_be vT_byl vT_tka vT_tkl vT_tkn vT_val fT_al out.2) out.1 (va_A (wd_X8_believes cI cZ AT AT_al AT_kp AT_ik AT_rf AT_hd AT_bs AT_se AT_bf AT_te AT_by AT_an AT_vs vT_ab vT_be vT_byl vT_tka vT_tkl vT_tkn vT_val fT_al fT_rf) sz)) 0 0 (va_A (wd_X8_believes cI cZ AT AT_al AT_kp AT_ik AT_rf AT_hd AT_bs AT_se AT_bf AT_te AT_by AT_an AT_vs vT_ab vT_be vT_byl vT_tka vT_tkl vT_tkn vT_val fT_al fT_rf) sz) := by
  refine q_met (fun A => q_Qi D (wd_X8_believes cI cZ AT AT_al AT_kp AT_ik AT_rf AT_hd AT_bs AT_se AT_bf AT_te AT_by AT_an AT_vs vT_ab vT_be vT_byl vT_tka vT_tkl vT_tkn vT_val fT_al out.2) out.1 A) (by decide) (Nat.le_of_ble_eq_true rfl) ?_
  intro p e s m below meth c ls A hx hb hr hml hown hts hlocks _ hA hS hP hD hK hN hl
  have hown : s.vm.findClass RX8 = some m.cls := hown
  have hl : lv_has ls 3 [(0, .ref AT), (1, .int p1), (2, .int p2)] := hl
  unfold fm_X8_believes at hm
  refine q_gen hS hP ?_
  intro H locs hP hS
  refine lv_aload_n hx hb dX8_believes_0 rfl (lv_at hl 0 rfl) ?_
  refine lv_iload_n hx hb dX8_believes_1 rfl (lv_at hl 1 rfl) ?_
  obtain ⟨r_2, hc_2, hm⟩ := ob_s hm
  refine q_ci (q_rv (rest := []) ⟨hx, hb, hml, hown, hts⟩ hK hN hP hD (c_X8_isSleeper l D cI cZ H.size AT AT_al AT_kp AT_ik AT_rf AT_hd AT_bs AT_se AT_bf AT_te AT_by AT_an AT_vs vT_ab vT_be vT_byl vT_tka vT_tkl vT_tkn vT_val fT_al p1 r_2 hc_2) mb_X8_isSleeper mv_X8_isSleeper wl_X8_132 [0, 1] rfl rfl rfl (Nat.le_of_ble_eq_true rfl) (Nat.le_of_ble_eq_true rfl) rfl hl.1 rfl (Nat.le_of_ble_eq_true rfl) ⟨Nat.le_refl 0, Nat.le_refl 0⟩ dX8_believes_2) hP hD hS hA [0, 1] rfl rfl (fun H locs hP hD hS => ?_)
  have hP : va_P D vwCl (wd_X8_believes cI cZ AT AT_al AT_kp AT_ik AT_rf AT_hd AT_bs AT_se AT_bf AT_te AT_by AT_an AT_vs vT_ab vT_be vT_byl vT_tka vT_tkl vT_tkn vT_val fT_al fT_rf) H := hP
  have hD : va_D A (wd_X8_believes cI cZ AT AT_al AT_kp AT_ik AT_rf AT_hd AT_bs AT_se AT_bf AT_te AT_by AT_an AT_vs vT_ab vT_be vT_byl vT_tka vT_tkl vT_tkn vT_val fT_al fT_rf) := hD
  refine lv_if_eq (tgt := 28) hx hb dX8_believes_5 (by decide) (fun c_5 => ?_) (fun c_5 => ?_)
  · have hm := it_s c_5 hm
    refine lv_aload_n hx hb dX8_believes_28 rfl (lv_at hl 0 rfl) ?_
    refine lv_bipush (v := (-2)) hx hb dX8_believes_29 (by decide) ?_
    obtain ⟨r_31, hc_31, hm⟩ := ob_s hm
    refine q_ci (q_rv (rest := []) ⟨hx, hb, hml, hown, hts⟩ hK hN hP hD (c_X8_bad l D cI cZ H.size AT AT_al AT_kp AT_ik AT_rf AT_hd AT_bs AT_se AT_bf AT_te AT_by AT_an AT_vs vT_ab vT_be vT_byl vT_tka vT_tkl vT_tkn vT_val fT_rf (-2) r_31 hc_31) mb_X8_bad mv_X8_bad wl_X8_75 [0, 2] rfl rfl rfl (Nat.le_of_ble_eq_true rfl) (Nat.le_of_ble_eq_true rfl) rfl hl.1 rfl (Nat.le_of_ble_eq_true rfl) ⟨Nat.le_refl 0, Nat.le_refl 0⟩ dX8_believes_31) hP hD hS hA [0, 2] rfl rfl (fun H locs hP hD hS => ?_)
    have hP : va_P D vwCl (wd_X8_believes cI cZ AT AT_al AT_kp AT_ik AT_rf AT_hd AT_bs AT_se AT_bf AT_te AT_by AT_an AT_vs vT_ab vT_be vT_byl vT_tka vT_tkl vT_tkn vT_val fT_al r_31.2) H := hP
    have hD : va_D A (wd_X8_believes cI cZ AT AT_al AT_kp AT_ik AT_rf AT_hd AT_bs AT_se AT_bf AT_te AT_by AT_an AT_vs vT_ab vT_be vT_byl vT_tka vT_tkl vT_tkn vT_val fT_al r_31.2) := hD
    have hm := Option.some.inj hm
    subst hm
    exact q_iret (v := r_31.1) hx hb hr hlocks hP hS dX8_believes_34
  · have hm := it_n c_5 hm
    refine lv_aload_n hx hb dX8_believes_8 rfl (lv_at hl 0 rfl) ?_
    refine lv_iload_n hx hb dX8_believes_9 rfl (lv_at hl 2 rfl) ?_
    obtain ⟨r_10, hc_10, hm⟩ := ob_s hm
    refine q_ci (q_rv (rest := []) ⟨hx, hb, hml, hown, hts⟩ hK hN hP hD (c_X8_isFlower l D cI cZ H.size AT AT_al AT_kp AT_ik AT_rf AT_hd AT_bs AT_se AT_bf AT_te AT_by AT_an AT_vs vT_ab vT_be vT_byl vT_tka vT_tkl vT_tkn vT_val fT_al p2 r_10 hc_10) mb_X8_isFlower mv_X8_isFlower wl_X8_138 [0, 1] rfl rfl rfl (Nat.le_of_ble_eq_true rfl) (Nat.le_of_ble_eq_true rfl) rfl hl.1 rfl (Nat.le_of_ble_eq_true rfl) ⟨Nat.le_refl 0, Nat.le_refl 0⟩ dX8_believes_10) hP hD hS hA [0, 1] rfl rfl (fun H locs hP hD hS => ?_)
    have hP : va_P D vwCl (wd_X8_believes cI cZ AT AT_al AT_kp AT_ik AT_rf AT_hd AT_bs AT_se AT_bf AT_te AT_by AT_an AT_vs vT_ab vT_be vT_byl vT_tka vT_tkl vT_tkn vT_val fT_al fT_rf) H := hP
    have hD : va_D A (wd_X8_believes cI cZ AT AT_al AT_kp AT_ik AT_rf AT_hd AT_bs AT_se AT_bf AT_te AT_by AT_an AT_vs vT_ab vT_be vT_byl vT_tka vT_tkl vT_tkn vT_val fT_al fT_rf) := hD
    refine lv_if_eq (tgt := 28) hx hb dX8_believes_13 (by decide) (fun c_13 => ?_) (fun c_13 => ?_)
    · have hm := it_s c_13 hm
      refine lv_aload_n hx hb dX8_believes_28 rfl (lv_at hl 0 rfl) ?_
      refine lv_bipush (v := (-2)) hx hb dX8_believes_29 (by decide) ?_
      obtain ⟨r_31, hc_31, hm⟩ := ob_s hm
      refine q_ci (q_rv (rest := []) ⟨hx, hb, hml, hown, hts⟩ hK hN hP hD (c_X8_bad l D cI cZ H.size AT AT_al AT_kp AT_ik AT_rf AT_hd AT_bs AT_se AT_bf AT_te AT_by AT_an AT_vs vT_ab vT_be vT_byl vT_tka vT_tkl vT_tkn vT_val fT_rf (-2) r_31 hc_31) mb_X8_bad mv_X8_bad wl_X8_75 [0, 2] rfl rfl rfl (Nat.le_of_ble_eq_true rfl) (Nat.le_of_ble_eq_true rfl) rfl hl.1 rfl (Nat.le_of_ble_eq_true rfl) ⟨Nat.le_refl 0, Nat.le_refl 0⟩ dX8_believes_31) hP hD hS hA [0, 2] rfl rfl (fun H locs hP hD hS => ?_)
      have hP : va_P D vwCl (wd_X8_believes cI cZ AT AT_al AT_kp AT_ik AT_rf AT_hd AT_bs AT_se AT_bf AT_te AT_by AT_an AT_vs vT_ab vT_be vT_byl vT_tka vT_tkl vT_tkn vT_val fT_al r_31.2) H := hP
      have hD : va_D A (wd_X8_believes cI cZ AT AT_al AT_kp AT_ik AT_rf AT_hd AT_bs AT_se AT_bf AT_te AT_by AT_an AT_vs vT_ab vT_be vT_byl vT_tka vT_tkl vT_tkn vT_val fT_al r_31.2) := hD
      have hm := Option.some.inj hm
      subst hm
      exact q_iret (v := r_31.1) hx hb hr hlocks hP hS dX8_believes_34
    · have hm := it_n c_13 hm
      refine lv_aload_n hx hb dX8_believes_16 rfl (lv_at hl 0 rfl) ?_
      refine gf_X8_7 (v := .ref AT_al) hx hb hts hown hK hN hP 0 rfl rfl dX8_believes_17 ?_
      refine lv_iload_n hx hb dX8_believes_20 rfl (lv_at hl 1 rfl) ?_
      refine lv_iload_n hx hb dX8_believes_21 rfl (lv_at hl 2 rfl) ?_
      obtain ⟨r_22, hc_22, hm⟩ := ob_s hm
      refine q_ci (q_rs (rest := []) ⟨hx, hb, hml, hown, hts⟩ hK hN hP hD (c_X8_believesOf l D cI cZ H.size AT_al 312 fT_al p1 p2 r_22 hc_22) mb_X8_believesOf wt_X8_believesOf wl_X8_103 [1] rfl rfl (Nat.le_of_ble_eq_true rfl) (Nat.le_of_ble_eq_true rfl) rfl hl.1 rfl (Nat.le_of_ble_eq_true rfl) ⟨Nat.le_refl 0, Nat.le_refl 0⟩ dX8_believes_22) hP hD hS hA [1] rfl rfl (fun H locs hP hD hS => ?_)
      have hP : va_P D vwCl (wd_X8_believes cI cZ AT AT_al AT_kp AT_ik AT_rf AT_hd AT_bs AT_se AT_bf AT_te AT_by AT_an AT_vs vT_ab vT_be vT_byl vT_tka vT_tkl vT_tkn vT_val fT_al fT_rf) H := hP
      have hD : va_D A (wd_X8_believes cI cZ AT AT_al AT_kp AT_ik AT_rf AT_hd AT_bs AT_se AT_bf AT_te AT_by AT_an AT_vs vT_ab vT_be vT_byl vT_tka vT_tkl vT_tkn vT_val fT_al fT_rf) := hD
      refine lv_goto (tgt := 34) hx hb dX8_believes_25 (by decide) ?_
      have hm := Option.some.inj hm
      subst hm
      exact q_iret (v := r_22) hx hb hr hlocks hP hS dX8_believes_34
theorem gf_X8_27 {p : Program} {l : Launch} {e : Env} {R : Room} {s : State} {m : MethodId} {args : Array Value} {below : List Frame} {meth : Method} {c : Code} {H : Heap} {locs : List Loc} {cells slots : Nat} {Q : State → Prop} {pc : Nat} {ls : Array Slot} {cc : ByteArray} {D : va_G} {cI cZ : ClassId} {ws : va_W} {a : Nat} {rest fs : List Value} (hx : p.tables.exec = Jvm.exec) (hb : c.code = cc) (hts : ∀ w ∈ bg, w.before args s = true) (hown : s.vm.findClass RX8 = some m.cls) (hK : va_K D vwCl (q_tys cI cZ) s) (hN : q_N s) (hP : va_P D vwCl ws H) (q0 : Nat) (he : ws[q0]? = some (a, .inr (8, fs))) {v : Value} (hv : fs[6]? = some v) (hdg : decode cc pc = .ok (.getfield 27, 3)) (kk : W p l e R s m args below meth c H locs cells slots Q (F0 m (pc + 3) ls (v :: rest))) : W p l e R s m args below meth c H locs cells slots Q (F0 m pc ls (.ref a :: rest)) :=
  va_get (C := RX8) (T := TX8) (N := 19) hx hb hts wu_X8 hown hK hP q0 he rfl 6 (by decide) (hts _ wf_X8_27) (fun _ h9 => h9) hv hdg kk
theorem mb_X8_layHand : q_mb yX8_layHand cX8_layHand 2 none 0 := ⟨wc_X8_layHand, wn_X8, by decide, by decide, by decide +kernel⟩
theorem mv_X8_layHand : q_mv yX8_layHand 8 := ⟨wi_X8_layHand, ws_X8_layHand, _, rfl, rfl⟩
def wd_X8_layHand (cI cZ : ClassId) (AT AT_al AT_kp AT_ik AT_rf AT_hd AT_bs AT_se AT_bf AT_te AT_by AT_an AT_vs : Nat) (vT_ab : Int64) (vT_be : Int64) (vT_byl : Int32) (vT_tka : Int32) (vT_tkl : Int32) (vT_tkn : Int32) (vT_val : Int32) (fT_al : Nat → Int32) (fT_hd : Nat → Int32) : va_W := [(AT, .inr (8, [.ref AT_al, .ref AT_kp, .ref AT_ik, .ref AT_rf, .long vT_ab, .long vT_be, .ref AT_hd, .ref AT_bs, .ref AT_se, .ref AT_bf, .ref AT_te, .ref AT_by, .int vT_byl, .int vT_tka, .int vT_tkl, .int vT_tkn, .int vT_val, .ref AT_an, .ref AT_vs])), (AT_al, .inl (cI, 312, .inl fT_al)), (AT_hd, .inl (cI, 49, .inl fT_hd))]
def fL_X8_layHand_2 (fT_al : Nat → Int32) : Nat → Int32 → (Nat → Int32) → Option ((Nat → Int32))
  | 0, _, _ => none
  | fu + 1, x1, fT_hd => if 49 ≤ x1 then (some (fT_hd)) else (gd x1 312 (gd x1 49 (fL_X8_layHand_2 fT_al fu (x1 + 1) (upd fT_hd (Int32.toNatClampNeg x1) (fT_al (Int32.toNatClampNeg x1))))))
def fm_X8_layHand (fT_al : Nat → Int32) (fT_hd : Nat → Int32) : Option ((Nat → Int32)) := fL_X8_layHand_2 fT_al FU 0 fT_hd
set_option maxHeartbeats 4000000 in
set_option maxRecDepth 100000 in
theorem c_X8_layHand (l : Launch) (D : va_G) (cI cZ : ClassId) (sz : Nat) (AT AT_al AT_kp AT_ik AT_rf AT_hd AT_bs AT_se AT_bf AT_te AT_by AT_an AT_vs : Nat) (vT_ab : Int64) (vT_be : Int64) (vT_byl : Int32) (vT_tka : Int32) (vT_tkl : Int32) (vT_tkn : Int32) (vT_val : Int32) (fT_al : Nat → Int32) (fT_hd : Nat → Int32) (out : ((Nat → Int32))) (hm : fm_X8_layHand fT_al fT_hd = some out) : Met l yX8_layHand (Cond.code yX8_layHand cX8_layHand 2 none :: bg) { frames := 0, cells := 0, slots := 0, locals := 0 } (va_Pc [.ref AT] (q_pre D cI cZ sz (wd_X8_layHand cI cZ AT AT_al AT_kp AT_ik AT_rf AT_hd AT_bs AT_se AT_bf AT_te AT_by AT_an AT_vs vT_ab vT_be vT_byl vT_tka vT_tkl vT_tkn vT_val fT_al fT_hd))) (q_Qv D (wd_X8_layHand cI cZ AT AT_al AT_kp AT_ik AT_rf AT_hd AT_bs AT_se AT_bf AT_te AT_by AT_an AT_vs vT_ab vT_be vT_byl vT_tka vT_tkl vT_tkn vT_val fT_al out) (va_A (wd_X8_layHand cI cZ AT AT_al AT_kp AT_ik AT_rf AT_hd AT_bs AT_se AT_bf AT_te AT_by AT_an AT_vs vT_ab vT_be vT_byl vT_tka vT_tkl vT_tkn vT_val fT_al fT_hd) sz)) 0 0 (va_A (wd_X8_layHand cI cZ AT AT_al AT_kp AT_ik AT_rf AT_hd AT_bs AT_se AT_bf AT_te AT_by AT_an AT_vs vT_ab vT_be vT_byl vT_tka vT_tkl vT_tkn vT_val fT_al fT_hd) sz) := by
  refine q_met (fun A => q_Qv D (wd_X8_layHand cI cZ AT AT_al AT_kp AT_ik AT_rf AT_hd AT_bs AT_se AT_bf AT_te AT_by AT_an AT_vs vT_ab vT_be vT_byl vT_tka vT_tkl vT_tkn vT_val fT_al out) A) (by decide) (Nat.le_of_ble_eq_true rfl) ?_
  intro p e s m below meth c ls A hx hb hr hml hown hts hlocks _ hA hS hP hD hK hN hl
  have hown : s.vm.findClass RX8 = some m.cls := hown
  have hl : lv_has ls 2 [(0, .ref AT)] := hl
  have hL_2 : ∀ (fu_2 : Nat) (x1 : Int32) (fT_hd : Nat → Int32) (H : Heap) (locs : List Loc) (ls : Array Slot), fL_X8_layHand_2 fT_al fu_2 x1 fT_hd = some out → va_P D vwCl (wd_X8_layHand cI cZ AT AT_al AT_kp AT_ik AT_rf AT_hd AT_bs AT_se AT_bf AT_te AT_by AT_an AT_vs vT_ab vT_be vT_byl vT_tka vT_tkl vT_tkn vT_val fT_al fT_hd) H → va_D A (wd_X8_layHand cI cZ AT AT_al AT_kp AT_ik AT_rf AT_hd AT_bs AT_se AT_bf AT_te AT_by AT_an AT_vs vT_ab vT_be vT_byl vT_tka vT_tkl vT_tkn vT_val fT_al fT_hd) → va_S A s.heap H locs → lv_has ls 2 [(1, .int x1), (0, .ref AT)] → W p l e { frames := 0, cells := 0, slots := 0, locals := 0 } s m ([.ref AT] : List Value).toArray below meth c H locs 0 0 (MQ below (q_Qv D (wd_X8_layHand cI cZ AT AT_al AT_kp AT_ik AT_rf AT_hd AT_bs AT_se AT_bf AT_te AT_by AT_an AT_vs vT_ab vT_be vT_byl vT_tka vT_tkl vT_tkn vT_val fT_al out) A) ([.ref AT] : List Value).toArray s 0 0 A) (F0 m 2 ls []) := by
    intro fu_2
    induction fu_2 with
    | zero => intro x1 fT_hd H locs ls hm hP hD hS hl; exact absurd (show (none : Option ((Nat → Int32))) = some out from hm) (fun h => nomatch h)
    | succ fu_2 ih_2 =>
      intro x1 fT_hd H locs ls hm hP hD hS hl
      rw [fL_X8_layHand_2] at hm
      refine lv_iload_n hx hb dX8_layHand_2 rfl (lv_at hl 0 rfl) ?_
      refine lv_bipush (v := 49) hx hb dX8_layHand_3 (by decide) ?_
      refine lv_icmp_ge (tgt := 26) hx hb dX8_layHand_5 (by decide) (fun c_5 => ?_) (fun c_5 => ?_)
      · have hm := it_s c_5 hm
        have hm := Option.some.inj hm
        subst hm
        exact q_vret hx hb hr hlocks hP hS dX8_layHand_26
      · have hm := it_n c_5 hm
        refine lv_aload_n hx hb dX8_layHand_8 rfl (lv_at hl 1 rfl) ?_
        refine gf_X8_27 (v := .ref AT_hd) hx hb hts hown hK hN hP 0 rfl rfl dX8_layHand_9 ?_
        refine lv_iload_n hx hb dX8_layHand_12 rfl (lv_at hl 0 rfl) ?_
        refine lv_aload_n hx hb dX8_layHand_13 rfl (lv_at hl 1 rfl) ?_
        refine gf_X8_7 (v := .ref AT_al) hx hb hts hown hK hN hP 0 rfl rfl dX8_layHand_14 ?_
        refine lv_iload_n hx hb dX8_layHand_17 rfl (lv_at hl 0 rfl) ?_
        obtain ⟨hi_18, hm⟩ := gd_s hm
        refine q_iald (j := (Int32.toNatClampNeg x1)) hx hb hK hP 1 rfl hi_18 rfl dX8_layHand_18 ?_
        obtain ⟨hi_19, hm⟩ := gd_s hm
        refine q_iast (j := (Int32.toNatClampNeg x1)) hx hb hK hP hD hS 2 rfl hi_19 rfl dX8_layHand_19 (fun H locs hP hD hS => ?_)
        have hP : va_P D vwCl (wd_X8_layHand cI cZ AT AT_al AT_kp AT_ik AT_rf AT_hd AT_bs AT_se AT_bf AT_te AT_by AT_an AT_vs vT_ab vT_be vT_byl vT_tka vT_tkl vT_tkn vT_val fT_al (upd fT_hd (Int32.toNatClampNeg x1) (fT_al (Int32.toNatClampNeg x1)))) H := hP
        have hD : va_D A (wd_X8_layHand cI cZ AT AT_al AT_kp AT_ik AT_rf AT_hd AT_bs AT_se AT_bf AT_te AT_by AT_an AT_vs vT_ab vT_be vT_byl vT_tka vT_tkl vT_tkn vT_val fT_al (upd fT_hd (Int32.toNatClampNeg x1) (fT_al (Int32.toNatClampNeg x1)))) := hD
        refine lv_iinc (v := (x1 + 1)) (lv' := [(1, .int (x1 + 1)), (0, .ref AT)]) hx hb dX8_layHand_20 hl (k := 0) rfl rfl (by decide) rfl (fun ls hl => ?_)
        refine lv_goto (tgt := 2) hx hb dX8_layHand_23 (by decide) ?_
        exact ih_2 (x1 + 1) (upd fT_hd (Int32.toNatClampNeg x1) (fT_al (Int32.toNatClampNeg x1))) H locs ls hm hP hD hS (lv_sub hl [0, 1] rfl)
  unfold fm_X8_layHand at hm
  refine q_gen hS hP ?_
  intro H locs hP hS
  refine lv_iconst (v := 0) hx hb dX8_layHand_0 (by decide) ?_
  refine lv_istore_n (lv' := [(1, .int 0), (0, .ref AT)]) hx hb dX8_layHand_1 rfl hl (by decide) rfl (fun ls hl => ?_)
  exact hL_2 FU 0 fT_hd H locs ls hm hP hD hS (lv_sub hl [0, 1] rfl)
theorem mb_X8_then : q_mb yX8_then cX8_then 4 (some .int) 2 := ⟨wc_X8_then, wn_X8, by decide, by decide, by decide +kernel⟩
theorem mv_X8_then : q_mv yX8_then 8 := ⟨wi_X8_then, ws_X8_then, _, rfl, rfl⟩
def wd_X8_then (cI cZ : ClassId) (AT AT_al AT_kp AT_ik AT_rf AT_hd AT_bs AT_se AT_bf AT_te AT_by AT_an AT_vs : Nat) (vT_ab : Int64) (vT_be : Int64) (vT_byl : Int32) (vT_tka : Int32) (vT_tkl : Int32) (vT_tkn : Int32) (vT_val : Int32) (fT_al : Nat → Int32) (fT_rf : Nat → Int32) (fT_hd : Nat → Int32) : va_W := [(AT, .inr (8, [.ref AT_al, .ref AT_kp, .ref AT_ik, .ref AT_rf, .long vT_ab, .long vT_be, .ref AT_hd, .ref AT_bs, .ref AT_se, .ref AT_bf, .ref AT_te, .ref AT_by, .int vT_byl, .int vT_tka, .int vT_tkl, .int vT_tkn, .int vT_val, .ref AT_an, .ref AT_vs])), (AT_al, .inl (cI, 312, .inl fT_al)), (AT_rf, .inl (cI, 3, .inl fT_rf)), (AT_hd, .inl (cI, 49, .inl fT_hd))]
def fL_X8_then_33 (p1 : Int32) (p2 : Int32) (fT_al : Nat → Int32) : Nat → Int32 → (Nat → Int32) → (Nat → Int32) → Option (Int32 × (Nat → Int32) × (Nat → Int32))
  | 0, _, _, _ => none
  | fu + 1, x3, fT_rf, fT_hd => if p2 ≤ x3 then (gd (18 + p1) 49 (some ((fT_hd (Int32.toNatClampNeg (18 + p1))), fT_rf, fT_hd))) else (Option.bind (fm_X8_goNight 49 fT_hd) (fun r_42 => fL_X8_then_33 p1 p2 fT_al fu (x3 + 1) fT_rf r_42))
def fm_X8_then (p1 : Int32) (p2 : Int32) (fT_al : Nat → Int32) (fT_rf : Nat → Int32) (fT_hd : Nat → Int32) : Option (Int32 × (Nat → Int32) × (Nat → Int32)) := Option.bind (fm_X8_isSleeper p1 fT_al) (fun r_2 => if r_2 = 0 then (Option.bind (fm_X8_bad (-2) fT_rf) (fun r_23 => some (r_23.1, r_23.2, fT_hd))) else (Option.bind (fm_X8_in (Int32.toInt64 p2) 0 60) (fun r_14 => if r_14 = 0 then (Option.bind (fm_X8_bad (-2) fT_rf) (fun r_23 => some (r_23.1, r_23.2, fT_hd))) else (Option.bind (fm_X8_layHand fT_al fT_hd) (fun r_28 => fL_X8_then_33 p1 p2 fT_al FU 0 fT_rf r_28)))))
set_option maxHeartbeats 4000000 in
set_option maxRecDepth 100000 in
theorem c_X8_then (l : Launch) (D : va_G) (cI cZ : ClassId) (sz : Nat) (AT AT_al AT_kp AT_ik AT_rf AT_hd AT_bs AT_se AT_bf AT_te AT_by AT_an AT_vs : Nat) (vT_ab : Int64) (vT_be : Int64) (vT_byl : Int32) (vT_tka : Int32) (vT_tkl : Int32) (vT_tkn : Int32) (vT_val : Int32) (fT_al : Nat → Int32) (fT_rf : Nat → Int32) (fT_hd : Nat → Int32) (p1 : Int32) (p2 : Int32) (out : (Int32 × (Nat → Int32) × (Nat → Int32))) (hm : fm_X8_then p1 p2 fT_al fT_rf fT_hd = some out) : Met l yX8_then (Cond.code yX8_then cX8_then 4 (some .int) :: bg) { frames := 4, cells := 0, slots := 0, locals := 92 } (va_Pc [.ref AT, .int p1, .int p2] (q_pre D cI cZ sz (wd_X8_then cI cZ AT AT_al AT_kp AT_ik AT_rf AT_hd AT_bs AT_se AT_bf AT_te AT_by AT_an AT_vs vT_ab vT_be vT_byl vT_tka vT_tkl vT_tkn vT_val fT_al fT_rf fT_hd))) (q_Qi D (wd_X8_then cI cZ AT AT_al AT_kp AT_ik AT_rf AT_hd AT_bs AT_se AT_bf AT_te AT_by AT_an AT_vs vT_ab vT_be vT_byl vT_tka vT_tkl vT_tkn vT_val fT_al out.2.1 out.2.2) out.1 (va_A (wd_X8_then cI cZ AT AT_al AT_kp AT_ik AT_rf AT_hd AT_bs AT_se AT_bf AT_te AT_by AT_an AT_vs vT_ab vT_be vT_byl vT_tka vT_tkl vT_tkn vT_val fT_al fT_rf fT_hd) sz)) 0 0 (va_A (wd_X8_then cI cZ AT AT_al AT_kp AT_ik AT_rf AT_hd AT_bs AT_se AT_bf AT_te AT_by AT_an AT_vs vT_ab vT_be vT_byl vT_tka vT_tkl vT_tkn vT_val fT_al fT_rf fT_hd) sz) := by
  refine q_met (fun A => q_Qi D (wd_X8_then cI cZ AT AT_al AT_kp AT_ik AT_rf AT_hd AT_bs AT_se AT_bf AT_te AT_by AT_an AT_vs vT_ab vT_be vT_byl vT_tka vT_tkl vT_tkn vT_val fT_al out.2.1 out.2.2) out.1 A) (by decide) (Nat.le_of_ble_eq_true rfl) ?_
  intro p e s m below meth c ls A hx hb hr hml hown hts hlocks _ hA hS hP hD hK hN hl
  have hown : s.vm.findClass RX8 = some m.cls := hown
  have hl : lv_has ls 4 [(0, .ref AT), (1, .int p1), (2, .int p2)] := hl
  have hL_33 : ∀ (fu_33 : Nat) (x3 : Int32) (fT_rf : Nat → Int32) (fT_hd : Nat → Int32) (H : Heap) (locs : List Loc) (ls : Array Slot), fL_X8_then_33 p1 p2 fT_al fu_33 x3 fT_rf fT_hd = some out → va_P D vwCl (wd_X8_then cI cZ AT AT_al AT_kp AT_ik AT_rf AT_hd AT_bs AT_se AT_bf AT_te AT_by AT_an AT_vs vT_ab vT_be vT_byl vT_tka vT_tkl vT_tkn vT_val fT_al fT_rf fT_hd) H → va_D A (wd_X8_then cI cZ AT AT_al AT_kp AT_ik AT_rf AT_hd AT_bs AT_se AT_bf AT_te AT_by AT_an AT_vs vT_ab vT_be vT_byl vT_tka vT_tkl vT_tkn vT_val fT_al fT_rf fT_hd) → va_S A s.heap H locs → lv_has ls 4 [(3, .int x3), (0, .ref AT), (1, .int p1), (2, .int p2)] → W p l e { frames := 4, cells := 0, slots := 0, locals := 92 } s m ([.ref AT, .int p1, .int p2] : List Value).toArray below meth c H locs 0 0 (MQ below (q_Qi D (wd_X8_then cI cZ AT AT_al AT_kp AT_ik AT_rf AT_hd AT_bs AT_se AT_bf AT_te AT_by AT_an AT_vs vT_ab vT_be vT_byl vT_tka vT_tkl vT_tkn vT_val fT_al out.2.1 out.2.2) out.1 A) ([.ref AT, .int p1, .int p2] : List Value).toArray s 0 0 A) (F0 m 33 ls []) := by
    intro fu_33
    induction fu_33 with
    | zero => intro x3 fT_rf fT_hd H locs ls hm hP hD hS hl; exact absurd (show (none : Option (Int32 × (Nat → Int32) × (Nat → Int32))) = some out from hm) (fun h => nomatch h)
    | succ fu_33 ih_33 =>
      intro x3 fT_rf fT_hd H locs ls hm hP hD hS hl
      rw [fL_X8_then_33] at hm
      refine lv_iload_n hx hb dX8_then_33 rfl (lv_at hl 0 rfl) ?_
      refine lv_iload_n hx hb dX8_then_34 rfl (lv_at hl 3 rfl) ?_
      refine lv_icmp_ge (tgt := 51) hx hb dX8_then_35 (by decide) (fun c_35 => ?_) (fun c_35 => ?_)
      · have hm := it_s c_35 hm
        refine lv_aload_n hx hb dX8_then_51 rfl (lv_at hl 1 rfl) ?_
        refine gf_X8_27 (v := .ref AT_hd) hx hb hts hown hK hN hP 0 rfl rfl dX8_then_52 ?_
        refine lv_bipush (v := 18) hx hb dX8_then_55 (by decide) ?_
        refine lv_iload_n hx hb dX8_then_57 rfl (lv_at hl 2 rfl) ?_
        refine lv_iadd hx hb dX8_then_58 ?_
        obtain ⟨hi_59, hm⟩ := gd_s hm
        refine q_iald (j := (Int32.toNatClampNeg (18 + p1))) hx hb hK hP 3 rfl hi_59 rfl dX8_then_59 ?_
        have hm := Option.some.inj hm
        subst hm
        exact q_iret (v := (fT_hd (Int32.toNatClampNeg (18 + p1)))) hx hb hr hlocks hP hS dX8_then_60
      · have hm := it_n c_35 hm
        refine lv_aload_n hx hb dX8_then_38 rfl (lv_at hl 1 rfl) ?_
        refine gf_X8_27 (v := .ref AT_hd) hx hb hts hown hK hN hP 0 rfl rfl dX8_then_39 ?_
        obtain ⟨r_42, hc_42, hm⟩ := ob_s hm
        refine q_cv (q_rs (rest := []) ⟨hx, hb, hml, hown, hts⟩ hK hN hP hD (c_X8_goNight l D cI cZ H.size AT_hd 49 fT_hd r_42 hc_42) mb_X8_goNight wt_X8_goNight wl_X8_110 [3] rfl rfl (Nat.le_of_ble_eq_true rfl) (Nat.le_of_ble_eq_true rfl) rfl hl.1 rfl (Nat.le_of_ble_eq_true rfl) ⟨Nat.le_refl 0, Nat.le_refl 0⟩ dX8_then_42) hP hD hS hA [3] rfl rfl (fun H locs hP hD hS => ?_)
        have hP : va_P D vwCl (wd_X8_then cI cZ AT AT_al AT_kp AT_ik AT_rf AT_hd AT_bs AT_se AT_bf AT_te AT_by AT_an AT_vs vT_ab vT_be vT_byl vT_tka vT_tkl vT_tkn vT_val fT_al fT_rf r_42) H := hP
        have hD : va_D A (wd_X8_then cI cZ AT AT_al AT_kp AT_ik AT_rf AT_hd AT_bs AT_se AT_bf AT_te AT_by AT_an AT_vs vT_ab vT_be vT_byl vT_tka vT_tkl vT_tkn vT_val fT_al fT_rf r_42) := hD
        refine lv_iinc (v := (x3 + 1)) (lv' := [(3, .int (x3 + 1)), (0, .ref AT), (1, .int p1), (2, .int p2)]) hx hb dX8_then_45 hl (k := 0) rfl rfl (by decide) rfl (fun ls hl => ?_)
        refine lv_goto (tgt := 33) hx hb dX8_then_48 (by decide) ?_
        exact ih_33 (x3 + 1) fT_rf r_42 H locs ls hm hP hD hS (lv_sub hl [0, 1, 2, 3] rfl)
  unfold fm_X8_then at hm
  refine q_gen hS hP ?_
  intro H locs hP hS
  refine lv_aload_n hx hb dX8_then_0 rfl (lv_at hl 0 rfl) ?_
  refine lv_iload_n hx hb dX8_then_1 rfl (lv_at hl 1 rfl) ?_
  obtain ⟨r_2, hc_2, hm⟩ := ob_s hm
  refine q_ci (q_rv (rest := []) ⟨hx, hb, hml, hown, hts⟩ hK hN hP hD (c_X8_isSleeper l D cI cZ H.size AT AT_al AT_kp AT_ik AT_rf AT_hd AT_bs AT_se AT_bf AT_te AT_by AT_an AT_vs vT_ab vT_be vT_byl vT_tka vT_tkl vT_tkn vT_val fT_al p1 r_2 hc_2) mb_X8_isSleeper mv_X8_isSleeper wl_X8_132 [0, 1] rfl rfl rfl (Nat.le_of_ble_eq_true rfl) (Nat.le_of_ble_eq_true rfl) rfl hl.1 rfl (Nat.le_of_ble_eq_true rfl) ⟨Nat.le_refl 0, Nat.le_refl 0⟩ dX8_then_2) hP hD hS hA [0, 1] rfl rfl (fun H locs hP hD hS => ?_)
  have hP : va_P D vwCl (wd_X8_then cI cZ AT AT_al AT_kp AT_ik AT_rf AT_hd AT_bs AT_se AT_bf AT_te AT_by AT_an AT_vs vT_ab vT_be vT_byl vT_tka vT_tkl vT_tkn vT_val fT_al fT_rf fT_hd) H := hP
  have hD : va_D A (wd_X8_then cI cZ AT AT_al AT_kp AT_ik AT_rf AT_hd AT_bs AT_se AT_bf AT_te AT_by AT_an AT_vs vT_ab vT_be vT_byl vT_tka vT_tkl vT_tkn vT_val fT_al fT_rf fT_hd) := hD
  refine lv_if_eq (tgt := 20) hx hb dX8_then_5 (by decide) (fun c_5 => ?_) (fun c_5 => ?_)
  · have hm := it_s c_5 hm
    refine lv_aload_n hx hb dX8_then_20 rfl (lv_at hl 0 rfl) ?_
    refine lv_bipush (v := (-2)) hx hb dX8_then_21 (by decide) ?_
    obtain ⟨r_23, hc_23, hm⟩ := ob_s hm
    refine q_ci (q_rv (rest := []) ⟨hx, hb, hml, hown, hts⟩ hK hN hP hD (c_X8_bad l D cI cZ H.size AT AT_al AT_kp AT_ik AT_rf AT_hd AT_bs AT_se AT_bf AT_te AT_by AT_an AT_vs vT_ab vT_be vT_byl vT_tka vT_tkl vT_tkn vT_val fT_rf (-2) r_23 hc_23) mb_X8_bad mv_X8_bad wl_X8_75 [0, 2] rfl rfl rfl (Nat.le_of_ble_eq_true rfl) (Nat.le_of_ble_eq_true rfl) rfl hl.1 rfl (Nat.le_of_ble_eq_true rfl) ⟨Nat.le_refl 0, Nat.le_refl 0⟩ dX8_then_23) hP hD hS hA [0, 2] rfl rfl (fun H locs hP hD hS => ?_)
    have hP : va_P D vwCl (wd_X8_then cI cZ AT AT_al AT_kp AT_ik AT_rf AT_hd AT_bs AT_se AT_bf AT_te AT_by AT_an AT_vs vT_ab vT_be vT_byl vT_tka vT_tkl vT_tkn vT_val fT_al r_23.2 fT_hd) H := hP
    have hD : va_D A (wd_X8_then cI cZ AT AT_al AT_kp AT_ik AT_rf AT_hd AT_bs AT_se AT_bf AT_te AT_by AT_an AT_vs vT_ab vT_be vT_byl vT_tka vT_tkl vT_tkn vT_val fT_al r_23.2 fT_hd) := hD
    have hm := Option.some.inj hm
    subst hm
    exact q_iret (v := r_23.1) hx hb hr hlocks hP hS dX8_then_26
  · have hm := it_n c_5 hm
    refine lv_iload_n hx hb dX8_then_8 rfl (lv_at hl 2 rfl) ?_
    refine lv_i2l (v := (Int32.toInt64 p2)) hx hb dX8_then_9 rfl ?_
    refine lv_lconst (v := 0) hx hb dX8_then_10 (by decide) ?_
    refine lv_ldc2 (v := 60) hx hb hown (hts _ wv_X8_113) dX8_then_11 ?_
    obtain ⟨r_14, hc_14, hm⟩ := ob_s hm
    refine q_ci (q_rs (rest := []) ⟨hx, hb, hml, hown, hts⟩ hK hN hP hD (c_X8_in l D cI cZ H.size (Int32.toInt64 p2) 0 60 r_14 hc_14) mb_X8_in wt_X8_in wl_X8_59 [] rfl rfl (Nat.le_of_ble_eq_true rfl) (Nat.le_of_ble_eq_true rfl) rfl hl.1 rfl (Nat.le_of_ble_eq_true rfl) ⟨Nat.le_refl 0, Nat.le_refl 0⟩ dX8_then_14) hP hD hS hA [] rfl rfl (fun H locs hP hD hS => ?_)
    have hP : va_P D vwCl (wd_X8_then cI cZ AT AT_al AT_kp AT_ik AT_rf AT_hd AT_bs AT_se AT_bf AT_te AT_by AT_an AT_vs vT_ab vT_be vT_byl vT_tka vT_tkl vT_tkn vT_val fT_al fT_rf fT_hd) H := hP
    have hD : va_D A (wd_X8_then cI cZ AT AT_al AT_kp AT_ik AT_rf AT_hd AT_bs AT_se AT_bf AT_te AT_by AT_an AT_vs vT_ab vT_be vT_byl vT_tka vT_tkl vT_tkn vT_val fT_al fT_rf fT_hd) := hD
    refine lv_if_ne (tgt := 27) hx hb dX8_then_17 (by decide) (fun c_17 => ?_) (fun c_17 => ?_)
    · have hm := it_n c_17 hm
      refine lv_aload_n hx hb dX8_then_27 rfl (lv_at hl 0 rfl) ?_
      obtain ⟨r_28, hc_28, hm⟩ := ob_s hm
      refine q_cv (q_rv (rest := []) ⟨hx, hb, hml, hown, hts⟩ hK hN hP hD (c_X8_layHand l D cI cZ H.size AT AT_al AT_kp AT_ik AT_rf AT_hd AT_bs AT_se AT_bf AT_te AT_by AT_an AT_vs vT_ab vT_be vT_byl vT_tka vT_tkl vT_tkn vT_val fT_al fT_hd r_28 hc_28) mb_X8_layHand mv_X8_layHand wl_X8_145 [0, 1, 3] rfl rfl rfl (Nat.le_of_ble_eq_true rfl) (Nat.le_of_ble_eq_true rfl) rfl hl.1 rfl (Nat.le_of_ble_eq_true rfl) ⟨Nat.le_refl 0, Nat.le_refl 0⟩ dX8_then_28) hP hD hS hA [0, 1, 3] rfl rfl (fun H locs hP hD hS => ?_)
      have hP : va_P D vwCl (wd_X8_then cI cZ AT AT_al AT_kp AT_ik AT_rf AT_hd AT_bs AT_se AT_bf AT_te AT_by AT_an AT_vs vT_ab vT_be vT_byl vT_tka vT_tkl vT_tkn vT_val fT_al fT_rf r_28) H := hP
      have hD : va_D A (wd_X8_then cI cZ AT AT_al AT_kp AT_ik AT_rf AT_hd AT_bs AT_se AT_bf AT_te AT_by AT_an AT_vs vT_ab vT_be vT_byl vT_tka vT_tkl vT_tkn vT_val fT_al fT_rf r_28) := hD
      refine lv_iconst (v := 0) hx hb dX8_then_31 (by decide) ?_
      refine lv_istore_n (lv' := [(3, .int 0), (0, .ref AT), (1, .int p1), (2, .int p2)]) hx hb dX8_then_32 rfl hl (by decide) rfl (fun ls hl => ?_)
      exact hL_33 FU 0 fT_rf r_28 H locs ls hm hP hD hS (lv_sub hl [0, 1, 2, 3] rfl)
    · have hm := it_s c_17 hm
      refine lv_aload_n hx hb dX8_then_20 rfl (lv_at hl 0 rfl) ?_
      refine lv_bipush (v := (-2)) hx hb dX8_then_21 (by decide) ?_
      obtain ⟨r_23, hc_23, hm⟩ := ob_s hm
      refine q_ci (q_rv (rest := []) ⟨hx, hb, hml, hown, hts⟩ hK hN hP hD (c_X8_bad l D cI cZ H.size AT AT_al AT_kp AT_ik AT_rf AT_hd AT_bs AT_se AT_bf AT_te AT_by AT_an AT_vs vT_ab vT_be vT_byl vT_tka vT_tkl vT_tkn vT_val fT_rf (-2) r_23 hc_23) mb_X8_bad mv_X8_bad wl_X8_75 [0, 2] rfl rfl rfl (Nat.le_of_ble_eq_true rfl) (Nat.le_of_ble_eq_true rfl) rfl hl.1 rfl (Nat.le_of_ble_eq_true rfl) ⟨Nat.le_refl 0, Nat.le_refl 0⟩ dX8_then_23) hP hD hS hA [0, 2] rfl rfl (fun H locs hP hD hS => ?_)
      have hP : va_P D vwCl (wd_X8_then cI cZ AT AT_al AT_kp AT_ik AT_rf AT_hd AT_bs AT_se AT_bf AT_te AT_by AT_an AT_vs vT_ab vT_be vT_byl vT_tka vT_tkl vT_tkn vT_val fT_al r_23.2 fT_hd) H := hP
      have hD : va_D A (wd_X8_then cI cZ AT AT_al AT_kp AT_ik AT_rf AT_hd AT_bs AT_se AT_bf AT_te AT_by AT_an AT_vs vT_ab vT_be vT_byl vT_tka vT_tkl vT_tkn vT_val fT_al r_23.2 fT_hd) := hD
      have hm := Option.some.inj hm
      subst hm
      exact q_iret (v := r_23.1) hx hb hr hlocks hP hS dX8_then_26
theorem mb_X8_soonest : q_mb yX8_soonest cX8_soonest 3 (some .int) 1 := ⟨wc_X8_soonest, wn_X8, by decide, by decide, by decide +kernel⟩
theorem mv_X8_soonest : q_mv yX8_soonest 8 := ⟨wi_X8_soonest, ws_X8_soonest, _, rfl, rfl⟩
def wd_X8_soonest (cI cZ : ClassId) (AT AT_al AT_kp AT_ik AT_rf AT_hd AT_bs AT_se AT_bf AT_te AT_by AT_an AT_vs : Nat) (vT_ab : Int64) (vT_be : Int64) (vT_byl : Int32) (vT_tka : Int32) (vT_tkl : Int32) (vT_tkn : Int32) (vT_val : Int32) (fT_hd : Nat → Int32) : va_W := [(AT, .inr (8, [.ref AT_al, .ref AT_kp, .ref AT_ik, .ref AT_rf, .long vT_ab, .long vT_be, .ref AT_hd, .ref AT_bs, .ref AT_se, .ref AT_bf, .ref AT_te, .ref AT_by, .int vT_byl, .int vT_tka, .int vT_tkl, .int vT_tkn, .int vT_val, .ref AT_an, .ref AT_vs])), (AT_hd, .inl (cI, 49, .inl fT_hd))]
def fL_X8_soonest_2 (p1 : Int32) : Nat → Int32 → (Nat → Int32) → Option (Int32 × (Nat → Int32))
  | 0, _, _ => none
  | fu + 1, x2, fT_hd => if 60 < x2 then (some ((-1), fT_hd)) else (gd (18 + p1) 49 (if (fT_hd (Int32.toNatClampNeg (18 + p1))) < 20 then (Option.bind (fm_X8_goNight 49 fT_hd) (fun r_28 => fL_X8_soonest_2 p1 fu (x2 + 1) r_28)) else (some (x2, fT_hd))))
def fm_X8_soonest (p1 : Int32) (fT_hd : Nat → Int32) : Option (Int32 × (Nat → Int32)) := fL_X8_soonest_2 p1 FU 0 fT_hd
set_option maxHeartbeats 4000000 in
set_option maxRecDepth 100000 in
theorem c_X8_soonest (l : Launch) (D : va_G) (cI cZ : ClassId) (sz : Nat) (AT AT_al AT_kp AT_ik AT_rf AT_hd AT_bs AT_se AT_bf AT_te AT_by AT_an AT_vs : Nat) (vT_ab : Int64) (vT_be : Int64) (vT_byl : Int32) (vT_tka : Int32) (vT_tkl : Int32) (vT_tkn : Int32) (vT_val : Int32) (fT_hd : Nat → Int32) (p1 : Int32) (out : (Int32 × (Nat → Int32))) (hm : fm_X8_soonest p1 fT_hd = some out) : Met l yX8_soonest (Cond.code yX8_soonest cX8_soonest 3 (some .int) :: bg) { frames := 4, cells := 0, slots := 0, locals := 92 } (va_Pc [.ref AT, .int p1] (q_pre D cI cZ sz (wd_X8_soonest cI cZ AT AT_al AT_kp AT_ik AT_rf AT_hd AT_bs AT_se AT_bf AT_te AT_by AT_an AT_vs vT_ab vT_be vT_byl vT_tka vT_tkl vT_tkn vT_val fT_hd))) (q_Qi D (wd_X8_soonest cI cZ AT AT_al AT_kp AT_ik AT_rf AT_hd AT_bs AT_se AT_bf AT_te AT_by AT_an AT_vs vT_ab vT_be vT_byl vT_tka vT_tkl vT_tkn vT_val out.2) out.1 (va_A (wd_X8_soonest cI cZ AT AT_al AT_kp AT_ik AT_rf AT_hd AT_bs AT_se AT_bf AT_te AT_by AT_an AT_vs vT_ab vT_be vT_byl vT_tka vT_tkl vT_tkn vT_val fT_hd) sz)) 0 0 (va_A (wd_X8_soonest cI cZ AT AT_al AT_kp AT_ik AT_rf AT_hd AT_bs AT_se AT_bf AT_te AT_by AT_an AT_vs vT_ab vT_be vT_byl vT_tka vT_tkl vT_tkn vT_val fT_hd) sz) := by
  refine q_met (fun A => q_Qi D (wd_X8_soonest cI cZ AT AT_al AT_kp AT_ik AT_rf AT_hd AT_bs AT_se AT_bf AT_te AT_by AT_an AT_vs vT_ab vT_be vT_byl vT_tka vT_tkl vT_tkn vT_val out.2) out.1 A) (by decide) (Nat.le_of_ble_eq_true rfl) ?_
  intro p e s m below meth c ls A hx hb hr hml hown hts hlocks _ hA hS hP hD hK hN hl
  have hown : s.vm.findClass RX8 = some m.cls := hown
  have hl : lv_has ls 3 [(0, .ref AT), (1, .int p1)] := hl
  have hL_2 : ∀ (fu_2 : Nat) (x2 : Int32) (fT_hd : Nat → Int32) (H : Heap) (locs : List Loc) (ls : Array Slot), fL_X8_soonest_2 p1 fu_2 x2 fT_hd = some out → va_P D vwCl (wd_X8_soonest cI cZ AT AT_al AT_kp AT_ik AT_rf AT_hd AT_bs AT_se AT_bf AT_te AT_by AT_an AT_vs vT_ab vT_be vT_byl vT_tka vT_tkl vT_tkn vT_val fT_hd) H → va_D A (wd_X8_soonest cI cZ AT AT_al AT_kp AT_ik AT_rf AT_hd AT_bs AT_se AT_bf AT_te AT_by AT_an AT_vs vT_ab vT_be vT_byl vT_tka vT_tkl vT_tkn vT_val fT_hd) → va_S A s.heap H locs → lv_has ls 3 [(2, .int x2), (0, .ref AT), (1, .int p1)] → W p l e { frames := 4, cells := 0, slots := 0, locals := 92 } s m ([.ref AT, .int p1] : List Value).toArray below meth c H locs 0 0 (MQ below (q_Qi D (wd_X8_soonest cI cZ AT AT_al AT_kp AT_ik AT_rf AT_hd AT_bs AT_se AT_bf AT_te AT_by AT_an AT_vs vT_ab vT_be vT_byl vT_tka vT_tkl vT_tkn vT_val out.2) out.1 A) ([.ref AT, .int p1] : List Value).toArray s 0 0 A) (F0 m 2 ls []) := by
    intro fu_2
    induction fu_2 with
    | zero => intro x2 fT_hd H locs ls hm hP hD hS hl; exact absurd (show (none : Option (Int32 × (Nat → Int32))) = some out from hm) (fun h => nomatch h)
    | succ fu_2 ih_2 =>
      intro x2 fT_hd H locs ls hm hP hD hS hl
      rw [fL_X8_soonest_2] at hm
      refine lv_iload_n hx hb dX8_soonest_2 rfl (lv_at hl 0 rfl) ?_
      refine lv_bipush (v := 60) hx hb dX8_soonest_3 (by decide) ?_
      refine lv_icmp_gt (tgt := 37) hx hb dX8_soonest_5 (by decide) (fun c_5 => ?_) (fun c_5 => ?_)
      · have hm := it_s c_5 hm
        refine lv_iconst (v := (-1)) hx hb dX8_soonest_37 (by decide) ?_
        have hm := Option.some.inj hm
        subst hm
        exact q_iret (v := (-1)) hx hb hr hlocks hP hS dX8_soonest_38
      · have hm := it_n c_5 hm
        refine lv_aload_n hx hb dX8_soonest_8 rfl (lv_at hl 1 rfl) ?_
        refine gf_X8_27 (v := .ref AT_hd) hx hb hts hown hK hN hP 0 rfl rfl dX8_soonest_9 ?_
        refine lv_bipush (v := 18) hx hb dX8_soonest_12 (by decide) ?_
        refine lv_iload_n hx hb dX8_soonest_14 rfl (lv_at hl 2 rfl) ?_
        refine lv_iadd hx hb dX8_soonest_15 ?_
        obtain ⟨hi_16, hm⟩ := gd_s hm
        refine q_iald (j := (Int32.toNatClampNeg (18 + p1))) hx hb hK hP 1 rfl hi_16 rfl dX8_soonest_16 ?_
        refine lv_bipush (v := 20) hx hb dX8_soonest_17 (by decide) ?_
        refine lv_icmp_lt (tgt := 24) hx hb dX8_soonest_19 (by decide) (fun c_19 => ?_) (fun c_19 => ?_)
        · have hm := it_s c_19 hm
          refine lv_aload_n hx hb dX8_soonest_24 rfl (lv_at hl 1 rfl) ?_
          refine gf_X8_27 (v := .ref AT_hd) hx hb hts hown hK hN hP 0 rfl rfl dX8_soonest_25 ?_
          obtain ⟨r_28, hc_28, hm⟩ := ob_s hm
          refine q_cv (q_rs (rest := []) ⟨hx, hb, hml, hown, hts⟩ hK hN hP hD (c_X8_goNight l D cI cZ H.size AT_hd 49 fT_hd r_28 hc_28) mb_X8_goNight wt_X8_goNight wl_X8_110 [1] rfl rfl (Nat.le_of_ble_eq_true rfl) (Nat.le_of_ble_eq_true rfl) rfl hl.1 rfl (Nat.le_of_ble_eq_true rfl) ⟨Nat.le_refl 0, Nat.le_refl 0⟩ dX8_soonest_28) hP hD hS hA [1] rfl rfl (fun H locs hP hD hS => ?_)
          have hP : va_P D vwCl (wd_X8_soonest cI cZ AT AT_al AT_kp AT_ik AT_rf AT_hd AT_bs AT_se AT_bf AT_te AT_by AT_an AT_vs vT_ab vT_be vT_byl vT_tka vT_tkl vT_tkn vT_val r_28) H := hP
          have hD : va_D A (wd_X8_soonest cI cZ AT AT_al AT_kp AT_ik AT_rf AT_hd AT_bs AT_se AT_bf AT_te AT_by AT_an AT_vs vT_ab vT_be vT_byl vT_tka vT_tkl vT_tkn vT_val r_28) := hD
          refine lv_iinc (v := (x2 + 1)) (lv' := [(2, .int (x2 + 1)), (0, .ref AT), (1, .int p1)]) hx hb dX8_soonest_31 hl (k := 0) rfl rfl (by decide) rfl (fun ls hl => ?_)
          refine lv_goto (tgt := 2) hx hb dX8_soonest_34 (by decide) ?_
          exact ih_2 (x2 + 1) r_28 H locs ls hm hP hD hS (lv_sub hl [0, 1, 2] rfl)
        · have hm := it_n c_19 hm
          refine lv_iload_n hx hb dX8_soonest_22 rfl (lv_at hl 0 rfl) ?_
          have hm := Option.some.inj hm
          subst hm
          exact q_iret (v := x2) hx hb hr hlocks hP hS dX8_soonest_23
  unfold fm_X8_soonest at hm
  refine q_gen hS hP ?_
  intro H locs hP hS
  refine lv_iconst (v := 0) hx hb dX8_soonest_0 (by decide) ?_
  refine lv_istore_n (lv' := [(2, .int 0), (0, .ref AT), (1, .int p1)]) hx hb dX8_soonest_1 rfl hl (by decide) rfl (fun ls hl => ?_)
  exact hL_2 FU 0 fT_hd H locs ls hm hP hD hS (lv_sub hl [0, 1, 2] rfl)
theorem mb_X8_when : q_mb yX8_when cX8_when 2 (some .int) 1 := ⟨wc_X8_when, wn_X8, by decide, by decide, by decide +kernel⟩
theorem mv_X8_when : q_mv yX8_when 8 := ⟨wi_X8_when, ws_X8_when, _, rfl, rfl⟩
def wd_X8_when (cI cZ : ClassId) (AT AT_al AT_kp AT_ik AT_rf AT_hd AT_bs AT_se AT_bf AT_te AT_by AT_an AT_vs : Nat) (vT_ab : Int64) (vT_be : Int64) (vT_byl : Int32) (vT_tka : Int32) (vT_tkl : Int32) (vT_tkn : Int32) (vT_val : Int32) (fT_al : Nat → Int32) (fT_hd : Nat → Int32) (fT_rf : Nat → Int32) : va_W := [(AT, .inr (8, [.ref AT_al, .ref AT_kp, .ref AT_ik, .ref AT_rf, .long vT_ab, .long vT_be, .ref AT_hd, .ref AT_bs, .ref AT_se, .ref AT_bf, .ref AT_te, .ref AT_by, .int vT_byl, .int vT_tka, .int vT_tkl, .int vT_tkn, .int vT_val, .ref AT_an, .ref AT_vs])), (AT_al, .inl (cI, 312, .inl fT_al)), (AT_hd, .inl (cI, 49, .inl fT_hd)), (AT_rf, .inl (cI, 3, .inl fT_rf))]
def fm_X8_when (p1 : Int32) (fT_al : Nat → Int32) (fT_hd : Nat → Int32) (fT_rf : Nat → Int32) : Option (Int32 × (Nat → Int32) × (Nat → Int32)) := Option.bind (fm_X8_isSleeper p1 fT_al) (fun r_2 => if r_2 = 0 then (Option.bind (fm_X8_bad (-2) fT_rf) (fun r_11 => some (r_11.1, fT_hd, r_11.2))) else (Option.bind (fm_X8_layHand fT_al fT_hd) (fun r_16 => Option.bind (fm_X8_soonest p1 r_16) (fun r_21 => some (r_21.1, r_21.2, fT_rf)))))
set_option maxHeartbeats 4000000 in
set_option maxRecDepth 100000 in
theorem c_X8_when (l : Launch) (D : va_G) (cI cZ : ClassId) (sz : Nat) (AT AT_al AT_kp AT_ik AT_rf AT_hd AT_bs AT_se AT_bf AT_te AT_by AT_an AT_vs : Nat) (vT_ab : Int64) (vT_be : Int64) (vT_byl : Int32) (vT_tka : Int32) (vT_tkl : Int32) (vT_tkn : Int32) (vT_val : Int32) (fT_al : Nat → Int32) (fT_hd : Nat → Int32) (fT_rf : Nat → Int32) (p1 : Int32) (out : (Int32 × (Nat → Int32) × (Nat → Int32))) (hm : fm_X8_when p1 fT_al fT_hd fT_rf = some out) : Met l yX8_when (Cond.code yX8_when cX8_when 2 (some .int) :: bg) { frames := 5, cells := 0, slots := 0, locals := 114 } (va_Pc [.ref AT, .int p1] (q_pre D cI cZ sz (wd_X8_when cI cZ AT AT_al AT_kp AT_ik AT_rf AT_hd AT_bs AT_se AT_bf AT_te AT_by AT_an AT_vs vT_ab vT_be vT_byl vT_tka vT_tkl vT_tkn vT_val fT_al fT_hd fT_rf))) (q_Qi D (wd_X8_when cI cZ AT AT_al AT_kp AT_ik AT_rf AT_hd AT_bs AT_se AT_bf AT_te AT_by AT_an AT_vs vT_ab vT_be vT_byl vT_tka vT_tkl vT_tkn vT_val fT_al out.2.1 out.2.2) out.1 (va_A (wd_X8_when cI cZ AT AT_al AT_kp AT_ik AT_rf AT_hd AT_bs AT_se AT_bf AT_te AT_by AT_an AT_vs vT_ab vT_be vT_byl vT_tka vT_tkl vT_tkn vT_val fT_al fT_hd fT_rf) sz)) 0 0 (va_A (wd_X8_when cI cZ AT AT_al AT_kp AT_ik AT_rf AT_hd AT_bs AT_se AT_bf AT_te AT_by AT_an AT_vs vT_ab vT_be vT_byl vT_tka vT_tkl vT_tkn vT_val fT_al fT_hd fT_rf) sz) := by
  refine q_met (fun A => q_Qi D (wd_X8_when cI cZ AT AT_al AT_kp AT_ik AT_rf AT_hd AT_bs AT_se AT_bf AT_te AT_by AT_an AT_vs vT_ab vT_be vT_byl vT_tka vT_tkl vT_tkn vT_val fT_al out.2.1 out.2.2) out.1 A) (by decide) (Nat.le_of_ble_eq_true rfl) ?_
  intro p e s m below meth c ls A hx hb hr hml hown hts hlocks _ hA hS hP hD hK hN hl
  have hown : s.vm.findClass RX8 = some m.cls := hown
  have hl : lv_has ls 2 [(0, .ref AT), (1, .int p1)] := hl
  unfold fm_X8_when at hm
  refine q_gen hS hP ?_
  intro H locs hP hS
  refine lv_aload_n hx hb dX8_when_0 rfl (lv_at hl 0 rfl) ?_
  refine lv_iload_n hx hb dX8_when_1 rfl (lv_at hl 1 rfl) ?_
  obtain ⟨r_2, hc_2, hm⟩ := ob_s hm
  refine q_ci (q_rv (rest := []) ⟨hx, hb, hml, hown, hts⟩ hK hN hP hD (c_X8_isSleeper l D cI cZ H.size AT AT_al AT_kp AT_ik AT_rf AT_hd AT_bs AT_se AT_bf AT_te AT_by AT_an AT_vs vT_ab vT_be vT_byl vT_tka vT_tkl vT_tkn vT_val fT_al p1 r_2 hc_2) mb_X8_isSleeper mv_X8_isSleeper wl_X8_132 [0, 1] rfl rfl rfl (Nat.le_of_ble_eq_true rfl) (Nat.le_of_ble_eq_true rfl) rfl hl.1 rfl (Nat.le_of_ble_eq_true rfl) ⟨Nat.le_refl 0, Nat.le_refl 0⟩ dX8_when_2) hP hD hS hA [0, 1] rfl rfl (fun H locs hP hD hS => ?_)
  have hP : va_P D vwCl (wd_X8_when cI cZ AT AT_al AT_kp AT_ik AT_rf AT_hd AT_bs AT_se AT_bf AT_te AT_by AT_an AT_vs vT_ab vT_be vT_byl vT_tka vT_tkl vT_tkn vT_val fT_al fT_hd fT_rf) H := hP
  have hD : va_D A (wd_X8_when cI cZ AT AT_al AT_kp AT_ik AT_rf AT_hd AT_bs AT_se AT_bf AT_te AT_by AT_an AT_vs vT_ab vT_be vT_byl vT_tka vT_tkl vT_tkn vT_val fT_al fT_hd fT_rf) := hD
  refine lv_if_ne (tgt := 15) hx hb dX8_when_5 (by decide) (fun c_5 => ?_) (fun c_5 => ?_)
  · have hm := it_n c_5 hm
    refine lv_aload_n hx hb dX8_when_15 rfl (lv_at hl 0 rfl) ?_
    obtain ⟨r_16, hc_16, hm⟩ := ob_s hm
    refine q_cv (q_rv (rest := []) ⟨hx, hb, hml, hown, hts⟩ hK hN hP hD (c_X8_layHand l D cI cZ H.size AT AT_al AT_kp AT_ik AT_rf AT_hd AT_bs AT_se AT_bf AT_te AT_by AT_an AT_vs vT_ab vT_be vT_byl vT_tka vT_tkl vT_tkn vT_val fT_al fT_hd r_16 hc_16) mb_X8_layHand mv_X8_layHand wl_X8_145 [0, 1, 2] rfl rfl rfl (Nat.le_of_ble_eq_true rfl) (Nat.le_of_ble_eq_true rfl) rfl hl.1 rfl (Nat.le_of_ble_eq_true rfl) ⟨Nat.le_refl 0, Nat.le_refl 0⟩ dX8_when_16) hP hD hS hA [0, 1, 2] rfl rfl (fun H locs hP hD hS => ?_)
    have hP : va_P D vwCl (wd_X8_when cI cZ AT AT_al AT_kp AT_ik AT_rf AT_hd AT_bs AT_se AT_bf AT_te AT_by AT_an AT_vs vT_ab vT_be vT_byl vT_tka vT_tkl vT_tkn vT_val fT_al r_16 fT_rf) H := hP
    have hD : va_D A (wd_X8_when cI cZ AT AT_al AT_kp AT_ik AT_rf AT_hd AT_bs AT_se AT_bf AT_te AT_by AT_an AT_vs vT_ab vT_be vT_byl vT_tka vT_tkl vT_tkn vT_val fT_al r_16 fT_rf) := hD
    refine lv_aload_n hx hb dX8_when_19 rfl (lv_at hl 0 rfl) ?_
    refine lv_iload_n hx hb dX8_when_20 rfl (lv_at hl 1 rfl) ?_
    obtain ⟨r_21, hc_21, hm⟩ := ob_s hm
    refine q_ci (q_rv (rest := []) ⟨hx, hb, hml, hown, hts⟩ hK hN hP hD (c_X8_soonest l D cI cZ H.size AT AT_al AT_kp AT_ik AT_rf AT_hd AT_bs AT_se AT_bf AT_te AT_by AT_an AT_vs vT_ab vT_be vT_byl vT_tka vT_tkl vT_tkn vT_val r_16 p1 r_21 hc_21) mb_X8_soonest mv_X8_soonest wl_X8_148 [0, 2] rfl rfl rfl (Nat.le_of_ble_eq_true rfl) (Nat.le_of_ble_eq_true rfl) rfl hl.1 rfl (Nat.le_of_ble_eq_true rfl) ⟨Nat.le_refl 0, Nat.le_refl 0⟩ dX8_when_21) hP hD hS hA [0, 2] rfl rfl (fun H locs hP hD hS => ?_)
    have hP : va_P D vwCl (wd_X8_when cI cZ AT AT_al AT_kp AT_ik AT_rf AT_hd AT_bs AT_se AT_bf AT_te AT_by AT_an AT_vs vT_ab vT_be vT_byl vT_tka vT_tkl vT_tkn vT_val fT_al r_21.2 fT_rf) H := hP
    have hD : va_D A (wd_X8_when cI cZ AT AT_al AT_kp AT_ik AT_rf AT_hd AT_bs AT_se AT_bf AT_te AT_by AT_an AT_vs vT_ab vT_be vT_byl vT_tka vT_tkl vT_tkn vT_val fT_al r_21.2 fT_rf) := hD
    have hm := Option.some.inj hm
    subst hm
    exact q_iret (v := r_21.1) hx hb hr hlocks hP hS dX8_when_24
  · have hm := it_s c_5 hm
    refine lv_aload_n hx hb dX8_when_8 rfl (lv_at hl 0 rfl) ?_
    refine lv_bipush (v := (-2)) hx hb dX8_when_9 (by decide) ?_
    obtain ⟨r_11, hc_11, hm⟩ := ob_s hm
    refine q_ci (q_rv (rest := []) ⟨hx, hb, hml, hown, hts⟩ hK hN hP hD (c_X8_bad l D cI cZ H.size AT AT_al AT_kp AT_ik AT_rf AT_hd AT_bs AT_se AT_bf AT_te AT_by AT_an AT_vs vT_ab vT_be vT_byl vT_tka vT_tkl vT_tkn vT_val fT_rf (-2) r_11 hc_11) mb_X8_bad mv_X8_bad wl_X8_75 [0, 3] rfl rfl rfl (Nat.le_of_ble_eq_true rfl) (Nat.le_of_ble_eq_true rfl) rfl hl.1 rfl (Nat.le_of_ble_eq_true rfl) ⟨Nat.le_refl 0, Nat.le_refl 0⟩ dX8_when_11) hP hD hS hA [0, 3] rfl rfl (fun H locs hP hD hS => ?_)
    have hP : va_P D vwCl (wd_X8_when cI cZ AT AT_al AT_kp AT_ik AT_rf AT_hd AT_bs AT_se AT_bf AT_te AT_by AT_an AT_vs vT_ab vT_be vT_byl vT_tka vT_tkl vT_tkn vT_val fT_al fT_hd r_11.2) H := hP
    have hD : va_D A (wd_X8_when cI cZ AT AT_al AT_kp AT_ik AT_rf AT_hd AT_bs AT_se AT_bf AT_te AT_by AT_an AT_vs vT_ab vT_be vT_byl vT_tka vT_tkl vT_tkn vT_val fT_al fT_hd r_11.2) := hD
    have hm := Option.some.inj hm
    subst hm
    exact q_iret (v := r_11.1) hx hb hr hlocks hP hS dX8_when_14
theorem mb_X8_believedBy : q_mb yX8_believedBy cX8_believedBy 7 (some .int) 1 := ⟨wc_X8_believedBy, wn_X8, by decide, by decide, by decide +kernel⟩
theorem mv_X8_believedBy : q_mv yX8_believedBy 8 := ⟨wi_X8_believedBy, ws_X8_believedBy, _, rfl, rfl⟩
def wd_X8_believedBy (cI cZ : ClassId) (AT AT_al AT_kp AT_ik AT_rf AT_hd AT_bs AT_se AT_bf AT_te AT_by AT_an AT_vs : Nat) (vT_ab : Int64) (vT_be : Int64) (vT_byl : Int32) (vT_tka : Int32) (vT_tkl : Int32) (vT_tkn : Int32) (vT_val : Int32) (fT_al : Nat → Int32) : va_W := [(AT, .inr (8, [.ref AT_al, .ref AT_kp, .ref AT_ik, .ref AT_rf, .long vT_ab, .long vT_be, .ref AT_hd, .ref AT_bs, .ref AT_se, .ref AT_bf, .ref AT_te, .ref AT_by, .int vT_byl, .int vT_tka, .int vT_tkl, .int vT_tkn, .int vT_val, .ref AT_an, .ref AT_vs])), (AT_al, .inl (cI, 312, .inl fT_al))]
def fL_X8_believedBy_15 (p1 : Int32) (fT_al : Nat → Int32) : Nat → Int32 → Int32 → Int32 → Int32 → Option (Int32)
  | 0, _, _, _, _ => none
  | fu + 1, x5, x4, x3, x2 => if x5 < 0 then (some (x4)) else (Option.bind (fm_X8_has x3 (x2 - x2 / 6 * 6)) (fun r_34 => if r_34 = 0 then (Option.bind (fm_X8_believesOn 312 x5 (x2 - x2 / 6 * 6) fT_al) (fun r_59 => fL_X8_believedBy_15 p1 fT_al fu (x5 + (-1)) (x4 + r_59) (x3 ||| (1 <<< ((x2 - x2 / 6 * 6) &&& 31))) (x2 / 6))) else (some ((-1)))))
def fm_X8_believedBy (p1 : Int32) (fT_al : Nat → Int32) : Option (Int32) := Option.bind (fm_X8_many fT_al) (fun r_8 => fL_X8_believedBy_15 p1 fT_al FU (r_8 - 1) 0 0 p1)
set_option maxHeartbeats 4000000 in
set_option maxRecDepth 100000 in
theorem c_X8_believedBy (l : Launch) (D : va_G) (cI cZ : ClassId) (sz : Nat) (AT AT_al AT_kp AT_ik AT_rf AT_hd AT_bs AT_se AT_bf AT_te AT_by AT_an AT_vs : Nat) (vT_ab : Int64) (vT_be : Int64) (vT_byl : Int32) (vT_tka : Int32) (vT_tkl : Int32) (vT_tkn : Int32) (vT_val : Int32) (fT_al : Nat → Int32) (p1 : Int32) (out : (Int32)) (hm : fm_X8_believedBy p1 fT_al = some out) : Met l yX8_believedBy (Cond.code yX8_believedBy cX8_believedBy 7 (some .int) :: bg) { frames := 3, cells := 0, slots := 0, locals := 70 } (va_Pc [.ref AT, .int p1] (q_pre D cI cZ sz (wd_X8_believedBy cI cZ AT AT_al AT_kp AT_ik AT_rf AT_hd AT_bs AT_se AT_bf AT_te AT_by AT_an AT_vs vT_ab vT_be vT_byl vT_tka vT_tkl vT_tkn vT_val fT_al))) (q_Qi D (wd_X8_believedBy cI cZ AT AT_al AT_kp AT_ik AT_rf AT_hd AT_bs AT_se AT_bf AT_te AT_by AT_an AT_vs vT_ab vT_be vT_byl vT_tka vT_tkl vT_tkn vT_val fT_al) out (va_A (wd_X8_believedBy cI cZ AT AT_al AT_kp AT_ik AT_rf AT_hd AT_bs AT_se AT_bf AT_te AT_by AT_an AT_vs vT_ab vT_be vT_byl vT_tka vT_tkl vT_tkn vT_val fT_al) sz)) 0 0 (va_A (wd_X8_believedBy cI cZ AT AT_al AT_kp AT_ik AT_rf AT_hd AT_bs AT_se AT_bf AT_te AT_by AT_an AT_vs vT_ab vT_be vT_byl vT_tka vT_tkl vT_tkn vT_val fT_al) sz) := by
  refine q_met (fun A => q_Qi D (wd_X8_believedBy cI cZ AT AT_al AT_kp AT_ik AT_rf AT_hd AT_bs AT_se AT_bf AT_te AT_by AT_an AT_vs vT_ab vT_be vT_byl vT_tka vT_tkl vT_tkn vT_val fT_al) out A) (by decide) (Nat.le_of_ble_eq_true rfl) ?_
  intro p e s m below meth c ls A hx hb hr hml hown hts hlocks _ hA hS hP hD hK hN hl
  have hown : s.vm.findClass RX8 = some m.cls := hown
  have hl : lv_has ls 7 [(0, .ref AT), (1, .int p1)] := hl
  have hL_15 : ∀ (fu_15 : Nat) (x5 : Int32) (x4 : Int32) (x3 : Int32) (x2 : Int32) (H : Heap) (locs : List Loc) (ls : Array Slot), fL_X8_believedBy_15 p1 fT_al fu_15 x5 x4 x3 x2 = some out → va_P D vwCl (wd_X8_believedBy cI cZ AT AT_al AT_kp AT_ik AT_rf AT_hd AT_bs AT_se AT_bf AT_te AT_by AT_an AT_vs vT_ab vT_be vT_byl vT_tka vT_tkl vT_tkn vT_val fT_al) H → va_D A (wd_X8_believedBy cI cZ AT AT_al AT_kp AT_ik AT_rf AT_hd AT_bs AT_se AT_bf AT_te AT_by AT_an AT_vs vT_ab vT_be vT_byl vT_tka vT_tkl vT_tkn vT_val fT_al) → va_S A s.heap H locs → lv_has ls 7 [(5, .int x5), (4, .int x4), (3, .int x3), (2, .int x2), (0, .ref AT)] → W p l e { frames := 3, cells := 0, slots := 0, locals := 70 } s m ([.ref AT, .int p1] : List Value).toArray below meth c H locs 0 0 (MQ below (q_Qi D (wd_X8_believedBy cI cZ AT AT_al AT_kp AT_ik AT_rf AT_hd AT_bs AT_se AT_bf AT_te AT_by AT_an AT_vs vT_ab vT_be vT_byl vT_tka vT_tkl vT_tkn vT_val fT_al) out A) ([.ref AT, .int p1] : List Value).toArray s 0 0 A) (F0 m 15 ls []) := by
    intro fu_15
    induction fu_15 with
    | zero => intro x5 x4 x3 x2 H locs ls hm hP hD hS hl; exact absurd (show (none : Option (Int32)) = some out from hm) (fun h => nomatch h)
    | succ fu_15 ih_15 =>
      intro x5 x4 x3 x2 H locs ls hm hP hD hS hl
      rw [fL_X8_believedBy_15] at hm
      refine lv_iload hx hb dX8_believedBy_15 (lv_at hl 0 rfl) ?_
      refine lv_if_lt (tgt := 71) hx hb dX8_believedBy_17 (by decide) (fun c_17 => ?_) (fun c_17 => ?_)
      · have hm := it_s c_17 hm
        refine lv_iload hx hb dX8_believedBy_71 (lv_at hl 1 rfl) ?_
        have hm := Option.some.inj hm
        subst hm
        exact q_iret (v := x4) hx hb hr hlocks hP hS dX8_believedBy_73
      · have hm := it_n c_17 hm
        refine lv_iload_n hx hb dX8_believedBy_20 rfl (lv_at hl 3 rfl) ?_
        refine lv_bipush (v := 6) hx hb dX8_believedBy_21 (by decide) ?_
        refine lv_irem hx hb dX8_believedBy_23 (by decide) ?_
        refine lv_istore (lv' := [(6, .int (x2 - x2 / 6 * 6)), (5, .int x5), (4, .int x4), (3, .int x3), (2, .int x2), (0, .ref AT)]) hx hb dX8_believedBy_24 hl (by decide) rfl (fun ls hl => ?_)
        refine lv_iload_n hx hb dX8_believedBy_26 rfl (lv_at hl 4 rfl) ?_
        refine lv_bipush (v := 6) hx hb dX8_believedBy_27 (by decide) ?_
        refine lv_idiv hx hb dX8_believedBy_29 (by decide) ?_
        refine lv_istore_n (lv' := [(2, .int (x2 / 6)), (6, .int (x2 - x2 / 6 * 6)), (5, .int x5), (4, .int x4), (3, .int x3), (0, .ref AT)]) hx hb dX8_believedBy_30 rfl hl (by decide) rfl (fun ls hl => ?_)
        refine lv_iload_n hx hb dX8_believedBy_31 rfl (lv_at hl 4 rfl) ?_
        refine lv_iload hx hb dX8_believedBy_32 (lv_at hl 1 rfl) ?_
        obtain ⟨r_34, hc_34, hm⟩ := ob_s hm
        refine q_ci (q_rs (rest := []) ⟨hx, hb, hml, hown, hts⟩ hK hN hP hD (c_X8_has l D cI cZ H.size x3 (x2 - x2 / 6 * 6) r_34 hc_34) mb_X8_has wt_X8_has wl_X8_151 [] rfl rfl (Nat.le_of_ble_eq_true rfl) (Nat.le_of_ble_eq_true rfl) rfl hl.1 rfl (Nat.le_of_ble_eq_true rfl) ⟨Nat.le_refl 0, Nat.le_refl 0⟩ dX8_believedBy_34) hP hD hS hA [] rfl rfl (fun H locs hP hD hS => ?_)
        have hP : va_P D vwCl (wd_X8_believedBy cI cZ AT AT_al AT_kp AT_ik AT_rf AT_hd AT_bs AT_se AT_bf AT_te AT_by AT_an AT_vs vT_ab vT_be vT_byl vT_tka vT_tkl vT_tkn vT_val fT_al) H := hP
        have hD : va_D A (wd_X8_believedBy cI cZ AT AT_al AT_kp AT_ik AT_rf AT_hd AT_bs AT_se AT_bf AT_te AT_by AT_an AT_vs vT_ab vT_be vT_byl vT_tka vT_tkl vT_tkn vT_val fT_al) := hD
        refine lv_if_eq (tgt := 42) hx hb dX8_believedBy_37 (by decide) (fun c_37 => ?_) (fun c_37 => ?_)
        · have hm := it_s c_37 hm
          refine lv_iload_n hx hb dX8_believedBy_42 rfl (lv_at hl 4 rfl) ?_
          refine lv_iconst (v := 1) hx hb dX8_believedBy_43 (by decide) ?_
          refine lv_iload hx hb dX8_believedBy_44 (lv_at hl 1 rfl) ?_
          refine lv_ishl hx hb dX8_believedBy_46 ?_
          refine lv_ior hx hb dX8_believedBy_47 ?_
          refine lv_istore_n (lv' := [(3, .int (x3 ||| (1 <<< ((x2 - x2 / 6 * 6) &&& 31)))), (2, .int (x2 / 6)), (6, .int (x2 - x2 / 6 * 6)), (5, .int x5), (4, .int x4), (0, .ref AT)]) hx hb dX8_believedBy_48 rfl hl (by decide) rfl (fun ls hl => ?_)
          refine lv_iload hx hb dX8_believedBy_49 (lv_at hl 4 rfl) ?_
          refine lv_aload_n hx hb dX8_believedBy_51 rfl (lv_at hl 5 rfl) ?_
          refine gf_X8_7 (v := .ref AT_al) hx hb hts hown hK hN hP 0 rfl rfl dX8_believedBy_52 ?_
          refine lv_iload hx hb dX8_believedBy_55 (lv_at hl 3 rfl) ?_
          refine lv_iload hx hb dX8_believedBy_57 (lv_at hl 2 rfl) ?_
          obtain ⟨r_59, hc_59, hm⟩ := ob_s hm
          refine q_ci (q_rs (rest := [.int x4]) ⟨hx, hb, hml, hown, hts⟩ hK hN hP hD (c_X8_believesOn l D cI cZ H.size AT_al 312 fT_al x5 (x2 - x2 / 6 * 6) r_59 hc_59) mb_X8_believesOn wt_X8_believesOn wl_X8_107 [1] rfl rfl (Nat.le_of_ble_eq_true rfl) (Nat.le_of_ble_eq_true rfl) rfl hl.1 rfl (Nat.le_of_ble_eq_true rfl) ⟨Nat.le_refl 0, Nat.le_refl 0⟩ dX8_believedBy_59) hP hD hS hA [1] rfl rfl (fun H locs hP hD hS => ?_)
          have hP : va_P D vwCl (wd_X8_believedBy cI cZ AT AT_al AT_kp AT_ik AT_rf AT_hd AT_bs AT_se AT_bf AT_te AT_by AT_an AT_vs vT_ab vT_be vT_byl vT_tka vT_tkl vT_tkn vT_val fT_al) H := hP
          have hD : va_D A (wd_X8_believedBy cI cZ AT AT_al AT_kp AT_ik AT_rf AT_hd AT_bs AT_se AT_bf AT_te AT_by AT_an AT_vs vT_ab vT_be vT_byl vT_tka vT_tkl vT_tkn vT_val fT_al) := hD
          refine lv_iadd hx hb dX8_believedBy_62 ?_
          refine lv_istore (lv' := [(4, .int (x4 + r_59)), (3, .int (x3 ||| (1 <<< ((x2 - x2 / 6 * 6) &&& 31)))), (2, .int (x2 / 6)), (6, .int (x2 - x2 / 6 * 6)), (5, .int x5), (0, .ref AT)]) hx hb dX8_believedBy_63 hl (by decide) rfl (fun ls hl => ?_)
          refine lv_iinc (v := (x5 + (-1))) (lv' := [(5, .int (x5 + (-1))), (4, .int (x4 + r_59)), (3, .int (x3 ||| (1 <<< ((x2 - x2 / 6 * 6) &&& 31)))), (2, .int (x2 / 6)), (6, .int (x2 - x2 / 6 * 6)), (0, .ref AT)]) hx hb dX8_believedBy_65 hl (k := 4) rfl rfl (by decide) rfl (fun ls hl => ?_)
          refine lv_goto (tgt := 15) hx hb dX8_believedBy_68 (by decide) ?_
          exact ih_15 (x5 + (-1)) (x4 + r_59) (x3 ||| (1 <<< ((x2 - x2 / 6 * 6) &&& 31))) (x2 / 6) H locs ls hm hP hD hS (lv_sub hl [0, 1, 2, 3, 5] rfl)
        · have hm := it_n c_37 hm
          refine lv_iconst (v := (-1)) hx hb dX8_believedBy_40 (by decide) ?_
          have hm := Option.some.inj hm
          subst hm
          exact q_iret (v := (-1)) hx hb hr hlocks hP hS dX8_believedBy_41
  unfold fm_X8_believedBy at hm
  refine q_gen hS hP ?_
  intro H locs hP hS
  refine lv_iload_n hx hb dX8_believedBy_0 rfl (lv_at hl 1 rfl) ?_
  refine lv_istore_n (lv' := [(2, .int p1), (0, .ref AT), (1, .int p1)]) hx hb dX8_believedBy_1 rfl hl (by decide) rfl (fun ls hl => ?_)
  refine lv_iconst (v := 0) hx hb dX8_believedBy_2 (by decide) ?_
  refine lv_istore_n (lv' := [(3, .int 0), (2, .int p1), (0, .ref AT), (1, .int p1)]) hx hb dX8_believedBy_3 rfl hl (by decide) rfl (fun ls hl => ?_)
  refine lv_iconst (v := 0) hx hb dX8_believedBy_4 (by decide) ?_
  refine lv_istore (lv' := [(4, .int 0), (3, .int 0), (2, .int p1), (0, .ref AT), (1, .int p1)]) hx hb dX8_believedBy_5 hl (by decide) rfl (fun ls hl => ?_)
  refine lv_aload_n hx hb dX8_believedBy_7 rfl (lv_at hl 3 rfl) ?_
  obtain ⟨r_8, hc_8, hm⟩ := ob_s hm
  refine q_ci (q_rv (rest := []) ⟨hx, hb, hml, hown, hts⟩ hK hN hP hD (c_X8_many l D cI cZ H.size AT AT_al AT_kp AT_ik AT_rf AT_hd AT_bs AT_se AT_bf AT_te AT_by AT_an AT_vs vT_ab vT_be vT_byl vT_tka vT_tkl vT_tkn vT_val fT_al r_8 hc_8) mb_X8_many mv_X8_many wl_X8_55 [0, 1] rfl rfl rfl (Nat.le_of_ble_eq_true rfl) (Nat.le_of_ble_eq_true rfl) rfl hl.1 rfl (Nat.le_of_ble_eq_true rfl) ⟨Nat.le_refl 0, Nat.le_refl 0⟩ dX8_believedBy_8) hP hD hS hA [0, 1] rfl rfl (fun H locs hP hD hS => ?_)
  have hP : va_P D vwCl (wd_X8_believedBy cI cZ AT AT_al AT_kp AT_ik AT_rf AT_hd AT_bs AT_se AT_bf AT_te AT_by AT_an AT_vs vT_ab vT_be vT_byl vT_tka vT_tkl vT_tkn vT_val fT_al) H := hP
  have hD : va_D A (wd_X8_believedBy cI cZ AT AT_al AT_kp AT_ik AT_rf AT_hd AT_bs AT_se AT_bf AT_te AT_by AT_an AT_vs vT_ab vT_be vT_byl vT_tka vT_tkl vT_tkn vT_val fT_al) := hD
  refine lv_iconst (v := 1) hx hb dX8_believedBy_11 (by decide) ?_
  refine lv_isub hx hb dX8_believedBy_12 ?_
  refine lv_istore (lv' := [(5, .int (r_8 - 1)), (4, .int 0), (3, .int 0), (2, .int p1), (0, .ref AT), (1, .int p1)]) hx hb dX8_believedBy_13 hl (by decide) rfl (fun ls hl => ?_)
  exact hL_15 FU (r_8 - 1) 0 0 p1 H locs ls hm hP hD hS (lv_sub hl [0, 1, 2, 3, 4] rfl)
theorem gf_X8_30 {p : Program} {l : Launch} {e : Env} {R : Room} {s : State} {m : MethodId} {args : Array Value} {below : List Frame} {meth : Method} {c : Code} {H : Heap} {locs : List Loc} {cells slots : Nat} {Q : State → Prop} {pc : Nat} {ls : Array Slot} {cc : ByteArray} {D : va_G} {cI cZ : ClassId} {ws : va_W} {a : Nat} {rest fs : List Value} (hx : p.tables.exec = Jvm.exec) (hb : c.code = cc) (hts : ∀ w ∈ bg, w.before args s = true) (hown : s.vm.findClass RX8 = some m.cls) (hK : va_K D vwCl (q_tys cI cZ) s) (hN : q_N s) (hP : va_P D vwCl ws H) (q0 : Nat) (he : ws[q0]? = some (a, .inr (8, fs))) {v : Value} (hv : fs[7]? = some v) (hdg : decode cc pc = .ok (.getfield 30, 3)) (kk : W p l e R s m args below meth c H locs cells slots Q (F0 m (pc + 3) ls (v :: rest))) : W p l e R s m args below meth c H locs cells slots Q (F0 m pc ls (.ref a :: rest)) :=
  va_get (C := RX8) (T := TX8) (N := 19) hx hb hts wu_X8 hown hK hP q0 he rfl 7 (by decide) (hts _ wf_X8_30) (fun _ h9 => h9) hv hdg kk
theorem mb_X8_pillows : q_mb yX8_pillows cX8_pillows 9 (some .int) 2 := ⟨wc_X8_pillows, wn_X8, by decide, by decide, by decide +kernel⟩
theorem mv_X8_pillows : q_mv yX8_pillows 8 := ⟨wi_X8_pillows, ws_X8_pillows, _, rfl, rfl⟩
def wd_X8_pillows (cI cZ : ClassId) (AT AT_al AT_kp AT_ik AT_rf AT_hd AT_bs AT_se AT_bf AT_te AT_by AT_an AT_vs : Nat) (vT_ab : Int64) (vT_be : Int64) (vT_byl : Int32) (vT_tka : Int32) (vT_tkl : Int32) (vT_tkn : Int32) (vT_val : Int32) (fT_rf : Nat → Int32) (fT_al : Nat → Int32) (fT_bs : Nat → Int32) : va_W := [(AT, .inr (8, [.ref AT_al, .ref AT_kp, .ref AT_ik, .ref AT_rf, .long vT_ab, .long vT_be, .ref AT_hd, .ref AT_bs, .ref AT_se, .ref AT_bf, .ref AT_te, .ref AT_by, .int vT_byl, .int vT_tka, .int vT_tkl, .int vT_tkn, .int vT_val, .ref AT_an, .ref AT_vs])), (AT_rf, .inl (cI, 3, .inl fT_rf)), (AT_al, .inl (cI, 312, .inl fT_al)), (AT_bs, .inl (cI, 6, .inl fT_bs))]
def fL_X8_pillows_161 (p1 : Int32) (p2 : Int32) (fT_al : Nat → Int32) : Nat → Int32 → Int32 → Int32 → (Nat → Int32) → (Nat → Int32) → Option (Int32 × (Nat → Int32) × (Nat → Int32))
  | 0, _, _, _, _, _ => none
  | fu + 1, x6, x5, x4, fT_rf, fT_bs => if x6 < 0 then (if p2 = (-1) then (some (x4, fT_rf, fT_bs)) else (gd p2 6 (some ((fT_bs (Int32.toNatClampNeg p2)), fT_rf, fT_bs)))) else (gd x6 6 (fL_X8_pillows_161 p1 p2 fT_al fu (x6 + (-1)) (x5 / 6) x4 fT_rf (upd fT_bs (Int32.toNatClampNeg x6) (x5 - x5 / 6 * 6))))
def fL_X8_pillows_64 (p1 : Int32) (p2 : Int32) (fT_al : Nat → Int32) : Nat → Int32 → Int32 → Int32 → Int32 → (Nat → Int32) → (Nat → Int32) → Option (Int32 × (Nat → Int32) × (Nat → Int32))
  | 0, _, _, _, _, _, _ => none
  | fu + 1, x6, x5, x4, x3, fT_rf, fT_bs => if x3 ≤ x6 then (Option.bind (fm_X8_many fT_al) (fun r_154 => fL_X8_pillows_161 p1 p2 fT_al FU (r_154 - 1) x5 x4 fT_rf fT_bs)) else (Option.bind (fm_X8_believedBy x6 fT_al) (fun r_73 => if r_73 = (-1) then (fL_X8_pillows_64 p1 p2 fT_al fu (x6 + 1) x5 x4 x3 fT_rf fT_bs) else (if x4 = (-1) then (fL_X8_pillows_64 p1 p2 fT_al fu (x6 + 1) x6 r_73 x3 fT_rf fT_bs) else (if p1 = 1 then (if r_73 ≤ x4 then (fL_X8_pillows_64 p1 p2 fT_al fu (x6 + 1) x5 x4 x3 fT_rf fT_bs) else (fL_X8_pillows_64 p1 p2 fT_al fu (x6 + 1) x6 r_73 x3 fT_rf fT_bs)) else (if x4 ≤ r_73 then (fL_X8_pillows_64 p1 p2 fT_al fu (x6 + 1) x5 x4 x3 fT_rf fT_bs) else (fL_X8_pillows_64 p1 p2 fT_al fu (x6 + 1) x6 r_73 x3 fT_rf fT_bs))))))
def fL_X8_pillows_41 (p1 : Int32) (p2 : Int32) (fT_al : Nat → Int32) : Nat → Int32 → Int32 → Int32 → Int32 → (Nat → Int32) → (Nat → Int32) → Option (Int32 × (Nat → Int32) × (Nat → Int32))
  | 0, _, _, _, _, _, _ => none
  | fu + 1, x6, x5, x4, x3, fT_rf, fT_bs => Option.bind (fm_X8_many fT_al) (fun r_44 => if r_44 ≤ x6 then (fL_X8_pillows_64 p1 p2 fT_al FU 0 x5 x4 x3 fT_rf fT_bs) else (fL_X8_pillows_41 p1 p2 fT_al fu (x6 + 1) x5 x4 (x3 * 6) fT_rf fT_bs))
def fm_X8_pillows (p1 : Int32) (p2 : Int32) (fT_rf : Nat → Int32) (fT_al : Nat → Int32) (fT_bs : Nat → Int32) : Option (Int32 × (Nat → Int32) × (Nat → Int32)) := Option.bind (fm_X8_in (Int32.toInt64 p1) 0 1) (fun r_4 => if r_4 = 0 then (Option.bind (fm_X8_bad (-10) fT_rf) (fun r_26 => some (r_26.1, r_26.2, fT_bs))) else (if p2 = (-1) then (fL_X8_pillows_41 p1 p2 fT_al FU 0 0 (-1) 1 fT_rf fT_bs) else (Option.bind (fm_X8_isSleeper p2 fT_al) (fun r_17 => if r_17 = 0 then (Option.bind (fm_X8_bad (-10) fT_rf) (fun r_26 => some (r_26.1, r_26.2, fT_bs))) else (fL_X8_pillows_41 p1 p2 fT_al FU 0 0 (-1) 1 fT_rf fT_bs)))))
set_option maxHeartbeats 4000000 in
set_option maxRecDepth 100000 in
theorem c_X8_pillows (l : Launch) (D : va_G) (cI cZ : ClassId) (sz : Nat) (AT AT_al AT_kp AT_ik AT_rf AT_hd AT_bs AT_se AT_bf AT_te AT_by AT_an AT_vs : Nat) (vT_ab : Int64) (vT_be : Int64) (vT_byl : Int32) (vT_tka : Int32) (vT_tkl : Int32) (vT_tkn : Int32) (vT_val : Int32) (fT_rf : Nat → Int32) (fT_al : Nat → Int32) (fT_bs : Nat → Int32) (p1 : Int32) (p2 : Int32) (out : (Int32 × (Nat → Int32) × (Nat → Int32))) (hm : fm_X8_pillows p1 p2 fT_rf fT_al fT_bs = some out) : Met l yX8_pillows (Cond.code yX8_pillows cX8_pillows 9 (some .int) :: bg) { frames := 4, cells := 0, slots := 0, locals := 96 } (va_Pc [.ref AT, .int p1, .int p2] (q_pre D cI cZ sz (wd_X8_pillows cI cZ AT AT_al AT_kp AT_ik AT_rf AT_hd AT_bs AT_se AT_bf AT_te AT_by AT_an AT_vs vT_ab vT_be vT_byl vT_tka vT_tkl vT_tkn vT_val fT_rf fT_al fT_bs))) (q_Qi D (wd_X8_pillows cI cZ AT AT_al AT_kp AT_ik AT_rf AT_hd AT_bs AT_se AT_bf AT_te AT_by AT_an AT_vs vT_ab vT_be vT_byl vT_tka vT_tkl vT_tkn vT_val out.2.1 fT_al out.2.2) out.1 (va_A (wd_X8_pillows cI cZ AT AT_al AT_kp AT_ik AT_rf AT_hd AT_bs AT_se AT_bf AT_te AT_by AT_an AT_vs vT_ab vT_be vT_byl vT_tka vT_tkl vT_tkn vT_val fT_rf fT_al fT_bs) sz)) 0 0 (va_A (wd_X8_pillows cI cZ AT AT_al AT_kp AT_ik AT_rf AT_hd AT_bs AT_se AT_bf AT_te AT_by AT_an AT_vs vT_ab vT_be vT_byl vT_tka vT_tkl vT_tkn vT_val fT_rf fT_al fT_bs) sz) := by
  refine q_met (fun A => q_Qi D (wd_X8_pillows cI cZ AT AT_al AT_kp AT_ik AT_rf AT_hd AT_bs AT_se AT_bf AT_te AT_by AT_an AT_vs vT_ab vT_be vT_byl vT_tka vT_tkl vT_tkn vT_val out.2.1 fT_al out.2.2) out.1 A) (by decide) (Nat.le_of_ble_eq_true rfl) ?_
  intro p e s m below meth c ls A hx hb hr hml hown hts hlocks _ hA hS hP hD hK hN hl
  have hown : s.vm.findClass RX8 = some m.cls := hown
  have hl : lv_has ls 9 [(0, .ref AT), (1, .int p1), (2, .int p2)] := hl
  have hL_161 : ∀ (fu_161 : Nat) (x6 : Int32) (x5 : Int32) (x4 : Int32) (fT_rf : Nat → Int32) (fT_bs : Nat → Int32) (H : Heap) (locs : List Loc) (ls : Array Slot), fL_X8_pillows_161 p1 p2 fT_al fu_161 x6 x5 x4 fT_rf fT_bs = some out → va_P D vwCl (wd_X8_pillows cI cZ AT AT_al AT_kp AT_ik AT_rf AT_hd AT_bs AT_se AT_bf AT_te AT_by AT_an AT_vs vT_ab vT_be vT_byl vT_tka vT_tkl vT_tkn vT_val fT_rf fT_al fT_bs) H → va_D A (wd_X8_pillows cI cZ AT AT_al AT_kp AT_ik AT_rf AT_hd AT_bs AT_se AT_bf AT_te AT_by AT_an AT_vs vT_ab vT_be vT_byl vT_tka vT_tkl vT_tkn vT_val fT_rf fT_al fT_bs) → va_S A s.heap H locs → lv_has ls 9 [(6, .int x6), (5, .int x5), (4, .int x4), (0, .ref AT), (2, .int p2)] → W p l e { frames := 4, cells := 0, slots := 0, locals := 96 } s m ([.ref AT, .int p1, .int p2] : List Value).toArray below meth c H locs 0 0 (MQ below (q_Qi D (wd_X8_pillows cI cZ AT AT_al AT_kp AT_ik AT_rf AT_hd AT_bs AT_se AT_bf AT_te AT_by AT_an AT_vs vT_ab vT_be vT_byl vT_tka vT_tkl vT_tkn vT_val out.2.1 fT_al out.2.2) out.1 A) ([.ref AT, .int p1, .int p2] : List Value).toArray s 0 0 A) (F0 m 161 ls []) := by
    intro fu_161
    induction fu_161 with
    | zero => intro x6 x5 x4 fT_rf fT_bs H locs ls hm hP hD hS hl; exact absurd (show (none : Option (Int32 × (Nat → Int32) × (Nat → Int32))) = some out from hm) (fun h => nomatch h)
    | succ fu_161 ih_161 =>
      intro x6 x5 x4 fT_rf fT_bs H locs ls hm hP hD hS hl
      rw [fL_X8_pillows_161] at hm
      refine lv_iload hx hb dX8_pillows_161 (lv_at hl 0 rfl) ?_
      refine lv_if_lt (tgt := 191) hx hb dX8_pillows_163 (by decide) (fun c_163 => ?_) (fun c_163 => ?_)
      · have hm := it_s c_163 hm
        refine lv_iload_n hx hb dX8_pillows_191 rfl (lv_at hl 4 rfl) ?_
        refine lv_iconst (v := (-1)) hx hb dX8_pillows_192 (by decide) ?_
        refine lv_icmp_ne (tgt := 201) hx hb dX8_pillows_193 (by decide) (fun c_193 => ?_) (fun c_193 => ?_)
        · have hm := it_n c_193 hm
          refine lv_aload_n hx hb dX8_pillows_201 rfl (lv_at hl 3 rfl) ?_
          refine gf_X8_30 (v := .ref AT_bs) hx hb hts hown hK hN hP 0 rfl rfl dX8_pillows_202 ?_
          refine lv_iload_n hx hb dX8_pillows_205 rfl (lv_at hl 4 rfl) ?_
          obtain ⟨hi_206, hm⟩ := gd_s hm
          refine q_iald (j := (Int32.toNatClampNeg p2)) hx hb hK hP 3 rfl hi_206 rfl dX8_pillows_206 ?_
          have hm := Option.some.inj hm
          subst hm
          exact q_iret (v := (fT_bs (Int32.toNatClampNeg p2))) hx hb hr hlocks hP hS dX8_pillows_207
        · have hm := it_s c_193 hm
          refine lv_iload hx hb dX8_pillows_196 (lv_at hl 2 rfl) ?_
          refine lv_goto (tgt := 207) hx hb dX8_pillows_198 (by decide) ?_
          have hm := Option.some.inj hm
          subst hm
          exact q_iret (v := x4) hx hb hr hlocks hP hS dX8_pillows_207
      · have hm := it_n c_163 hm
        refine lv_aload_n hx hb dX8_pillows_166 rfl (lv_at hl 3 rfl) ?_
        refine gf_X8_30 (v := .ref AT_bs) hx hb hts hown hK hN hP 0 rfl rfl dX8_pillows_167 ?_
        refine lv_iload hx hb dX8_pillows_170 (lv_at hl 0 rfl) ?_
        refine lv_iload hx hb dX8_pillows_172 (lv_at hl 1 rfl) ?_
        refine lv_bipush (v := 6) hx hb dX8_pillows_174 (by decide) ?_
        refine lv_irem hx hb dX8_pillows_176 (by decide) ?_
        obtain ⟨hi_177, hm⟩ := gd_s hm
        refine q_iast (j := (Int32.toNatClampNeg x6)) hx hb hK hP hD hS 3 rfl hi_177 rfl dX8_pillows_177 (fun H locs hP hD hS => ?_)
        have hP : va_P D vwCl (wd_X8_pillows cI cZ AT AT_al AT_kp AT_ik AT_rf AT_hd AT_bs AT_se AT_bf AT_te AT_by AT_an AT_vs vT_ab vT_be vT_byl vT_tka vT_tkl vT_tkn vT_val fT_rf fT_al (upd fT_bs (Int32.toNatClampNeg x6) (x5 - x5 / 6 * 6))) H := hP
        have hD : va_D A (wd_X8_pillows cI cZ AT AT_al AT_kp AT_ik AT_rf AT_hd AT_bs AT_se AT_bf AT_te AT_by AT_an AT_vs vT_ab vT_be vT_byl vT_tka vT_tkl vT_tkn vT_val fT_rf fT_al (upd fT_bs (Int32.toNatClampNeg x6) (x5 - x5 / 6 * 6))) := hD
        refine lv_iload hx hb dX8_pillows_178 (lv_at hl 1 rfl) ?_
        refine lv_bipush (v := 6) hx hb dX8_pillows_180 (by decide) ?_
        refine lv_idiv hx hb dX8_pillows_182 (by decide) ?_
        refine lv_istore (lv' := [(5, .int (x5 / 6)), (6, .int x6), (4, .int x4), (0, .ref AT), (2, .int p2)]) hx hb dX8_pillows_183 hl (by decide) rfl (fun ls hl => ?_)
        refine lv_iinc (v := (x6 + (-1))) (lv' := [(6, .int (x6 + (-1))), (5, .int (x5 / 6)), (4, .int x4), (0, .ref AT), (2, .int p2)]) hx hb dX8_pillows_185 hl (k := 1) rfl rfl (by decide) rfl (fun ls hl => ?_)
        refine lv_goto (tgt := 161) hx hb dX8_pillows_188 (by decide) ?_
        exact ih_161 (x6 + (-1)) (x5 / 6) x4 fT_rf (upd fT_bs (Int32.toNatClampNeg x6) (x5 - x5 / 6 * 6)) H locs ls hm hP hD hS (lv_sub hl [0, 1, 2, 3, 4] rfl)
  have hL_64 : ∀ (fu_64 : Nat) (x6 : Int32) (x5 : Int32) (x4 : Int32) (x3 : Int32) (fT_rf : Nat → Int32) (fT_bs : Nat → Int32) (H : Heap) (locs : List Loc) (ls : Array Slot), fL_X8_pillows_64 p1 p2 fT_al fu_64 x6 x5 x4 x3 fT_rf fT_bs = some out → va_P D vwCl (wd_X8_pillows cI cZ AT AT_al AT_kp AT_ik AT_rf AT_hd AT_bs AT_se AT_bf AT_te AT_by AT_an AT_vs vT_ab vT_be vT_byl vT_tka vT_tkl vT_tkn vT_val fT_rf fT_al fT_bs) H → va_D A (wd_X8_pillows cI cZ AT AT_al AT_kp AT_ik AT_rf AT_hd AT_bs AT_se AT_bf AT_te AT_by AT_an AT_vs vT_ab vT_be vT_byl vT_tka vT_tkl vT_tkn vT_val fT_rf fT_al fT_bs) → va_S A s.heap H locs → lv_has ls 9 [(6, .int x6), (5, .int x5), (4, .int x4), (3, .int x3), (0, .ref AT), (1, .int p1), (2, .int p2)] → W p l e { frames := 4, cells := 0, slots := 0, locals := 96 } s m ([.ref AT, .int p1, .int p2] : List Value).toArray below meth c H locs 0 0 (MQ below (q_Qi D (wd_X8_pillows cI cZ AT AT_al AT_kp AT_ik AT_rf AT_hd AT_bs AT_se AT_bf AT_te AT_by AT_an AT_vs vT_ab vT_be vT_byl vT_tka vT_tkl vT_tkn vT_val out.2.1 fT_al out.2.2) out.1 A) ([.ref AT, .int p1, .int p2] : List Value).toArray s 0 0 A) (F0 m 64 ls []) := by
    intro fu_64
    induction fu_64 with
    | zero => intro x6 x5 x4 x3 fT_rf fT_bs H locs ls hm hP hD hS hl; exact absurd (show (none : Option (Int32 × (Nat → Int32) × (Nat → Int32))) = some out from hm) (fun h => nomatch h)
    | succ fu_64 ih_64 =>
      intro x6 x5 x4 x3 fT_rf fT_bs H locs ls hm hP hD hS hl
      rw [fL_X8_pillows_64] at hm
      refine lv_iload hx hb dX8_pillows_64 (lv_at hl 0 rfl) ?_
      refine lv_iload_n hx hb dX8_pillows_66 rfl (lv_at hl 3 rfl) ?_
      refine lv_icmp_ge (tgt := 153) hx hb dX8_pillows_67 (by decide) (fun c_67 => ?_) (fun c_67 => ?_)
      · have hm := it_s c_67 hm
        refine lv_aload_n hx hb dX8_pillows_153 rfl (lv_at hl 4 rfl) ?_
        obtain ⟨r_154, hc_154, hm⟩ := ob_s hm
        refine q_ci (q_rv (rest := []) ⟨hx, hb, hml, hown, hts⟩ hK hN hP hD (c_X8_many l D cI cZ H.size AT AT_al AT_kp AT_ik AT_rf AT_hd AT_bs AT_se AT_bf AT_te AT_by AT_an AT_vs vT_ab vT_be vT_byl vT_tka vT_tkl vT_tkn vT_val fT_al r_154 hc_154) mb_X8_many mv_X8_many wl_X8_55 [0, 2] rfl rfl rfl (Nat.le_of_ble_eq_true rfl) (Nat.le_of_ble_eq_true rfl) rfl hl.1 rfl (Nat.le_of_ble_eq_true rfl) ⟨Nat.le_refl 0, Nat.le_refl 0⟩ dX8_pillows_154) hP hD hS hA [0, 2] rfl rfl (fun H locs hP hD hS => ?_)
        have hP : va_P D vwCl (wd_X8_pillows cI cZ AT AT_al AT_kp AT_ik AT_rf AT_hd AT_bs AT_se AT_bf AT_te AT_by AT_an AT_vs vT_ab vT_be vT_byl vT_tka vT_tkl vT_tkn vT_val fT_rf fT_al fT_bs) H := hP
        have hD : va_D A (wd_X8_pillows cI cZ AT AT_al AT_kp AT_ik AT_rf AT_hd AT_bs AT_se AT_bf AT_te AT_by AT_an AT_vs vT_ab vT_be vT_byl vT_tka vT_tkl vT_tkn vT_val fT_rf fT_al fT_bs) := hD
        refine lv_iconst (v := 1) hx hb dX8_pillows_157 (by decide) ?_
        refine lv_isub hx hb dX8_pillows_158 ?_
        refine lv_istore (lv' := [(6, .int (r_154 - 1)), (5, .int x5), (4, .int x4), (3, .int x3), (0, .ref AT), (1, .int p1), (2, .int p2)]) hx hb dX8_pillows_159 hl (by decide) rfl (fun ls hl => ?_)
        exact hL_161 FU (r_154 - 1) x5 x4 fT_rf fT_bs H locs ls hm hP hD hS (lv_sub hl [0, 1, 2, 4, 6] rfl)
      · have hm := it_n c_67 hm
        refine lv_aload_n hx hb dX8_pillows_70 rfl (lv_at hl 4 rfl) ?_
        refine lv_iload hx hb dX8_pillows_71 (lv_at hl 0 rfl) ?_
        obtain ⟨r_73, hc_73, hm⟩ := ob_s hm
        refine q_ci (q_rv (rest := []) ⟨hx, hb, hml, hown, hts⟩ hK hN hP hD (c_X8_believedBy l D cI cZ H.size AT AT_al AT_kp AT_ik AT_rf AT_hd AT_bs AT_se AT_bf AT_te AT_by AT_an AT_vs vT_ab vT_be vT_byl vT_tka vT_tkl vT_tkn vT_val fT_al x6 r_73 hc_73) mb_X8_believedBy mv_X8_believedBy wl_X8_155 [0, 2] rfl rfl rfl (Nat.le_of_ble_eq_true rfl) (Nat.le_of_ble_eq_true rfl) rfl hl.1 rfl (Nat.le_of_ble_eq_true rfl) ⟨Nat.le_refl 0, Nat.le_refl 0⟩ dX8_pillows_73) hP hD hS hA [0, 2] rfl rfl (fun H locs hP hD hS => ?_)
        have hP : va_P D vwCl (wd_X8_pillows cI cZ AT AT_al AT_kp AT_ik AT_rf AT_hd AT_bs AT_se AT_bf AT_te AT_by AT_an AT_vs vT_ab vT_be vT_byl vT_tka vT_tkl vT_tkn vT_val fT_rf fT_al fT_bs) H := hP
        have hD : va_D A (wd_X8_pillows cI cZ AT AT_al AT_kp AT_ik AT_rf AT_hd AT_bs AT_se AT_bf AT_te AT_by AT_an AT_vs vT_ab vT_be vT_byl vT_tka vT_tkl vT_tkn vT_val fT_rf fT_al fT_bs) := hD
        refine lv_istore (lv' := [(7, .int r_73), (6, .int x6), (5, .int x5), (4, .int x4), (3, .int x3), (0, .ref AT), (1, .int p1), (2, .int p2)]) hx hb dX8_pillows_76 hl (by decide) rfl (fun ls hl => ?_)
        refine lv_iload hx hb dX8_pillows_78 (lv_at hl 0 rfl) ?_
        refine lv_iconst (v := (-1)) hx hb dX8_pillows_80 (by decide) ?_
        refine lv_icmp_eq (tgt := 116) hx hb dX8_pillows_81 (by decide) (fun c_81 => ?_) (fun c_81 => ?_)
        · have hm := it_s c_81 hm
          refine lv_iconst (v := 0) hx hb dX8_pillows_116 (by decide) ?_
          refine lv_istore (lv' := [(8, .int 0), (7, .int r_73), (6, .int x6), (5, .int x5), (4, .int x4), (3, .int x3), (0, .ref AT), (1, .int p1), (2, .int p2)]) hx hb dX8_pillows_117 hl (by decide) rfl (fun ls hl => ?_)
          refine lv_iload hx hb dX8_pillows_119 (lv_at hl 0 rfl) ?_
          refine lv_if_eq (tgt := 129) hx hb dX8_pillows_121 (by decide) (fun _ => ?_) (fun c => absurd c (by decide))
          refine lv_iload hx hb dX8_pillows_129 (lv_at hl 4 rfl) ?_
          refine lv_istore (lv' := [(4, .int x4), (8, .int 0), (7, .int r_73), (6, .int x6), (5, .int x5), (3, .int x3), (0, .ref AT), (1, .int p1), (2, .int p2)]) hx hb dX8_pillows_131 hl (by decide) rfl (fun ls hl => ?_)
          refine lv_iload hx hb dX8_pillows_133 (lv_at hl 1 rfl) ?_
          refine lv_if_eq (tgt := 143) hx hb dX8_pillows_135 (by decide) (fun _ => ?_) (fun c => absurd c (by decide))
          refine lv_iload hx hb dX8_pillows_143 (lv_at hl 4 rfl) ?_
          refine lv_istore (lv' := [(5, .int x5), (4, .int x4), (8, .int 0), (7, .int r_73), (6, .int x6), (3, .int x3), (0, .ref AT), (1, .int p1), (2, .int p2)]) hx hb dX8_pillows_145 hl (by decide) rfl (fun ls hl => ?_)
          refine lv_iinc (v := (x6 + 1)) (lv' := [(6, .int (x6 + 1)), (5, .int x5), (4, .int x4), (8, .int 0), (7, .int r_73), (3, .int x3), (0, .ref AT), (1, .int p1), (2, .int p2)]) hx hb dX8_pillows_147 hl (k := 4) rfl rfl (by decide) rfl (fun ls hl => ?_)
          refine lv_goto (tgt := 64) hx hb dX8_pillows_150 (by decide) ?_
          exact ih_64 (x6 + 1) x5 x4 x3 fT_rf fT_bs H locs ls hm hP hD hS (lv_sub hl [0, 1, 2, 5, 6, 7, 8] rfl)
        · have hm := it_n c_81 hm
          refine lv_iload hx hb dX8_pillows_84 (lv_at hl 3 rfl) ?_
          refine lv_iconst (v := (-1)) hx hb dX8_pillows_86 (by decide) ?_
          refine lv_icmp_eq (tgt := 112) hx hb dX8_pillows_87 (by decide) (fun c_87 => ?_) (fun c_87 => ?_)
          · have hm := it_s c_87 hm
            refine lv_iconst (v := 1) hx hb dX8_pillows_112 (by decide) ?_
            refine lv_goto (tgt := 117) hx hb dX8_pillows_113 (by decide) ?_
            refine lv_istore (lv' := [(8, .int 1), (7, .int r_73), (6, .int x6), (5, .int x5), (4, .int x4), (3, .int x3), (0, .ref AT), (1, .int p1), (2, .int p2)]) hx hb dX8_pillows_117 hl (by decide) rfl (fun ls hl => ?_)
            refine lv_iload hx hb dX8_pillows_119 (lv_at hl 0 rfl) ?_
            refine lv_if_eq (tgt := 129) hx hb dX8_pillows_121 (by decide) (fun c => absurd c (by decide)) (fun _ => ?_)
            refine lv_iload hx hb dX8_pillows_124 (lv_at hl 1 rfl) ?_
            refine lv_goto (tgt := 131) hx hb dX8_pillows_126 (by decide) ?_
            refine lv_istore (lv' := [(4, .int r_73), (8, .int 1), (7, .int r_73), (6, .int x6), (5, .int x5), (3, .int x3), (0, .ref AT), (1, .int p1), (2, .int p2)]) hx hb dX8_pillows_131 hl (by decide) rfl (fun ls hl => ?_)
            refine lv_iload hx hb dX8_pillows_133 (lv_at hl 1 rfl) ?_
            refine lv_if_eq (tgt := 143) hx hb dX8_pillows_135 (by decide) (fun c => absurd c (by decide)) (fun _ => ?_)
            refine lv_iload hx hb dX8_pillows_138 (lv_at hl 3 rfl) ?_
            refine lv_goto (tgt := 145) hx hb dX8_pillows_140 (by decide) ?_
            refine lv_istore (lv' := [(5, .int x6), (4, .int r_73), (8, .int 1), (7, .int r_73), (6, .int x6), (3, .int x3), (0, .ref AT), (1, .int p1), (2, .int p2)]) hx hb dX8_pillows_145 hl (by decide) rfl (fun ls hl => ?_)
            refine lv_iinc (v := (x6 + 1)) (lv' := [(6, .int (x6 + 1)), (5, .int x6), (4, .int r_73), (8, .int 1), (7, .int r_73), (3, .int x3), (0, .ref AT), (1, .int p1), (2, .int p2)]) hx hb dX8_pillows_147 hl (k := 4) rfl rfl (by decide) rfl (fun ls hl => ?_)
            refine lv_goto (tgt := 64) hx hb dX8_pillows_150 (by decide) ?_
            exact ih_64 (x6 + 1) x6 r_73 x3 fT_rf fT_bs H locs ls hm hP hD hS (lv_sub hl [0, 1, 2, 5, 6, 7, 8] rfl)
          · have hm := it_n c_87 hm
            refine lv_iload_n hx hb dX8_pillows_90 rfl (lv_at hl 6 rfl) ?_
            refine lv_iconst (v := 1) hx hb dX8_pillows_91 (by decide) ?_
            refine lv_icmp_ne (tgt := 105) hx hb dX8_pillows_92 (by decide) (fun c_92 => ?_) (fun c_92 => ?_)
            · have hm := it_n c_92 hm
              refine lv_iload hx hb dX8_pillows_105 (lv_at hl 0 rfl) ?_
              refine lv_iload hx hb dX8_pillows_107 (lv_at hl 3 rfl) ?_
              refine lv_icmp_ge (tgt := 116) hx hb dX8_pillows_109 (by decide) (fun c_109 => ?_) (fun c_109 => ?_)
              · have hm := it_s c_109 hm
                refine lv_iconst (v := 0) hx hb dX8_pillows_116 (by decide) ?_
                refine lv_istore (lv' := [(8, .int 0), (7, .int r_73), (6, .int x6), (5, .int x5), (4, .int x4), (3, .int x3), (0, .ref AT), (1, .int p1), (2, .int p2)]) hx hb dX8_pillows_117 hl (by decide) rfl (fun ls hl => ?_)
                refine lv_iload hx hb dX8_pillows_119 (lv_at hl 0 rfl) ?_
                refine lv_if_eq (tgt := 129) hx hb dX8_pillows_121 (by decide) (fun _ => ?_) (fun c => absurd c (by decide))
                refine lv_iload hx hb dX8_pillows_129 (lv_at hl 4 rfl) ?_
                refine lv_istore (lv' := [(4, .int x4), (8, .int 0), (7, .int r_73), (6, .int x6), (5, .int x5), (3, .int x3), (0, .ref AT), (1, .int p1), (2, .int p2)]) hx hb dX8_pillows_131 hl (by decide) rfl (fun ls hl => ?_)
                refine lv_iload hx hb dX8_pillows_133 (lv_at hl 1 rfl) ?_
                refine lv_if_eq (tgt := 143) hx hb dX8_pillows_135 (by decide) (fun _ => ?_) (fun c => absurd c (by decide))
                refine lv_iload hx hb dX8_pillows_143 (lv_at hl 4 rfl) ?_
                refine lv_istore (lv' := [(5, .int x5), (4, .int x4), (8, .int 0), (7, .int r_73), (6, .int x6), (3, .int x3), (0, .ref AT), (1, .int p1), (2, .int p2)]) hx hb dX8_pillows_145 hl (by decide) rfl (fun ls hl => ?_)
                refine lv_iinc (v := (x6 + 1)) (lv' := [(6, .int (x6 + 1)), (5, .int x5), (4, .int x4), (8, .int 0), (7, .int r_73), (3, .int x3), (0, .ref AT), (1, .int p1), (2, .int p2)]) hx hb dX8_pillows_147 hl (k := 4) rfl rfl (by decide) rfl (fun ls hl => ?_)
                refine lv_goto (tgt := 64) hx hb dX8_pillows_150 (by decide) ?_
                exact ih_64 (x6 + 1) x5 x4 x3 fT_rf fT_bs H locs ls hm hP hD hS (lv_sub hl [0, 1, 2, 5, 6, 7, 8] rfl)
              · have hm := it_n c_109 hm
                refine lv_iconst (v := 1) hx hb dX8_pillows_112 (by decide) ?_
                refine lv_goto (tgt := 117) hx hb dX8_pillows_113 (by decide) ?_
                refine lv_istore (lv' := [(8, .int 1), (7, .int r_73), (6, .int x6), (5, .int x5), (4, .int x4), (3, .int x3), (0, .ref AT), (1, .int p1), (2, .int p2)]) hx hb dX8_pillows_117 hl (by decide) rfl (fun ls hl => ?_)
                refine lv_iload hx hb dX8_pillows_119 (lv_at hl 0 rfl) ?_
                refine lv_if_eq (tgt := 129) hx hb dX8_pillows_121 (by decide) (fun c => absurd c (by decide)) (fun _ => ?_)
                refine lv_iload hx hb dX8_pillows_124 (lv_at hl 1 rfl) ?_
                refine lv_goto (tgt := 131) hx hb dX8_pillows_126 (by decide) ?_
                refine lv_istore (lv' := [(4, .int r_73), (8, .int 1), (7, .int r_73), (6, .int x6), (5, .int x5), (3, .int x3), (0, .ref AT), (1, .int p1), (2, .int p2)]) hx hb dX8_pillows_131 hl (by decide) rfl (fun ls hl => ?_)
                refine lv_iload hx hb dX8_pillows_133 (lv_at hl 1 rfl) ?_
                refine lv_if_eq (tgt := 143) hx hb dX8_pillows_135 (by decide) (fun c => absurd c (by decide)) (fun _ => ?_)
                refine lv_iload hx hb dX8_pillows_138 (lv_at hl 3 rfl) ?_
                refine lv_goto (tgt := 145) hx hb dX8_pillows_140 (by decide) ?_
                refine lv_istore (lv' := [(5, .int x6), (4, .int r_73), (8, .int 1), (7, .int r_73), (6, .int x6), (3, .int x3), (0, .ref AT), (1, .int p1), (2, .int p2)]) hx hb dX8_pillows_145 hl (by decide) rfl (fun ls hl => ?_)
                refine lv_iinc (v := (x6 + 1)) (lv' := [(6, .int (x6 + 1)), (5, .int x6), (4, .int r_73), (8, .int 1), (7, .int r_73), (3, .int x3), (0, .ref AT), (1, .int p1), (2, .int p2)]) hx hb dX8_pillows_147 hl (k := 4) rfl rfl (by decide) rfl (fun ls hl => ?_)
                refine lv_goto (tgt := 64) hx hb dX8_pillows_150 (by decide) ?_
                exact ih_64 (x6 + 1) x6 r_73 x3 fT_rf fT_bs H locs ls hm hP hD hS (lv_sub hl [0, 1, 2, 5, 6, 7, 8] rfl)
            · have hm := it_s c_92 hm
              refine lv_iload hx hb dX8_pillows_95 (lv_at hl 0 rfl) ?_
              refine lv_iload hx hb dX8_pillows_97 (lv_at hl 3 rfl) ?_
              refine lv_icmp_le (tgt := 116) hx hb dX8_pillows_99 (by decide) (fun c_99 => ?_) (fun c_99 => ?_)
              · have hm := it_s c_99 hm
                refine lv_iconst (v := 0) hx hb dX8_pillows_116 (by decide) ?_
                refine lv_istore (lv' := [(8, .int 0), (7, .int r_73), (6, .int x6), (5, .int x5), (4, .int x4), (3, .int x3), (0, .ref AT), (1, .int p1), (2, .int p2)]) hx hb dX8_pillows_117 hl (by decide) rfl (fun ls hl => ?_)
                refine lv_iload hx hb dX8_pillows_119 (lv_at hl 0 rfl) ?_
                refine lv_if_eq (tgt := 129) hx hb dX8_pillows_121 (by decide) (fun _ => ?_) (fun c => absurd c (by decide))
                refine lv_iload hx hb dX8_pillows_129 (lv_at hl 4 rfl) ?_
                refine lv_istore (lv' := [(4, .int x4), (8, .int 0), (7, .int r_73), (6, .int x6), (5, .int x5), (3, .int x3), (0, .ref AT), (1, .int p1), (2, .int p2)]) hx hb dX8_pillows_131 hl (by decide) rfl (fun ls hl => ?_)
                refine lv_iload hx hb dX8_pillows_133 (lv_at hl 1 rfl) ?_
                refine lv_if_eq (tgt := 143) hx hb dX8_pillows_135 (by decide) (fun _ => ?_) (fun c => absurd c (by decide))
                refine lv_iload hx hb dX8_pillows_143 (lv_at hl 4 rfl) ?_
                refine lv_istore (lv' := [(5, .int x5), (4, .int x4), (8, .int 0), (7, .int r_73), (6, .int x6), (3, .int x3), (0, .ref AT), (1, .int p1), (2, .int p2)]) hx hb dX8_pillows_145 hl (by decide) rfl (fun ls hl => ?_)
                refine lv_iinc (v := (x6 + 1)) (lv' := [(6, .int (x6 + 1)), (5, .int x5), (4, .int x4), (8, .int 0), (7, .int r_73), (3, .int x3), (0, .ref AT), (1, .int p1), (2, .int p2)]) hx hb dX8_pillows_147 hl (k := 4) rfl rfl (by decide) rfl (fun ls hl => ?_)
                refine lv_goto (tgt := 64) hx hb dX8_pillows_150 (by decide) ?_
                exact ih_64 (x6 + 1) x5 x4 x3 fT_rf fT_bs H locs ls hm hP hD hS (lv_sub hl [0, 1, 2, 5, 6, 7, 8] rfl)
              · have hm := it_n c_99 hm
                refine lv_goto (tgt := 112) hx hb dX8_pillows_102 (by decide) ?_
                refine lv_iconst (v := 1) hx hb dX8_pillows_112 (by decide) ?_
                refine lv_goto (tgt := 117) hx hb dX8_pillows_113 (by decide) ?_
                refine lv_istore (lv' := [(8, .int 1), (7, .int r_73), (6, .int x6), (5, .int x5), (4, .int x4), (3, .int x3), (0, .ref AT), (1, .int p1), (2, .int p2)]) hx hb dX8_pillows_117 hl (by decide) rfl (fun ls hl => ?_)
                refine lv_iload hx hb dX8_pillows_119 (lv_at hl 0 rfl) ?_
                refine lv_if_eq (tgt := 129) hx hb dX8_pillows_121 (by decide) (fun c => absurd c (by decide)) (fun _ => ?_)
                refine lv_iload hx hb dX8_pillows_124 (lv_at hl 1 rfl) ?_
                refine lv_goto (tgt := 131) hx hb dX8_pillows_126 (by decide) ?_
                refine lv_istore (lv' := [(4, .int r_73), (8, .int 1), (7, .int r_73), (6, .int x6), (5, .int x5), (3, .int x3), (0, .ref AT), (1, .int p1), (2, .int p2)]) hx hb dX8_pillows_131 hl (by decide) rfl (fun ls hl => ?_)
                refine lv_iload hx hb dX8_pillows_133 (lv_at hl 1 rfl) ?_
                refine lv_if_eq (tgt := 143) hx hb dX8_pillows_135 (by decide) (fun c => absurd c (by decide)) (fun _ => ?_)
                refine lv_iload hx hb dX8_pillows_138 (lv_at hl 3 rfl) ?_
                refine lv_goto (tgt := 145) hx hb dX8_pillows_140 (by decide) ?_
                refine lv_istore (lv' := [(5, .int x6), (4, .int r_73), (8, .int 1), (7, .int r_73), (6, .int x6), (3, .int x3), (0, .ref AT), (1, .int p1), (2, .int p2)]) hx hb dX8_pillows_145 hl (by decide) rfl (fun ls hl => ?_)
                refine lv_iinc (v := (x6 + 1)) (lv' := [(6, .int (x6 + 1)), (5, .int x6), (4, .int r_73), (8, .int 1), (7, .int r_73), (3, .int x3), (0, .ref AT), (1, .int p1), (2, .int p2)]) hx hb dX8_pillows_147 hl (k := 4) rfl rfl (by decide) rfl (fun ls hl => ?_)
                refine lv_goto (tgt := 64) hx hb dX8_pillows_150 (by decide) ?_
                exact ih_64 (x6 + 1) x6 r_73 x3 fT_rf fT_bs H locs ls hm hP hD hS (lv_sub hl [0, 1, 2, 5, 6, 7, 8] rfl)
  have hL_41 : ∀ (fu_41 : Nat) (x6 : Int32) (x5 : Int32) (x4 : Int32) (x3 : Int32) (fT_rf : Nat → Int32) (fT_bs : Nat → Int32) (H : Heap) (locs : List Loc) (ls : Array Slot), fL_X8_pillows_41 p1 p2 fT_al fu_41 x6 x5 x4 x3 fT_rf fT_bs = some out → va_P D vwCl (wd_X8_pillows cI cZ AT AT_al AT_kp AT_ik AT_rf AT_hd AT_bs AT_se AT_bf AT_te AT_by AT_an AT_vs vT_ab vT_be vT_byl vT_tka vT_tkl vT_tkn vT_val fT_rf fT_al fT_bs) H → va_D A (wd_X8_pillows cI cZ AT AT_al AT_kp AT_ik AT_rf AT_hd AT_bs AT_se AT_bf AT_te AT_by AT_an AT_vs vT_ab vT_be vT_byl vT_tka vT_tkl vT_tkn vT_val fT_rf fT_al fT_bs) → va_S A s.heap H locs → lv_has ls 9 [(6, .int x6), (5, .int x5), (4, .int x4), (3, .int x3), (0, .ref AT), (1, .int p1), (2, .int p2)] → W p l e { frames := 4, cells := 0, slots := 0, locals := 96 } s m ([.ref AT, .int p1, .int p2] : List Value).toArray below meth c H locs 0 0 (MQ below (q_Qi D (wd_X8_pillows cI cZ AT AT_al AT_kp AT_ik AT_rf AT_hd AT_bs AT_se AT_bf AT_te AT_by AT_an AT_vs vT_ab vT_be vT_byl vT_tka vT_tkl vT_tkn vT_val out.2.1 fT_al out.2.2) out.1 A) ([.ref AT, .int p1, .int p2] : List Value).toArray s 0 0 A) (F0 m 41 ls []) := by
    intro fu_41
    induction fu_41 with
    | zero => intro x6 x5 x4 x3 fT_rf fT_bs H locs ls hm hP hD hS hl; exact absurd (show (none : Option (Int32 × (Nat → Int32) × (Nat → Int32))) = some out from hm) (fun h => nomatch h)
    | succ fu_41 ih_41 =>
      intro x6 x5 x4 x3 fT_rf fT_bs H locs ls hm hP hD hS hl
      rw [fL_X8_pillows_41] at hm
      refine lv_iload hx hb dX8_pillows_41 (lv_at hl 0 rfl) ?_
      refine lv_aload_n hx hb dX8_pillows_43 rfl (lv_at hl 4 rfl) ?_
      obtain ⟨r_44, hc_44, hm⟩ := ob_s hm
      refine q_ci (q_rv (rest := [.int x6]) ⟨hx, hb, hml, hown, hts⟩ hK hN hP hD (c_X8_many l D cI cZ H.size AT AT_al AT_kp AT_ik AT_rf AT_hd AT_bs AT_se AT_bf AT_te AT_by AT_an AT_vs vT_ab vT_be vT_byl vT_tka vT_tkl vT_tkn vT_val fT_al r_44 hc_44) mb_X8_many mv_X8_many wl_X8_55 [0, 2] rfl rfl rfl (Nat.le_of_ble_eq_true rfl) (Nat.le_of_ble_eq_true rfl) rfl hl.1 rfl (Nat.le_of_ble_eq_true rfl) ⟨Nat.le_refl 0, Nat.le_refl 0⟩ dX8_pillows_44) hP hD hS hA [0, 2] rfl rfl (fun H locs hP hD hS => ?_)
      have hP : va_P D vwCl (wd_X8_pillows cI cZ AT AT_al AT_kp AT_ik AT_rf AT_hd AT_bs AT_se AT_bf AT_te AT_by AT_an AT_vs vT_ab vT_be vT_byl vT_tka vT_tkl vT_tkn vT_val fT_rf fT_al fT_bs) H := hP
      have hD : va_D A (wd_X8_pillows cI cZ AT AT_al AT_kp AT_ik AT_rf AT_hd AT_bs AT_se AT_bf AT_te AT_by AT_an AT_vs vT_ab vT_be vT_byl vT_tka vT_tkl vT_tkn vT_val fT_rf fT_al fT_bs) := hD
      refine lv_icmp_ge (tgt := 61) hx hb dX8_pillows_47 (by decide) (fun c_47 => ?_) (fun c_47 => ?_)
      · have hm := it_s c_47 hm
        refine lv_iconst (v := 0) hx hb dX8_pillows_61 (by decide) ?_
        refine lv_istore (lv' := [(6, .int 0), (5, .int x5), (4, .int x4), (3, .int x3), (0, .ref AT), (1, .int p1), (2, .int p2)]) hx hb dX8_pillows_62 hl (by decide) rfl (fun ls hl => ?_)
        exact hL_64 FU 0 x5 x4 x3 fT_rf fT_bs H locs ls hm hP hD hS (lv_sub hl [0, 1, 2, 3, 4, 5, 6] rfl)
      · have hm := it_n c_47 hm
        refine lv_iload_n hx hb dX8_pillows_50 rfl (lv_at hl 3 rfl) ?_
        refine lv_bipush (v := 6) hx hb dX8_pillows_51 (by decide) ?_
        refine lv_imul hx hb dX8_pillows_53 ?_
        refine lv_istore_n (lv' := [(3, .int (x3 * 6)), (6, .int x6), (5, .int x5), (4, .int x4), (0, .ref AT), (1, .int p1), (2, .int p2)]) hx hb dX8_pillows_54 rfl hl (by decide) rfl (fun ls hl => ?_)
        refine lv_iinc (v := (x6 + 1)) (lv' := [(6, .int (x6 + 1)), (3, .int (x3 * 6)), (5, .int x5), (4, .int x4), (0, .ref AT), (1, .int p1), (2, .int p2)]) hx hb dX8_pillows_55 hl (k := 1) rfl rfl (by decide) rfl (fun ls hl => ?_)
        refine lv_goto (tgt := 41) hx hb dX8_pillows_58 (by decide) ?_
        exact ih_41 (x6 + 1) x5 x4 (x3 * 6) fT_rf fT_bs H locs ls hm hP hD hS (lv_sub hl [0, 2, 3, 1, 4, 5, 6] rfl)
  unfold fm_X8_pillows at hm
  refine q_gen hS hP ?_
  intro H locs hP hS
  refine lv_iload_n hx hb dX8_pillows_0 rfl (lv_at hl 1 rfl) ?_
  refine lv_i2l (v := (Int32.toInt64 p1)) hx hb dX8_pillows_1 rfl ?_
  refine lv_lconst (v := 0) hx hb dX8_pillows_2 (by decide) ?_
  refine lv_lconst (v := 1) hx hb dX8_pillows_3 (by decide) ?_
  obtain ⟨r_4, hc_4, hm⟩ := ob_s hm
  refine q_ci (q_rs (rest := []) ⟨hx, hb, hml, hown, hts⟩ hK hN hP hD (c_X8_in l D cI cZ H.size (Int32.toInt64 p1) 0 1 r_4 hc_4) mb_X8_in wt_X8_in wl_X8_59 [] rfl rfl (Nat.le_of_ble_eq_true rfl) (Nat.le_of_ble_eq_true rfl) rfl hl.1 rfl (Nat.le_of_ble_eq_true rfl) ⟨Nat.le_refl 0, Nat.le_refl 0⟩ dX8_pillows_4) hP hD hS hA [] rfl rfl (fun H locs hP hD hS => ?_)
  have hP : va_P D vwCl (wd_X8_pillows cI cZ AT AT_al AT_kp AT_ik AT_rf AT_hd AT_bs AT_se AT_bf AT_te AT_by AT_an AT_vs vT_ab vT_be vT_byl vT_tka vT_tkl vT_tkn vT_val fT_rf fT_al fT_bs) H := hP
  have hD : va_D A (wd_X8_pillows cI cZ AT AT_al AT_kp AT_ik AT_rf AT_hd AT_bs AT_se AT_bf AT_te AT_by AT_an AT_vs vT_ab vT_be vT_byl vT_tka vT_tkl vT_tkn vT_val fT_rf fT_al fT_bs) := hD
  refine lv_if_eq (tgt := 23) hx hb dX8_pillows_7 (by decide) (fun c_7 => ?_) (fun c_7 => ?_)
  · have hm := it_s c_7 hm
    refine lv_aload_n hx hb dX8_pillows_23 rfl (lv_at hl 0 rfl) ?_
    refine lv_bipush (v := (-10)) hx hb dX8_pillows_24 (by decide) ?_
    obtain ⟨r_26, hc_26, hm⟩ := ob_s hm
    refine q_ci (q_rv (rest := []) ⟨hx, hb, hml, hown, hts⟩ hK hN hP hD (c_X8_bad l D cI cZ H.size AT AT_al AT_kp AT_ik AT_rf AT_hd AT_bs AT_se AT_bf AT_te AT_by AT_an AT_vs vT_ab vT_be vT_byl vT_tka vT_tkl vT_tkn vT_val fT_rf (-10) r_26 hc_26) mb_X8_bad mv_X8_bad wl_X8_75 [0, 1] rfl rfl rfl (Nat.le_of_ble_eq_true rfl) (Nat.le_of_ble_eq_true rfl) rfl hl.1 rfl (Nat.le_of_ble_eq_true rfl) ⟨Nat.le_refl 0, Nat.le_refl 0⟩ dX8_pillows_26) hP hD hS hA [0, 1] rfl rfl (fun H locs hP hD hS => ?_)
    have hP : va_P D vwCl (wd_X8_pillows cI cZ AT AT_al AT_kp AT_ik AT_rf AT_hd AT_bs AT_se AT_bf AT_te AT_by AT_an AT_vs vT_ab vT_be vT_byl vT_tka vT_tkl vT_tkn vT_val r_26.2 fT_al fT_bs) H := hP
    have hD : va_D A (wd_X8_pillows cI cZ AT AT_al AT_kp AT_ik AT_rf AT_hd AT_bs AT_se AT_bf AT_te AT_by AT_an AT_vs vT_ab vT_be vT_byl vT_tka vT_tkl vT_tkn vT_val r_26.2 fT_al fT_bs) := hD
    have hm := Option.some.inj hm
    subst hm
    exact q_iret (v := r_26.1) hx hb hr hlocks hP hS dX8_pillows_29
  · have hm := it_n c_7 hm
    refine lv_iload_n hx hb dX8_pillows_10 rfl (lv_at hl 2 rfl) ?_
    refine lv_iconst (v := (-1)) hx hb dX8_pillows_11 (by decide) ?_
    refine lv_icmp_eq (tgt := 30) hx hb dX8_pillows_12 (by decide) (fun c_12 => ?_) (fun c_12 => ?_)
    · have hm := it_s c_12 hm
      refine lv_iconst (v := 1) hx hb dX8_pillows_30 (by decide) ?_
      refine lv_istore_n (lv' := [(3, .int 1), (0, .ref AT), (1, .int p1), (2, .int p2)]) hx hb dX8_pillows_31 rfl hl (by decide) rfl (fun ls hl => ?_)
      refine lv_iconst (v := (-1)) hx hb dX8_pillows_32 (by decide) ?_
      refine lv_istore (lv' := [(4, .int (-1)), (3, .int 1), (0, .ref AT), (1, .int p1), (2, .int p2)]) hx hb dX8_pillows_33 hl (by decide) rfl (fun ls hl => ?_)
      refine lv_iconst (v := 0) hx hb dX8_pillows_35 (by decide) ?_
      refine lv_istore (lv' := [(5, .int 0), (4, .int (-1)), (3, .int 1), (0, .ref AT), (1, .int p1), (2, .int p2)]) hx hb dX8_pillows_36 hl (by decide) rfl (fun ls hl => ?_)
      refine lv_iconst (v := 0) hx hb dX8_pillows_38 (by decide) ?_
      refine lv_istore (lv' := [(6, .int 0), (5, .int 0), (4, .int (-1)), (3, .int 1), (0, .ref AT), (1, .int p1), (2, .int p2)]) hx hb dX8_pillows_39 hl (by decide) rfl (fun ls hl => ?_)
      exact hL_41 FU 0 0 (-1) 1 fT_rf fT_bs H locs ls hm hP hD hS (lv_sub hl [0, 1, 2, 3, 4, 5, 6] rfl)
    · have hm := it_n c_12 hm
      refine lv_aload_n hx hb dX8_pillows_15 rfl (lv_at hl 0 rfl) ?_
      refine lv_iload_n hx hb dX8_pillows_16 rfl (lv_at hl 2 rfl) ?_
      obtain ⟨r_17, hc_17, hm⟩ := ob_s hm
      refine q_ci (q_rv (rest := []) ⟨hx, hb, hml, hown, hts⟩ hK hN hP hD (c_X8_isSleeper l D cI cZ H.size AT AT_al AT_kp AT_ik AT_rf AT_hd AT_bs AT_se AT_bf AT_te AT_by AT_an AT_vs vT_ab vT_be vT_byl vT_tka vT_tkl vT_tkn vT_val fT_al p2 r_17 hc_17) mb_X8_isSleeper mv_X8_isSleeper wl_X8_132 [0, 2] rfl rfl rfl (Nat.le_of_ble_eq_true rfl) (Nat.le_of_ble_eq_true rfl) rfl hl.1 rfl (Nat.le_of_ble_eq_true rfl) ⟨Nat.le_refl 0, Nat.le_refl 0⟩ dX8_pillows_17) hP hD hS hA [0, 2] rfl rfl (fun H locs hP hD hS => ?_)
      have hP : va_P D vwCl (wd_X8_pillows cI cZ AT AT_al AT_kp AT_ik AT_rf AT_hd AT_bs AT_se AT_bf AT_te AT_by AT_an AT_vs vT_ab vT_be vT_byl vT_tka vT_tkl vT_tkn vT_val fT_rf fT_al fT_bs) H := hP
      have hD : va_D A (wd_X8_pillows cI cZ AT AT_al AT_kp AT_ik AT_rf AT_hd AT_bs AT_se AT_bf AT_te AT_by AT_an AT_vs vT_ab vT_be vT_byl vT_tka vT_tkl vT_tkn vT_val fT_rf fT_al fT_bs) := hD
      refine lv_if_ne (tgt := 30) hx hb dX8_pillows_20 (by decide) (fun c_20 => ?_) (fun c_20 => ?_)
      · have hm := it_n c_20 hm
        refine lv_iconst (v := 1) hx hb dX8_pillows_30 (by decide) ?_
        refine lv_istore_n (lv' := [(3, .int 1), (0, .ref AT), (1, .int p1), (2, .int p2)]) hx hb dX8_pillows_31 rfl hl (by decide) rfl (fun ls hl => ?_)
        refine lv_iconst (v := (-1)) hx hb dX8_pillows_32 (by decide) ?_
        refine lv_istore (lv' := [(4, .int (-1)), (3, .int 1), (0, .ref AT), (1, .int p1), (2, .int p2)]) hx hb dX8_pillows_33 hl (by decide) rfl (fun ls hl => ?_)
        refine lv_iconst (v := 0) hx hb dX8_pillows_35 (by decide) ?_
        refine lv_istore (lv' := [(5, .int 0), (4, .int (-1)), (3, .int 1), (0, .ref AT), (1, .int p1), (2, .int p2)]) hx hb dX8_pillows_36 hl (by decide) rfl (fun ls hl => ?_)
        refine lv_iconst (v := 0) hx hb dX8_pillows_38 (by decide) ?_
        refine lv_istore (lv' := [(6, .int 0), (5, .int 0), (4, .int (-1)), (3, .int 1), (0, .ref AT), (1, .int p1), (2, .int p2)]) hx hb dX8_pillows_39 hl (by decide) rfl (fun ls hl => ?_)
        exact hL_41 FU 0 0 (-1) 1 fT_rf fT_bs H locs ls hm hP hD hS (lv_sub hl [0, 1, 2, 3, 4, 5, 6] rfl)
      · have hm := it_s c_20 hm
        refine lv_aload_n hx hb dX8_pillows_23 rfl (lv_at hl 0 rfl) ?_
        refine lv_bipush (v := (-10)) hx hb dX8_pillows_24 (by decide) ?_
        obtain ⟨r_26, hc_26, hm⟩ := ob_s hm
        refine q_ci (q_rv (rest := []) ⟨hx, hb, hml, hown, hts⟩ hK hN hP hD (c_X8_bad l D cI cZ H.size AT AT_al AT_kp AT_ik AT_rf AT_hd AT_bs AT_se AT_bf AT_te AT_by AT_an AT_vs vT_ab vT_be vT_byl vT_tka vT_tkl vT_tkn vT_val fT_rf (-10) r_26 hc_26) mb_X8_bad mv_X8_bad wl_X8_75 [0, 1] rfl rfl rfl (Nat.le_of_ble_eq_true rfl) (Nat.le_of_ble_eq_true rfl) rfl hl.1 rfl (Nat.le_of_ble_eq_true rfl) ⟨Nat.le_refl 0, Nat.le_refl 0⟩ dX8_pillows_26) hP hD hS hA [0, 1] rfl rfl (fun H locs hP hD hS => ?_)
        have hP : va_P D vwCl (wd_X8_pillows cI cZ AT AT_al AT_kp AT_ik AT_rf AT_hd AT_bs AT_se AT_bf AT_te AT_by AT_an AT_vs vT_ab vT_be vT_byl vT_tka vT_tkl vT_tkn vT_val r_26.2 fT_al fT_bs) H := hP
        have hD : va_D A (wd_X8_pillows cI cZ AT AT_al AT_kp AT_ik AT_rf AT_hd AT_bs AT_se AT_bf AT_te AT_by AT_an AT_vs vT_ab vT_be vT_byl vT_tka vT_tkl vT_tkn vT_val r_26.2 fT_al fT_bs) := hD
        have hm := Option.some.inj hm
        subst hm
        exact q_iret (v := r_26.1) hx hb hr hlocks hP hS dX8_pillows_29
theorem mb_X8_least : q_mb yX8_least cX8_least 3 (some .int) 1 := ⟨wc_X8_least, wn_X8, by decide, by decide, by decide +kernel⟩
theorem mv_X8_least : q_mv yX8_least 8 := ⟨wi_X8_least, ws_X8_least, _, rfl, rfl⟩
def wd_X8_least (cI cZ : ClassId) (AT AT_al AT_kp AT_ik AT_rf AT_hd AT_bs AT_se AT_bf AT_te AT_by AT_an AT_vs : Nat) (vT_ab : Int64) (vT_be : Int64) (vT_byl : Int32) (vT_tka : Int32) (vT_tkl : Int32) (vT_tkn : Int32) (vT_val : Int32) (fT_al : Nat → Int32) (fT_hd : Nat → Int32) (fT_rf : Nat → Int32) : va_W := [(AT, .inr (8, [.ref AT_al, .ref AT_kp, .ref AT_ik, .ref AT_rf, .long vT_ab, .long vT_be, .ref AT_hd, .ref AT_bs, .ref AT_se, .ref AT_bf, .ref AT_te, .ref AT_by, .int vT_byl, .int vT_tka, .int vT_tkl, .int vT_tkn, .int vT_val, .ref AT_an, .ref AT_vs])), (AT_al, .inl (cI, 312, .inl fT_al)), (AT_hd, .inl (cI, 49, .inl fT_hd)), (AT_rf, .inl (cI, 3, .inl fT_rf))]
def fL_X8_least_21 (p1 : Int32) (fT_al : Nat → Int32) : Nat → Int32 → (Nat → Int32) → (Nat → Int32) → Option (Int32 × (Nat → Int32) × (Nat → Int32))
  | 0, _, _, _ => none
  | fu + 1, x2, fT_hd, fT_rf => if 10 ≤ x2 then (some ((-1), fT_hd, fT_rf)) else (gd (12 + p1) 49 (gd (6 + p1) 312 (Option.bind (fm_X8_believesOn 49 p1 (fT_al (Int32.toNatClampNeg (6 + p1))) (upd fT_hd (Int32.toNatClampNeg (12 + p1)) x2)) (fun r_51 => if r_51 = 0 then (some (x2, (upd fT_hd (Int32.toNatClampNeg (12 + p1)) x2), fT_rf)) else (fL_X8_least_21 p1 fT_al fu (x2 + 1) (upd fT_hd (Int32.toNatClampNeg (12 + p1)) x2) fT_rf)))))
def fm_X8_least (p1 : Int32) (fT_al : Nat → Int32) (fT_hd : Nat → Int32) (fT_rf : Nat → Int32) : Option (Int32 × (Nat → Int32) × (Nat → Int32)) := Option.bind (fm_X8_isSleeper p1 fT_al) (fun r_2 => if r_2 = 0 then (Option.bind (fm_X8_bad (-2) fT_rf) (fun r_11 => some (r_11.1, fT_hd, r_11.2))) else (Option.bind (fm_X8_layHand fT_al fT_hd) (fun r_16 => fL_X8_least_21 p1 fT_al FU 0 r_16 fT_rf)))
set_option maxHeartbeats 4000000 in
set_option maxRecDepth 100000 in
theorem c_X8_least (l : Launch) (D : va_G) (cI cZ : ClassId) (sz : Nat) (AT AT_al AT_kp AT_ik AT_rf AT_hd AT_bs AT_se AT_bf AT_te AT_by AT_an AT_vs : Nat) (vT_ab : Int64) (vT_be : Int64) (vT_byl : Int32) (vT_tka : Int32) (vT_tkl : Int32) (vT_tkn : Int32) (vT_val : Int32) (fT_al : Nat → Int32) (fT_hd : Nat → Int32) (fT_rf : Nat → Int32) (p1 : Int32) (out : (Int32 × (Nat → Int32) × (Nat → Int32))) (hm : fm_X8_least p1 fT_al fT_hd fT_rf = some out) : Met l yX8_least (Cond.code yX8_least cX8_least 3 (some .int) :: bg) { frames := 3, cells := 0, slots := 0, locals := 70 } (va_Pc [.ref AT, .int p1] (q_pre D cI cZ sz (wd_X8_least cI cZ AT AT_al AT_kp AT_ik AT_rf AT_hd AT_bs AT_se AT_bf AT_te AT_by AT_an AT_vs vT_ab vT_be vT_byl vT_tka vT_tkl vT_tkn vT_val fT_al fT_hd fT_rf))) (q_Qi D (wd_X8_least cI cZ AT AT_al AT_kp AT_ik AT_rf AT_hd AT_bs AT_se AT_bf AT_te AT_by AT_an AT_vs vT_ab vT_be vT_byl vT_tka vT_tkl vT_tkn vT_val fT_al out.2.1 out.2.2) out.1 (va_A (wd_X8_least cI cZ AT AT_al AT_kp AT_ik AT_rf AT_hd AT_bs AT_se AT_bf AT_te AT_by AT_an AT_vs vT_ab vT_be vT_byl vT_tka vT_tkl vT_tkn vT_val fT_al fT_hd fT_rf) sz)) 0 0 (va_A (wd_X8_least cI cZ AT AT_al AT_kp AT_ik AT_rf AT_hd AT_bs AT_se AT_bf AT_te AT_by AT_an AT_vs vT_ab vT_be vT_byl vT_tka vT_tkl vT_tkn vT_val fT_al fT_hd fT_rf) sz) := by
  refine q_met (fun A => q_Qi D (wd_X8_least cI cZ AT AT_al AT_kp AT_ik AT_rf AT_hd AT_bs AT_se AT_bf AT_te AT_by AT_an AT_vs vT_ab vT_be vT_byl vT_tka vT_tkl vT_tkn vT_val fT_al out.2.1 out.2.2) out.1 A) (by decide) (Nat.le_of_ble_eq_true rfl) ?_
  intro p e s m below meth c ls A hx hb hr hml hown hts hlocks _ hA hS hP hD hK hN hl
  have hown : s.vm.findClass RX8 = some m.cls := hown
  have hl : lv_has ls 3 [(0, .ref AT), (1, .int p1)] := hl
  have hL_21 : ∀ (fu_21 : Nat) (x2 : Int32) (fT_hd : Nat → Int32) (fT_rf : Nat → Int32) (H : Heap) (locs : List Loc) (ls : Array Slot), fL_X8_least_21 p1 fT_al fu_21 x2 fT_hd fT_rf = some out → va_P D vwCl (wd_X8_least cI cZ AT AT_al AT_kp AT_ik AT_rf AT_hd AT_bs AT_se AT_bf AT_te AT_by AT_an AT_vs vT_ab vT_be vT_byl vT_tka vT_tkl vT_tkn vT_val fT_al fT_hd fT_rf) H → va_D A (wd_X8_least cI cZ AT AT_al AT_kp AT_ik AT_rf AT_hd AT_bs AT_se AT_bf AT_te AT_by AT_an AT_vs vT_ab vT_be vT_byl vT_tka vT_tkl vT_tkn vT_val fT_al fT_hd fT_rf) → va_S A s.heap H locs → lv_has ls 3 [(2, .int x2), (0, .ref AT), (1, .int p1)] → W p l e { frames := 3, cells := 0, slots := 0, locals := 70 } s m ([.ref AT, .int p1] : List Value).toArray below meth c H locs 0 0 (MQ below (q_Qi D (wd_X8_least cI cZ AT AT_al AT_kp AT_ik AT_rf AT_hd AT_bs AT_se AT_bf AT_te AT_by AT_an AT_vs vT_ab vT_be vT_byl vT_tka vT_tkl vT_tkn vT_val fT_al out.2.1 out.2.2) out.1 A) ([.ref AT, .int p1] : List Value).toArray s 0 0 A) (F0 m 21 ls []) := by
    intro fu_21
    induction fu_21 with
    | zero => intro x2 fT_hd fT_rf H locs ls hm hP hD hS hl; exact absurd (show (none : Option (Int32 × (Nat → Int32) × (Nat → Int32))) = some out from hm) (fun h => nomatch h)
    | succ fu_21 ih_21 =>
      intro x2 fT_hd fT_rf H locs ls hm hP hD hS hl
      rw [fL_X8_least_21] at hm
      refine lv_iload_n hx hb dX8_least_21 rfl (lv_at hl 0 rfl) ?_
      refine lv_bipush (v := 10) hx hb dX8_least_22 (by decide) ?_
      refine lv_icmp_ge (tgt := 65) hx hb dX8_least_24 (by decide) (fun c_24 => ?_) (fun c_24 => ?_)
      · have hm := it_s c_24 hm
        refine lv_iconst (v := (-1)) hx hb dX8_least_65 (by decide) ?_
        have hm := Option.some.inj hm
        subst hm
        exact q_iret (v := (-1)) hx hb hr hlocks hP hS dX8_least_66
      · have hm := it_n c_24 hm
        refine lv_aload_n hx hb dX8_least_27 rfl (lv_at hl 1 rfl) ?_
        refine gf_X8_27 (v := .ref AT_hd) hx hb hts hown hK hN hP 0 rfl rfl dX8_least_28 ?_
        refine lv_bipush (v := 12) hx hb dX8_least_31 (by decide) ?_
        refine lv_iload_n hx hb dX8_least_33 rfl (lv_at hl 2 rfl) ?_
        refine lv_iadd hx hb dX8_least_34 ?_
        refine lv_iload_n hx hb dX8_least_35 rfl (lv_at hl 0 rfl) ?_
        obtain ⟨hi_36, hm⟩ := gd_s hm
        refine q_iast (j := (Int32.toNatClampNeg (12 + p1))) hx hb hK hP hD hS 2 rfl hi_36 rfl dX8_least_36 (fun H locs hP hD hS => ?_)
        have hP : va_P D vwCl (wd_X8_least cI cZ AT AT_al AT_kp AT_ik AT_rf AT_hd AT_bs AT_se AT_bf AT_te AT_by AT_an AT_vs vT_ab vT_be vT_byl vT_tka vT_tkl vT_tkn vT_val fT_al (upd fT_hd (Int32.toNatClampNeg (12 + p1)) x2) fT_rf) H := hP
        have hD : va_D A (wd_X8_least cI cZ AT AT_al AT_kp AT_ik AT_rf AT_hd AT_bs AT_se AT_bf AT_te AT_by AT_an AT_vs vT_ab vT_be vT_byl vT_tka vT_tkl vT_tkn vT_val fT_al (upd fT_hd (Int32.toNatClampNeg (12 + p1)) x2) fT_rf) := hD
        refine lv_aload_n hx hb dX8_least_37 rfl (lv_at hl 1 rfl) ?_
        refine gf_X8_27 (v := .ref AT_hd) hx hb hts hown hK hN hP 0 rfl rfl dX8_least_38 ?_
        refine lv_iload_n hx hb dX8_least_41 rfl (lv_at hl 2 rfl) ?_
        refine lv_aload_n hx hb dX8_least_42 rfl (lv_at hl 1 rfl) ?_
        refine gf_X8_7 (v := .ref AT_al) hx hb hts hown hK hN hP 0 rfl rfl dX8_least_43 ?_
        refine lv_bipush (v := 6) hx hb dX8_least_46 (by decide) ?_
        refine lv_iload_n hx hb dX8_least_48 rfl (lv_at hl 2 rfl) ?_
        refine lv_iadd hx hb dX8_least_49 ?_
        obtain ⟨hi_50, hm⟩ := gd_s hm
        refine q_iald (j := (Int32.toNatClampNeg (6 + p1))) hx hb hK hP 1 rfl hi_50 rfl dX8_least_50 ?_
        obtain ⟨r_51, hc_51, hm⟩ := ob_s hm
        refine q_ci (q_rs (rest := []) ⟨hx, hb, hml, hown, hts⟩ hK hN hP hD (c_X8_believesOn l D cI cZ H.size AT_hd 49 (upd fT_hd (Int32.toNatClampNeg (12 + p1)) x2) p1 (fT_al (Int32.toNatClampNeg (6 + p1))) r_51 hc_51) mb_X8_believesOn wt_X8_believesOn wl_X8_107 [2] rfl rfl (Nat.le_of_ble_eq_true rfl) (Nat.le_of_ble_eq_true rfl) rfl hl.1 rfl (Nat.le_of_ble_eq_true rfl) ⟨Nat.le_refl 0, Nat.le_refl 0⟩ dX8_least_51) hP hD hS hA [2] rfl rfl (fun H locs hP hD hS => ?_)
        have hP : va_P D vwCl (wd_X8_least cI cZ AT AT_al AT_kp AT_ik AT_rf AT_hd AT_bs AT_se AT_bf AT_te AT_by AT_an AT_vs vT_ab vT_be vT_byl vT_tka vT_tkl vT_tkn vT_val fT_al (upd fT_hd (Int32.toNatClampNeg (12 + p1)) x2) fT_rf) H := hP
        have hD : va_D A (wd_X8_least cI cZ AT AT_al AT_kp AT_ik AT_rf AT_hd AT_bs AT_se AT_bf AT_te AT_by AT_an AT_vs vT_ab vT_be vT_byl vT_tka vT_tkl vT_tkn vT_val fT_al (upd fT_hd (Int32.toNatClampNeg (12 + p1)) x2) fT_rf) := hD
        refine lv_if_ne (tgt := 59) hx hb dX8_least_54 (by decide) (fun c_54 => ?_) (fun c_54 => ?_)
        · have hm := it_n c_54 hm
          refine lv_iinc (v := (x2 + 1)) (lv' := [(2, .int (x2 + 1)), (0, .ref AT), (1, .int p1)]) hx hb dX8_least_59 hl (k := 0) rfl rfl (by decide) rfl (fun ls hl => ?_)
          refine lv_goto (tgt := 21) hx hb dX8_least_62 (by decide) ?_
          exact ih_21 (x2 + 1) (upd fT_hd (Int32.toNatClampNeg (12 + p1)) x2) fT_rf H locs ls hm hP hD hS (lv_sub hl [0, 1, 2] rfl)
        · have hm := it_s c_54 hm
          refine lv_iload_n hx hb dX8_least_57 rfl (lv_at hl 0 rfl) ?_
          have hm := Option.some.inj hm
          subst hm
          exact q_iret (v := x2) hx hb hr hlocks hP hS dX8_least_58
  unfold fm_X8_least at hm
  refine q_gen hS hP ?_
  intro H locs hP hS
  refine lv_aload_n hx hb dX8_least_0 rfl (lv_at hl 0 rfl) ?_
  refine lv_iload_n hx hb dX8_least_1 rfl (lv_at hl 1 rfl) ?_
  obtain ⟨r_2, hc_2, hm⟩ := ob_s hm
  refine q_ci (q_rv (rest := []) ⟨hx, hb, hml, hown, hts⟩ hK hN hP hD (c_X8_isSleeper l D cI cZ H.size AT AT_al AT_kp AT_ik AT_rf AT_hd AT_bs AT_se AT_bf AT_te AT_by AT_an AT_vs vT_ab vT_be vT_byl vT_tka vT_tkl vT_tkn vT_val fT_al p1 r_2 hc_2) mb_X8_isSleeper mv_X8_isSleeper wl_X8_132 [0, 1] rfl rfl rfl (Nat.le_of_ble_eq_true rfl) (Nat.le_of_ble_eq_true rfl) rfl hl.1 rfl (Nat.le_of_ble_eq_true rfl) ⟨Nat.le_refl 0, Nat.le_refl 0⟩ dX8_least_2) hP hD hS hA [0, 1] rfl rfl (fun H locs hP hD hS => ?_)
  have hP : va_P D vwCl (wd_X8_least cI cZ AT AT_al AT_kp AT_ik AT_rf AT_hd AT_bs AT_se AT_bf AT_te AT_by AT_an AT_vs vT_ab vT_be vT_byl vT_tka vT_tkl vT_tkn vT_val fT_al fT_hd fT_rf) H := hP
  have hD : va_D A (wd_X8_least cI cZ AT AT_al AT_kp AT_ik AT_rf AT_hd AT_bs AT_se AT_bf AT_te AT_by AT_an AT_vs vT_ab vT_be vT_byl vT_tka vT_tkl vT_tkn vT_val fT_al fT_hd fT_rf) := hD
  refine lv_if_ne (tgt := 15) hx hb dX8_least_5 (by decide) (fun c_5 => ?_) (fun c_5 => ?_)
  · have hm := it_n c_5 hm
    refine lv_aload_n hx hb dX8_least_15 rfl (lv_at hl 0 rfl) ?_
    obtain ⟨r_16, hc_16, hm⟩ := ob_s hm
    refine q_cv (q_rv (rest := []) ⟨hx, hb, hml, hown, hts⟩ hK hN hP hD (c_X8_layHand l D cI cZ H.size AT AT_al AT_kp AT_ik AT_rf AT_hd AT_bs AT_se AT_bf AT_te AT_by AT_an AT_vs vT_ab vT_be vT_byl vT_tka vT_tkl vT_tkn vT_val fT_al fT_hd r_16 hc_16) mb_X8_layHand mv_X8_layHand wl_X8_145 [0, 1, 2] rfl rfl rfl (Nat.le_of_ble_eq_true rfl) (Nat.le_of_ble_eq_true rfl) rfl hl.1 rfl (Nat.le_of_ble_eq_true rfl) ⟨Nat.le_refl 0, Nat.le_refl 0⟩ dX8_least_16) hP hD hS hA [0, 1, 2] rfl rfl (fun H locs hP hD hS => ?_)
    have hP : va_P D vwCl (wd_X8_least cI cZ AT AT_al AT_kp AT_ik AT_rf AT_hd AT_bs AT_se AT_bf AT_te AT_by AT_an AT_vs vT_ab vT_be vT_byl vT_tka vT_tkl vT_tkn vT_val fT_al r_16 fT_rf) H := hP
    have hD : va_D A (wd_X8_least cI cZ AT AT_al AT_kp AT_ik AT_rf AT_hd AT_bs AT_se AT_bf AT_te AT_by AT_an AT_vs vT_ab vT_be vT_byl vT_tka vT_tkl vT_tkn vT_val fT_al r_16 fT_rf) := hD
    refine lv_iconst (v := 0) hx hb dX8_least_19 (by decide) ?_
    refine lv_istore_n (lv' := [(2, .int 0), (0, .ref AT), (1, .int p1)]) hx hb dX8_least_20 rfl hl (by decide) rfl (fun ls hl => ?_)
    exact hL_21 FU 0 r_16 fT_rf H locs ls hm hP hD hS (lv_sub hl [0, 1, 2] rfl)
  · have hm := it_s c_5 hm
    refine lv_aload_n hx hb dX8_least_8 rfl (lv_at hl 0 rfl) ?_
    refine lv_bipush (v := (-2)) hx hb dX8_least_9 (by decide) ?_
    obtain ⟨r_11, hc_11, hm⟩ := ob_s hm
    refine q_ci (q_rv (rest := []) ⟨hx, hb, hml, hown, hts⟩ hK hN hP hD (c_X8_bad l D cI cZ H.size AT AT_al AT_kp AT_ik AT_rf AT_hd AT_bs AT_se AT_bf AT_te AT_by AT_an AT_vs vT_ab vT_be vT_byl vT_tka vT_tkl vT_tkn vT_val fT_rf (-2) r_11 hc_11) mb_X8_bad mv_X8_bad wl_X8_75 [0, 3] rfl rfl rfl (Nat.le_of_ble_eq_true rfl) (Nat.le_of_ble_eq_true rfl) rfl hl.1 rfl (Nat.le_of_ble_eq_true rfl) ⟨Nat.le_refl 0, Nat.le_refl 0⟩ dX8_least_11) hP hD hS hA [0, 3] rfl rfl (fun H locs hP hD hS => ?_)
    have hP : va_P D vwCl (wd_X8_least cI cZ AT AT_al AT_kp AT_ik AT_rf AT_hd AT_bs AT_se AT_bf AT_te AT_by AT_an AT_vs vT_ab vT_be vT_byl vT_tka vT_tkl vT_tkn vT_val fT_al fT_hd r_11.2) H := hP
    have hD : va_D A (wd_X8_least cI cZ AT AT_al AT_kp AT_ik AT_rf AT_hd AT_bs AT_se AT_bf AT_te AT_by AT_an AT_vs vT_ab vT_be vT_byl vT_tka vT_tkl vT_tkn vT_val fT_al fT_hd r_11.2) := hD
    have hm := Option.some.inj hm
    subst hm
    exact q_iret (v := r_11.1) hx hb hr hlocks hP hS dX8_least_14
theorem mb_X8_send : q_mb yX8_send cX8_send 8 (some .int) 2 := ⟨wc_X8_send, wn_X8, by decide, by decide, by decide +kernel⟩
theorem mv_X8_send : q_mv yX8_send 8 := ⟨wi_X8_send, ws_X8_send, _, rfl, rfl⟩
def wd_X8_send (cI cZ : ClassId) (AT AT_al AT_kp AT_ik AT_rf AT_hd AT_bs AT_se AT_bf AT_te AT_by AT_an AT_vs : Nat) (vT_ab : Int64) (vT_be : Int64) (vT_byl : Int32) (vT_tka : Int32) (vT_tkl : Int32) (vT_tkn : Int32) (vT_val : Int32) (fT_al : Nat → Int32) (fT_rf : Nat → Int32) (fT_hd : Nat → Int32) : va_W := [(AT, .inr (8, [.ref AT_al, .ref AT_kp, .ref AT_ik, .ref AT_rf, .long vT_ab, .long vT_be, .ref AT_hd, .ref AT_bs, .ref AT_se, .ref AT_bf, .ref AT_te, .ref AT_by, .int vT_byl, .int vT_tka, .int vT_tkl, .int vT_tkn, .int vT_val, .ref AT_an, .ref AT_vs])), (AT_al, .inl (cI, 312, .inl fT_al)), (AT_rf, .inl (cI, 3, .inl fT_rf)), (AT_hd, .inl (cI, 49, .inl fT_hd))]
def fL_X8_send_34 (p1 : Int32) (p2 : Int32) (fT_al : Nat → Int32) : Nat → Int32 → Int32 → Int32 → (Nat → Int32) → (Nat → Int32) → Option (Int32 × (Nat → Int32) × (Nat → Int32))
  | 0, _, _, _, _, _ => none
  | fu + 1, x5, x4, x3, fT_rf, fT_hd => if (fT_al 1) ≤ x5 then (if x3 = (-1) then (some ((-1), fT_rf, fT_hd)) else (if p2 = 0 then (some (x4, fT_rf, fT_hd)) else (some (x3, fT_rf, fT_hd)))) else (Option.bind (fm_X8_layHand fT_al fT_hd) (fun r_46 => gd (6 + p1) 312 (gd (24 + x5) 49 (Option.bind (fm_X8_soonest p1 (upd r_46 (Int32.toNatClampNeg (24 + x5)) (fT_al (Int32.toNatClampNeg (6 + p1))))) (fun r_70 => if r_70.1 = (-1) then (fL_X8_send_34 p1 p2 fT_al fu (x5 + 1) x4 x3 fT_rf r_70.2) else (if x4 ≤ r_70.1 then (fL_X8_send_34 p1 p2 fT_al fu (x5 + 1) x4 x3 fT_rf r_70.2) else (fL_X8_send_34 p1 p2 fT_al fu (x5 + 1) r_70.1 x5 fT_rf r_70.2)))))))
def fm_X8_send (p1 : Int32) (p2 : Int32) (fT_al : Nat → Int32) (fT_rf : Nat → Int32) (fT_hd : Nat → Int32) : Option (Int32 × (Nat → Int32) × (Nat → Int32)) := Option.bind (fm_X8_isSleeper p1 fT_al) (fun r_2 => if r_2 = 0 then (Option.bind (fm_X8_bad (-2) fT_rf) (fun r_21 => some (r_21.1, r_21.2, fT_hd))) else (Option.bind (fm_X8_in (Int32.toInt64 p2) 0 1) (fun r_12 => if r_12 = 0 then (Option.bind (fm_X8_bad (-2) fT_rf) (fun r_21 => some (r_21.1, r_21.2, fT_hd))) else (fL_X8_send_34 p1 p2 fT_al FU 0 1000000 (-1) fT_rf fT_hd))))
set_option maxHeartbeats 4000000 in
set_option maxRecDepth 100000 in
theorem c_X8_send (l : Launch) (D : va_G) (cI cZ : ClassId) (sz : Nat) (AT AT_al AT_kp AT_ik AT_rf AT_hd AT_bs AT_se AT_bf AT_te AT_by AT_an AT_vs : Nat) (vT_ab : Int64) (vT_be : Int64) (vT_byl : Int32) (vT_tka : Int32) (vT_tkl : Int32) (vT_tkn : Int32) (vT_val : Int32) (fT_al : Nat → Int32) (fT_rf : Nat → Int32) (fT_hd : Nat → Int32) (p1 : Int32) (p2 : Int32) (out : (Int32 × (Nat → Int32) × (Nat → Int32))) (hm : fm_X8_send p1 p2 fT_al fT_rf fT_hd = some out) : Met l yX8_send (Cond.code yX8_send cX8_send 8 (some .int) :: bg) { frames := 5, cells := 0, slots := 0, locals := 114 } (va_Pc [.ref AT, .int p1, .int p2] (q_pre D cI cZ sz (wd_X8_send cI cZ AT AT_al AT_kp AT_ik AT_rf AT_hd AT_bs AT_se AT_bf AT_te AT_by AT_an AT_vs vT_ab vT_be vT_byl vT_tka vT_tkl vT_tkn vT_val fT_al fT_rf fT_hd))) (q_Qi D (wd_X8_send cI cZ AT AT_al AT_kp AT_ik AT_rf AT_hd AT_bs AT_se AT_bf AT_te AT_by AT_an AT_vs vT_ab vT_be vT_byl vT_tka vT_tkl vT_tkn vT_val fT_al out.2.1 out.2.2) out.1 (va_A (wd_X8_send cI cZ AT AT_al AT_kp AT_ik AT_rf AT_hd AT_bs AT_se AT_bf AT_te AT_by AT_an AT_vs vT_ab vT_be vT_byl vT_tka vT_tkl vT_tkn vT_val fT_al fT_rf fT_hd) sz)) 0 0 (va_A (wd_X8_send cI cZ AT AT_al AT_kp AT_ik AT_rf AT_hd AT_bs AT_se AT_bf AT_te AT_by AT_an AT_vs vT_ab vT_be vT_byl vT_tka vT_tkl vT_tkn vT_val fT_al fT_rf fT_hd) sz) := by
  refine q_met (fun A => q_Qi D (wd_X8_send cI cZ AT AT_al AT_kp AT_ik AT_rf AT_hd AT_bs AT_se AT_bf AT_te AT_by AT_an AT_vs vT_ab vT_be vT_byl vT_tka vT_tkl vT_tkn vT_val fT_al out.2.1 out.2.2) out.1 A) (by decide) (Nat.le_of_ble_eq_true rfl) ?_
  intro p e s m below meth c ls A hx hb hr hml hown hts hlocks _ hA hS hP hD hK hN hl
  have hown : s.vm.findClass RX8 = some m.cls := hown
  have hl : lv_has ls 8 [(0, .ref AT), (1, .int p1), (2, .int p2)] := hl
  have hL_34 : ∀ (fu_34 : Nat) (x5 : Int32) (x4 : Int32) (x3 : Int32) (fT_rf : Nat → Int32) (fT_hd : Nat → Int32) (H : Heap) (locs : List Loc) (ls : Array Slot), fL_X8_send_34 p1 p2 fT_al fu_34 x5 x4 x3 fT_rf fT_hd = some out → va_P D vwCl (wd_X8_send cI cZ AT AT_al AT_kp AT_ik AT_rf AT_hd AT_bs AT_se AT_bf AT_te AT_by AT_an AT_vs vT_ab vT_be vT_byl vT_tka vT_tkl vT_tkn vT_val fT_al fT_rf fT_hd) H → va_D A (wd_X8_send cI cZ AT AT_al AT_kp AT_ik AT_rf AT_hd AT_bs AT_se AT_bf AT_te AT_by AT_an AT_vs vT_ab vT_be vT_byl vT_tka vT_tkl vT_tkn vT_val fT_al fT_rf fT_hd) → va_S A s.heap H locs → lv_has ls 8 [(5, .int x5), (4, .int x4), (3, .int x3), (0, .ref AT), (1, .int p1), (2, .int p2)] → W p l e { frames := 5, cells := 0, slots := 0, locals := 114 } s m ([.ref AT, .int p1, .int p2] : List Value).toArray below meth c H locs 0 0 (MQ below (q_Qi D (wd_X8_send cI cZ AT AT_al AT_kp AT_ik AT_rf AT_hd AT_bs AT_se AT_bf AT_te AT_by AT_an AT_vs vT_ab vT_be vT_byl vT_tka vT_tkl vT_tkn vT_val fT_al out.2.1 out.2.2) out.1 A) ([.ref AT, .int p1, .int p2] : List Value).toArray s 0 0 A) (F0 m 34 ls []) := by
    intro fu_34
    induction fu_34 with
    | zero => intro x5 x4 x3 fT_rf fT_hd H locs ls hm hP hD hS hl; exact absurd (show (none : Option (Int32 × (Nat → Int32) × (Nat → Int32))) = some out from hm) (fun h => nomatch h)
    | succ fu_34 ih_34 =>
      intro x5 x4 x3 fT_rf fT_hd H locs ls hm hP hD hS hl
      rw [fL_X8_send_34] at hm
      refine lv_iload hx hb dX8_send_34 (lv_at hl 0 rfl) ?_
      refine lv_aload_n hx hb dX8_send_36 rfl (lv_at hl 3 rfl) ?_
      refine gf_X8_7 (v := .ref AT_al) hx hb hts hown hK hN hP 0 rfl rfl dX8_send_37 ?_
      refine lv_iconst (v := 1) hx hb dX8_send_40 (by decide) ?_
      refine q_iald (j := 1) hx hb hK hP 1 rfl (q_inl (by decide)) (by decide) dX8_send_41 ?_
      refine lv_icmp_ge (tgt := 127) hx hb dX8_send_42 (by decide) (fun c_42 => ?_) (fun c_42 => ?_)
      · have hm := it_s c_42 hm
        refine lv_iload_n hx hb dX8_send_127 rfl (lv_at hl 2 rfl) ?_
        refine lv_iconst (v := (-1)) hx hb dX8_send_128 (by decide) ?_
        refine lv_icmp_ne (tgt := 136) hx hb dX8_send_129 (by decide) (fun c_129 => ?_) (fun c_129 => ?_)
        · have hm := it_n c_129 hm
          refine lv_iload_n hx hb dX8_send_136 rfl (lv_at hl 5 rfl) ?_
          refine lv_if_ne (tgt := 145) hx hb dX8_send_137 (by decide) (fun c_137 => ?_) (fun c_137 => ?_)
          · have hm := it_n c_137 hm
            refine lv_iload_n hx hb dX8_send_145 rfl (lv_at hl 2 rfl) ?_
            have hm := Option.some.inj hm
            subst hm
            exact q_iret (v := x3) hx hb hr hlocks hP hS dX8_send_146
          · have hm := it_s c_137 hm
            refine lv_iload hx hb dX8_send_140 (lv_at hl 1 rfl) ?_
            refine lv_goto (tgt := 146) hx hb dX8_send_142 (by decide) ?_
            have hm := Option.some.inj hm
            subst hm
            exact q_iret (v := x4) hx hb hr hlocks hP hS dX8_send_146
        · have hm := it_s c_129 hm
          refine lv_iconst (v := (-1)) hx hb dX8_send_132 (by decide) ?_
          refine lv_goto (tgt := 146) hx hb dX8_send_133 (by decide) ?_
          have hm := Option.some.inj hm
          subst hm
          exact q_iret (v := (-1)) hx hb hr hlocks hP hS dX8_send_146
      · have hm := it_n c_42 hm
        refine lv_aload_n hx hb dX8_send_45 rfl (lv_at hl 3 rfl) ?_
        obtain ⟨r_46, hc_46, hm⟩ := ob_s hm
        refine q_cv (q_rv (rest := []) ⟨hx, hb, hml, hown, hts⟩ hK hN hP hD (c_X8_layHand l D cI cZ H.size AT AT_al AT_kp AT_ik AT_rf AT_hd AT_bs AT_se AT_bf AT_te AT_by AT_an AT_vs vT_ab vT_be vT_byl vT_tka vT_tkl vT_tkn vT_val fT_al fT_hd r_46 hc_46) mb_X8_layHand mv_X8_layHand wl_X8_145 [0, 1, 3] rfl rfl rfl (Nat.le_of_ble_eq_true rfl) (Nat.le_of_ble_eq_true rfl) rfl hl.1 rfl (Nat.le_of_ble_eq_true rfl) ⟨Nat.le_refl 0, Nat.le_refl 0⟩ dX8_send_46) hP hD hS hA [0, 1, 3] rfl rfl (fun H locs hP hD hS => ?_)
        have hP : va_P D vwCl (wd_X8_send cI cZ AT AT_al AT_kp AT_ik AT_rf AT_hd AT_bs AT_se AT_bf AT_te AT_by AT_an AT_vs vT_ab vT_be vT_byl vT_tka vT_tkl vT_tkn vT_val fT_al fT_rf r_46) H := hP
        have hD : va_D A (wd_X8_send cI cZ AT AT_al AT_kp AT_ik AT_rf AT_hd AT_bs AT_se AT_bf AT_te AT_by AT_an AT_vs vT_ab vT_be vT_byl vT_tka vT_tkl vT_tkn vT_val fT_al fT_rf r_46) := hD
        refine lv_aload_n hx hb dX8_send_49 rfl (lv_at hl 3 rfl) ?_
        refine gf_X8_27 (v := .ref AT_hd) hx hb hts hown hK hN hP 0 rfl rfl dX8_send_50 ?_
        refine lv_bipush (v := 24) hx hb dX8_send_53 (by decide) ?_
        refine lv_iload hx hb dX8_send_55 (lv_at hl 0 rfl) ?_
        refine lv_iadd hx hb dX8_send_57 ?_
        refine lv_aload_n hx hb dX8_send_58 rfl (lv_at hl 3 rfl) ?_
        refine gf_X8_7 (v := .ref AT_al) hx hb hts hown hK hN hP 0 rfl rfl dX8_send_59 ?_
        refine lv_bipush (v := 6) hx hb dX8_send_62 (by decide) ?_
        refine lv_iload_n hx hb dX8_send_64 rfl (lv_at hl 4 rfl) ?_
        refine lv_iadd hx hb dX8_send_65 ?_
        obtain ⟨hi_66, hm⟩ := gd_s hm
        refine q_iald (j := (Int32.toNatClampNeg (6 + p1))) hx hb hK hP 1 rfl hi_66 rfl dX8_send_66 ?_
        obtain ⟨hi_67, hm⟩ := gd_s hm
        refine q_iast (j := (Int32.toNatClampNeg (24 + x5))) hx hb hK hP hD hS 3 rfl hi_67 rfl dX8_send_67 (fun H locs hP hD hS => ?_)
        have hP : va_P D vwCl (wd_X8_send cI cZ AT AT_al AT_kp AT_ik AT_rf AT_hd AT_bs AT_se AT_bf AT_te AT_by AT_an AT_vs vT_ab vT_be vT_byl vT_tka vT_tkl vT_tkn vT_val fT_al fT_rf (upd r_46 (Int32.toNatClampNeg (24 + x5)) (fT_al (Int32.toNatClampNeg (6 + p1))))) H := hP
        have hD : va_D A (wd_X8_send cI cZ AT AT_al AT_kp AT_ik AT_rf AT_hd AT_bs AT_se AT_bf AT_te AT_by AT_an AT_vs vT_ab vT_be vT_byl vT_tka vT_tkl vT_tkn vT_val fT_al fT_rf (upd r_46 (Int32.toNatClampNeg (24 + x5)) (fT_al (Int32.toNatClampNeg (6 + p1))))) := hD
        refine lv_aload_n hx hb dX8_send_68 rfl (lv_at hl 3 rfl) ?_
        refine lv_iload_n hx hb dX8_send_69 rfl (lv_at hl 4 rfl) ?_
        obtain ⟨r_70, hc_70, hm⟩ := ob_s hm
        refine q_ci (q_rv (rest := []) ⟨hx, hb, hml, hown, hts⟩ hK hN hP hD (c_X8_soonest l D cI cZ H.size AT AT_al AT_kp AT_ik AT_rf AT_hd AT_bs AT_se AT_bf AT_te AT_by AT_an AT_vs vT_ab vT_be vT_byl vT_tka vT_tkl vT_tkn vT_val (upd r_46 (Int32.toNatClampNeg (24 + x5)) (fT_al (Int32.toNatClampNeg (6 + p1)))) p1 r_70 hc_70) mb_X8_soonest mv_X8_soonest wl_X8_148 [0, 3] rfl rfl rfl (Nat.le_of_ble_eq_true rfl) (Nat.le_of_ble_eq_true rfl) rfl hl.1 rfl (Nat.le_of_ble_eq_true rfl) ⟨Nat.le_refl 0, Nat.le_refl 0⟩ dX8_send_70) hP hD hS hA [0, 3] rfl rfl (fun H locs hP hD hS => ?_)
        have hP : va_P D vwCl (wd_X8_send cI cZ AT AT_al AT_kp AT_ik AT_rf AT_hd AT_bs AT_se AT_bf AT_te AT_by AT_an AT_vs vT_ab vT_be vT_byl vT_tka vT_tkl vT_tkn vT_val fT_al fT_rf r_70.2) H := hP
        have hD : va_D A (wd_X8_send cI cZ AT AT_al AT_kp AT_ik AT_rf AT_hd AT_bs AT_se AT_bf AT_te AT_by AT_an AT_vs vT_ab vT_be vT_byl vT_tka vT_tkl vT_tkn vT_val fT_al fT_rf r_70.2) := hD
        refine lv_istore (lv' := [(6, .int r_70.1), (5, .int x5), (4, .int x4), (3, .int x3), (0, .ref AT), (1, .int p1), (2, .int p2)]) hx hb dX8_send_73 hl (by decide) rfl (fun ls hl => ?_)
        refine lv_iload hx hb dX8_send_75 (lv_at hl 0 rfl) ?_
        refine lv_iconst (v := (-1)) hx hb dX8_send_77 (by decide) ?_
        refine lv_icmp_eq (tgt := 92) hx hb dX8_send_78 (by decide) (fun c_78 => ?_) (fun c_78 => ?_)
        · have hm := it_s c_78 hm
          refine lv_iconst (v := 0) hx hb dX8_send_92 (by decide) ?_
          refine lv_istore (lv' := [(7, .int 0), (6, .int r_70.1), (5, .int x5), (4, .int x4), (3, .int x3), (0, .ref AT), (1, .int p1), (2, .int p2)]) hx hb dX8_send_93 hl (by decide) rfl (fun ls hl => ?_)
          refine lv_iload hx hb dX8_send_95 (lv_at hl 0 rfl) ?_
          refine lv_if_eq (tgt := 105) hx hb dX8_send_97 (by decide) (fun _ => ?_) (fun c => absurd c (by decide))
          refine lv_iload_n hx hb dX8_send_105 rfl (lv_at hl 4 rfl) ?_
          refine lv_istore_n (lv' := [(3, .int x3), (7, .int 0), (6, .int r_70.1), (5, .int x5), (4, .int x4), (0, .ref AT), (1, .int p1), (2, .int p2)]) hx hb dX8_send_106 rfl hl (by decide) rfl (fun ls hl => ?_)
          refine lv_iload hx hb dX8_send_107 (lv_at hl 1 rfl) ?_
          refine lv_if_eq (tgt := 117) hx hb dX8_send_109 (by decide) (fun _ => ?_) (fun c => absurd c (by decide))
          refine lv_iload hx hb dX8_send_117 (lv_at hl 4 rfl) ?_
          refine lv_istore (lv' := [(4, .int x4), (3, .int x3), (7, .int 0), (6, .int r_70.1), (5, .int x5), (0, .ref AT), (1, .int p1), (2, .int p2)]) hx hb dX8_send_119 hl (by decide) rfl (fun ls hl => ?_)
          refine lv_iinc (v := (x5 + 1)) (lv' := [(5, .int (x5 + 1)), (4, .int x4), (3, .int x3), (7, .int 0), (6, .int r_70.1), (0, .ref AT), (1, .int p1), (2, .int p2)]) hx hb dX8_send_121 hl (k := 4) rfl rfl (by decide) rfl (fun ls hl => ?_)
          refine lv_goto (tgt := 34) hx hb dX8_send_124 (by decide) ?_
          exact ih_34 (x5 + 1) x4 x3 fT_rf r_70.2 H locs ls hm hP hD hS (lv_sub hl [0, 1, 2, 5, 6, 7] rfl)
        · have hm := it_n c_78 hm
          refine lv_iload hx hb dX8_send_81 (lv_at hl 0 rfl) ?_
          refine lv_iload hx hb dX8_send_83 (lv_at hl 2 rfl) ?_
          refine lv_icmp_ge (tgt := 92) hx hb dX8_send_85 (by decide) (fun c_85 => ?_) (fun c_85 => ?_)
          · have hm := it_s c_85 hm
            refine lv_iconst (v := 0) hx hb dX8_send_92 (by decide) ?_
            refine lv_istore (lv' := [(7, .int 0), (6, .int r_70.1), (5, .int x5), (4, .int x4), (3, .int x3), (0, .ref AT), (1, .int p1), (2, .int p2)]) hx hb dX8_send_93 hl (by decide) rfl (fun ls hl => ?_)
            refine lv_iload hx hb dX8_send_95 (lv_at hl 0 rfl) ?_
            refine lv_if_eq (tgt := 105) hx hb dX8_send_97 (by decide) (fun _ => ?_) (fun c => absurd c (by decide))
            refine lv_iload_n hx hb dX8_send_105 rfl (lv_at hl 4 rfl) ?_
            refine lv_istore_n (lv' := [(3, .int x3), (7, .int 0), (6, .int r_70.1), (5, .int x5), (4, .int x4), (0, .ref AT), (1, .int p1), (2, .int p2)]) hx hb dX8_send_106 rfl hl (by decide) rfl (fun ls hl => ?_)
            refine lv_iload hx hb dX8_send_107 (lv_at hl 1 rfl) ?_
            refine lv_if_eq (tgt := 117) hx hb dX8_send_109 (by decide) (fun _ => ?_) (fun c => absurd c (by decide))
            refine lv_iload hx hb dX8_send_117 (lv_at hl 4 rfl) ?_
            refine lv_istore (lv' := [(4, .int x4), (3, .int x3), (7, .int 0), (6, .int r_70.1), (5, .int x5), (0, .ref AT), (1, .int p1), (2, .int p2)]) hx hb dX8_send_119 hl (by decide) rfl (fun ls hl => ?_)
            refine lv_iinc (v := (x5 + 1)) (lv' := [(5, .int (x5 + 1)), (4, .int x4), (3, .int x3), (7, .int 0), (6, .int r_70.1), (0, .ref AT), (1, .int p1), (2, .int p2)]) hx hb dX8_send_121 hl (k := 4) rfl rfl (by decide) rfl (fun ls hl => ?_)
            refine lv_goto (tgt := 34) hx hb dX8_send_124 (by decide) ?_
            exact ih_34 (x5 + 1) x4 x3 fT_rf r_70.2 H locs ls hm hP hD hS (lv_sub hl [0, 1, 2, 5, 6, 7] rfl)
          · have hm := it_n c_85 hm
            refine lv_iconst (v := 1) hx hb dX8_send_88 (by decide) ?_
            refine lv_goto (tgt := 93) hx hb dX8_send_89 (by decide) ?_
            refine lv_istore (lv' := [(7, .int 1), (6, .int r_70.1), (5, .int x5), (4, .int x4), (3, .int x3), (0, .ref AT), (1, .int p1), (2, .int p2)]) hx hb dX8_send_93 hl (by decide) rfl (fun ls hl => ?_)
            refine lv_iload hx hb dX8_send_95 (lv_at hl 0 rfl) ?_
            refine lv_if_eq (tgt := 105) hx hb dX8_send_97 (by decide) (fun c => absurd c (by decide)) (fun _ => ?_)
            refine lv_iload hx hb dX8_send_100 (lv_at hl 2 rfl) ?_
            refine lv_goto (tgt := 106) hx hb dX8_send_102 (by decide) ?_
            refine lv_istore_n (lv' := [(3, .int x5), (7, .int 1), (6, .int r_70.1), (5, .int x5), (4, .int x4), (0, .ref AT), (1, .int p1), (2, .int p2)]) hx hb dX8_send_106 rfl hl (by decide) rfl (fun ls hl => ?_)
            refine lv_iload hx hb dX8_send_107 (lv_at hl 1 rfl) ?_
            refine lv_if_eq (tgt := 117) hx hb dX8_send_109 (by decide) (fun c => absurd c (by decide)) (fun _ => ?_)
            refine lv_iload hx hb dX8_send_112 (lv_at hl 2 rfl) ?_
            refine lv_goto (tgt := 119) hx hb dX8_send_114 (by decide) ?_
            refine lv_istore (lv' := [(4, .int r_70.1), (3, .int x5), (7, .int 1), (6, .int r_70.1), (5, .int x5), (0, .ref AT), (1, .int p1), (2, .int p2)]) hx hb dX8_send_119 hl (by decide) rfl (fun ls hl => ?_)
            refine lv_iinc (v := (x5 + 1)) (lv' := [(5, .int (x5 + 1)), (4, .int r_70.1), (3, .int x5), (7, .int 1), (6, .int r_70.1), (0, .ref AT), (1, .int p1), (2, .int p2)]) hx hb dX8_send_121 hl (k := 4) rfl rfl (by decide) rfl (fun ls hl => ?_)
            refine lv_goto (tgt := 34) hx hb dX8_send_124 (by decide) ?_
            exact ih_34 (x5 + 1) r_70.1 x5 fT_rf r_70.2 H locs ls hm hP hD hS (lv_sub hl [0, 1, 2, 5, 6, 7] rfl)
  unfold fm_X8_send at hm
  refine q_gen hS hP ?_
  intro H locs hP hS
  refine lv_aload_n hx hb dX8_send_0 rfl (lv_at hl 0 rfl) ?_
  refine lv_iload_n hx hb dX8_send_1 rfl (lv_at hl 1 rfl) ?_
  obtain ⟨r_2, hc_2, hm⟩ := ob_s hm
  refine q_ci (q_rv (rest := []) ⟨hx, hb, hml, hown, hts⟩ hK hN hP hD (c_X8_isSleeper l D cI cZ H.size AT AT_al AT_kp AT_ik AT_rf AT_hd AT_bs AT_se AT_bf AT_te AT_by AT_an AT_vs vT_ab vT_be vT_byl vT_tka vT_tkl vT_tkn vT_val fT_al p1 r_2 hc_2) mb_X8_isSleeper mv_X8_isSleeper wl_X8_132 [0, 1] rfl rfl rfl (Nat.le_of_ble_eq_true rfl) (Nat.le_of_ble_eq_true rfl) rfl hl.1 rfl (Nat.le_of_ble_eq_true rfl) ⟨Nat.le_refl 0, Nat.le_refl 0⟩ dX8_send_2) hP hD hS hA [0, 1] rfl rfl (fun H locs hP hD hS => ?_)
  have hP : va_P D vwCl (wd_X8_send cI cZ AT AT_al AT_kp AT_ik AT_rf AT_hd AT_bs AT_se AT_bf AT_te AT_by AT_an AT_vs vT_ab vT_be vT_byl vT_tka vT_tkl vT_tkn vT_val fT_al fT_rf fT_hd) H := hP
  have hD : va_D A (wd_X8_send cI cZ AT AT_al AT_kp AT_ik AT_rf AT_hd AT_bs AT_se AT_bf AT_te AT_by AT_an AT_vs vT_ab vT_be vT_byl vT_tka vT_tkl vT_tkn vT_val fT_al fT_rf fT_hd) := hD
  refine lv_if_eq (tgt := 18) hx hb dX8_send_5 (by decide) (fun c_5 => ?_) (fun c_5 => ?_)
  · have hm := it_s c_5 hm
    refine lv_aload_n hx hb dX8_send_18 rfl (lv_at hl 0 rfl) ?_
    refine lv_bipush (v := (-2)) hx hb dX8_send_19 (by decide) ?_
    obtain ⟨r_21, hc_21, hm⟩ := ob_s hm
    refine q_ci (q_rv (rest := []) ⟨hx, hb, hml, hown, hts⟩ hK hN hP hD (c_X8_bad l D cI cZ H.size AT AT_al AT_kp AT_ik AT_rf AT_hd AT_bs AT_se AT_bf AT_te AT_by AT_an AT_vs vT_ab vT_be vT_byl vT_tka vT_tkl vT_tkn vT_val fT_rf (-2) r_21 hc_21) mb_X8_bad mv_X8_bad wl_X8_75 [0, 2] rfl rfl rfl (Nat.le_of_ble_eq_true rfl) (Nat.le_of_ble_eq_true rfl) rfl hl.1 rfl (Nat.le_of_ble_eq_true rfl) ⟨Nat.le_refl 0, Nat.le_refl 0⟩ dX8_send_21) hP hD hS hA [0, 2] rfl rfl (fun H locs hP hD hS => ?_)
    have hP : va_P D vwCl (wd_X8_send cI cZ AT AT_al AT_kp AT_ik AT_rf AT_hd AT_bs AT_se AT_bf AT_te AT_by AT_an AT_vs vT_ab vT_be vT_byl vT_tka vT_tkl vT_tkn vT_val fT_al r_21.2 fT_hd) H := hP
    have hD : va_D A (wd_X8_send cI cZ AT AT_al AT_kp AT_ik AT_rf AT_hd AT_bs AT_se AT_bf AT_te AT_by AT_an AT_vs vT_ab vT_be vT_byl vT_tka vT_tkl vT_tkn vT_val fT_al r_21.2 fT_hd) := hD
    have hm := Option.some.inj hm
    subst hm
    exact q_iret (v := r_21.1) hx hb hr hlocks hP hS dX8_send_24
  · have hm := it_n c_5 hm
    refine lv_iload_n hx hb dX8_send_8 rfl (lv_at hl 2 rfl) ?_
    refine lv_i2l (v := (Int32.toInt64 p2)) hx hb dX8_send_9 rfl ?_
    refine lv_lconst (v := 0) hx hb dX8_send_10 (by decide) ?_
    refine lv_lconst (v := 1) hx hb dX8_send_11 (by decide) ?_
    obtain ⟨r_12, hc_12, hm⟩ := ob_s hm
    refine q_ci (q_rs (rest := []) ⟨hx, hb, hml, hown, hts⟩ hK hN hP hD (c_X8_in l D cI cZ H.size (Int32.toInt64 p2) 0 1 r_12 hc_12) mb_X8_in wt_X8_in wl_X8_59 [] rfl rfl (Nat.le_of_ble_eq_true rfl) (Nat.le_of_ble_eq_true rfl) rfl hl.1 rfl (Nat.le_of_ble_eq_true rfl) ⟨Nat.le_refl 0, Nat.le_refl 0⟩ dX8_send_12) hP hD hS hA [] rfl rfl (fun H locs hP hD hS => ?_)
    have hP : va_P D vwCl (wd_X8_send cI cZ AT AT_al AT_kp AT_ik AT_rf AT_hd AT_bs AT_se AT_bf AT_te AT_by AT_an AT_vs vT_ab vT_be vT_byl vT_tka vT_tkl vT_tkn vT_val fT_al fT_rf fT_hd) H := hP
    have hD : va_D A (wd_X8_send cI cZ AT AT_al AT_kp AT_ik AT_rf AT_hd AT_bs AT_se AT_bf AT_te AT_by AT_an AT_vs vT_ab vT_be vT_byl vT_tka vT_tkl vT_tkn vT_val fT_al fT_rf fT_hd) := hD
    refine lv_if_ne (tgt := 25) hx hb dX8_send_15 (by decide) (fun c_15 => ?_) (fun c_15 => ?_)
    · have hm := it_n c_15 hm
      refine lv_iconst (v := (-1)) hx hb dX8_send_25 (by decide) ?_
      refine lv_istore_n (lv' := [(3, .int (-1)), (0, .ref AT), (1, .int p1), (2, .int p2)]) hx hb dX8_send_26 rfl hl (by decide) rfl (fun ls hl => ?_)
      refine lv_ldc (v := 1000000) hx hb hown (hts _ wv_X8_158) dX8_send_27 ?_
      refine lv_istore (lv' := [(4, .int 1000000), (3, .int (-1)), (0, .ref AT), (1, .int p1), (2, .int p2)]) hx hb dX8_send_29 hl (by decide) rfl (fun ls hl => ?_)
      refine lv_iconst (v := 0) hx hb dX8_send_31 (by decide) ?_
      refine lv_istore (lv' := [(5, .int 0), (4, .int 1000000), (3, .int (-1)), (0, .ref AT), (1, .int p1), (2, .int p2)]) hx hb dX8_send_32 hl (by decide) rfl (fun ls hl => ?_)
      exact hL_34 FU 0 1000000 (-1) fT_rf fT_hd H locs ls hm hP hD hS (lv_sub hl [0, 1, 2, 3, 4, 5] rfl)
    · have hm := it_s c_15 hm
      refine lv_aload_n hx hb dX8_send_18 rfl (lv_at hl 0 rfl) ?_
      refine lv_bipush (v := (-2)) hx hb dX8_send_19 (by decide) ?_
      obtain ⟨r_21, hc_21, hm⟩ := ob_s hm
      refine q_ci (q_rv (rest := []) ⟨hx, hb, hml, hown, hts⟩ hK hN hP hD (c_X8_bad l D cI cZ H.size AT AT_al AT_kp AT_ik AT_rf AT_hd AT_bs AT_se AT_bf AT_te AT_by AT_an AT_vs vT_ab vT_be vT_byl vT_tka vT_tkl vT_tkn vT_val fT_rf (-2) r_21 hc_21) mb_X8_bad mv_X8_bad wl_X8_75 [0, 2] rfl rfl rfl (Nat.le_of_ble_eq_true rfl) (Nat.le_of_ble_eq_true rfl) rfl hl.1 rfl (Nat.le_of_ble_eq_true rfl) ⟨Nat.le_refl 0, Nat.le_refl 0⟩ dX8_send_21) hP hD hS hA [0, 2] rfl rfl (fun H locs hP hD hS => ?_)
      have hP : va_P D vwCl (wd_X8_send cI cZ AT AT_al AT_kp AT_ik AT_rf AT_hd AT_bs AT_se AT_bf AT_te AT_by AT_an AT_vs vT_ab vT_be vT_byl vT_tka vT_tkl vT_tkn vT_val fT_al r_21.2 fT_hd) H := hP
      have hD : va_D A (wd_X8_send cI cZ AT AT_al AT_kp AT_ik AT_rf AT_hd AT_bs AT_se AT_bf AT_te AT_by AT_an AT_vs vT_ab vT_be vT_byl vT_tka vT_tkl vT_tkn vT_val fT_al r_21.2 fT_hd) := hD
      have hm := Option.some.inj hm
      subst hm
      exact q_iret (v := r_21.1) hx hb hr hlocks hP hS dX8_send_24
theorem mb_X8_rose : q_mb yX8_rose cX8_rose 5 (some .int) 3 := ⟨wc_X8_rose, wn_X8, by decide, by decide, by decide +kernel⟩
theorem mv_X8_rose : q_mv yX8_rose 8 := ⟨wi_X8_rose, ws_X8_rose, _, rfl, rfl⟩
def wd_X8_rose (cI cZ : ClassId) (AT AT_al AT_kp AT_ik AT_rf AT_hd AT_bs AT_se AT_bf AT_te AT_by AT_an AT_vs : Nat) (vT_ab : Int64) (vT_be : Int64) (vT_byl : Int32) (vT_tka : Int32) (vT_tkl : Int32) (vT_tkn : Int32) (vT_val : Int32) (fT_al : Nat → Int32) (fT_rf : Nat → Int32) : va_W := [(AT, .inr (8, [.ref AT_al, .ref AT_kp, .ref AT_ik, .ref AT_rf, .long vT_ab, .long vT_be, .ref AT_hd, .ref AT_bs, .ref AT_se, .ref AT_bf, .ref AT_te, .ref AT_by, .int vT_byl, .int vT_tka, .int vT_tkl, .int vT_tkn, .int vT_val, .ref AT_an, .ref AT_vs])), (AT_al, .inl (cI, 312, .inl fT_al)), (AT_rf, .inl (cI, 3, .inl fT_rf))]
def fm_X8_rose (p1 : Int32) (p2 : Int32) (p3 : Int32) (fT_al : Nat → Int32) (fT_rf : Nat → Int32) : Option (Int32 × (Nat → Int32) × (Nat → Int32)) := Option.bind (fm_X8_isSleeper p1 fT_al) (fun r_2 => if r_2 = 0 then (Option.bind (fm_X8_bad (-2) fT_rf) (fun r_35 => some (r_35.1, fT_al, r_35.2))) else (Option.bind (fm_X8_in (Int32.toInt64 p2) 0 99) (fun r_14 => if r_14 = 0 then (Option.bind (fm_X8_bad (-2) fT_rf) (fun r_35 => some (r_35.1, fT_al, r_35.2))) else (Option.bind (fm_X8_in (Int32.toInt64 p3) 0 200) (fun r_26 => if r_26 = 0 then (Option.bind (fm_X8_bad (-2) fT_rf) (fun r_35 => some (r_35.1, fT_al, r_35.2))) else (if (fT_al 2) = 5 then (Option.bind (fm_X8_full fT_rf) (fun r_50 => some (r_50.1, fT_al, r_50.2))) else (gd (49 + (3 * (fT_al 2))) 312 (gd ((49 + (3 * (fT_al 2))) + 1) 312 (gd ((49 + (3 * (fT_al 2))) + 2) 312 (some (((upd (upd (upd (upd fT_al (Int32.toNatClampNeg (49 + (3 * (fT_al 2)))) p1) (Int32.toNatClampNeg ((49 + (3 * (fT_al 2))) + 1)) p2) (Int32.toNatClampNeg ((49 + (3 * (fT_al 2))) + 2)) p3) 2 (((upd (upd (upd fT_al (Int32.toNatClampNeg (49 + (3 * (fT_al 2)))) p1) (Int32.toNatClampNeg ((49 + (3 * (fT_al 2))) + 1)) p2) (Int32.toNatClampNeg ((49 + (3 * (fT_al 2))) + 2)) p3) 2) + 1)) 2), (upd (upd (upd (upd fT_al (Int32.toNatClampNeg (49 + (3 * (fT_al 2)))) p1) (Int32.toNatClampNeg ((49 + (3 * (fT_al 2))) + 1)) p2) (Int32.toNatClampNeg ((49 + (3 * (fT_al 2))) + 2)) p3) 2 (((upd (upd (upd fT_al (Int32.toNatClampNeg (49 + (3 * (fT_al 2)))) p1) (Int32.toNatClampNeg ((49 + (3 * (fT_al 2))) + 1)) p2) (Int32.toNatClampNeg ((49 + (3 * (fT_al 2))) + 2)) p3) 2) + 1)), fT_rf)))))))))))
set_option maxHeartbeats 4000000 in
set_option maxRecDepth 100000 in
theorem c_X8_rose (l : Launch) (D : va_G) (cI cZ : ClassId) (sz : Nat) (AT AT_al AT_kp AT_ik AT_rf AT_hd AT_bs AT_se AT_bf AT_te AT_by AT_an AT_vs : Nat) (vT_ab : Int64) (vT_be : Int64) (vT_byl : Int32) (vT_tka : Int32) (vT_tkl : Int32) (vT_tkn : Int32) (vT_val : Int32) (fT_al : Nat → Int32) (fT_rf : Nat → Int32) (p1 : Int32) (p2 : Int32) (p3 : Int32) (out : (Int32 × (Nat → Int32) × (Nat → Int32))) (hm : fm_X8_rose p1 p2 p3 fT_al fT_rf = some out) : Met l yX8_rose (Cond.code yX8_rose cX8_rose 5 (some .int) :: bg) { frames := 2, cells := 0, slots := 0, locals := 46 } (va_Pc [.ref AT, .int p1, .int p2, .int p3] (q_pre D cI cZ sz (wd_X8_rose cI cZ AT AT_al AT_kp AT_ik AT_rf AT_hd AT_bs AT_se AT_bf AT_te AT_by AT_an AT_vs vT_ab vT_be vT_byl vT_tka vT_tkl vT_tkn vT_val fT_al fT_rf))) (q_Qi D (wd_X8_rose cI cZ AT AT_al AT_kp AT_ik AT_rf AT_hd AT_bs AT_se AT_bf AT_te AT_by AT_an AT_vs vT_ab vT_be vT_byl vT_tka vT_tkl vT_tkn vT_val out.2.1 out.2.2) out.1 (va_A (wd_X8_rose cI cZ AT AT_al AT_kp AT_ik AT_rf AT_hd AT_bs AT_se AT_bf AT_te AT_by AT_an AT_vs vT_ab vT_be vT_byl vT_tka vT_tkl vT_tkn vT_val fT_al fT_rf) sz)) 0 0 (va_A (wd_X8_rose cI cZ AT AT_al AT_kp AT_ik AT_rf AT_hd AT_bs AT_se AT_bf AT_te AT_by AT_an AT_vs vT_ab vT_be vT_byl vT_tka vT_tkl vT_tkn vT_val fT_al fT_rf) sz) := by
  refine q_met (fun A => q_Qi D (wd_X8_rose cI cZ AT AT_al AT_kp AT_ik AT_rf AT_hd AT_bs AT_se AT_bf AT_te AT_by AT_an AT_vs vT_ab vT_be vT_byl vT_tka vT_tkl vT_tkn vT_val out.2.1 out.2.2) out.1 A) (by decide) (Nat.le_of_ble_eq_true rfl) ?_
  intro p e s m below meth c ls A hx hb hr hml hown hts hlocks _ hA hS hP hD hK hN hl
  have hown : s.vm.findClass RX8 = some m.cls := hown
  have hl : lv_has ls 5 [(0, .ref AT), (1, .int p1), (2, .int p2), (3, .int p3)] := hl
  unfold fm_X8_rose at hm
  refine q_gen hS hP ?_
  intro H locs hP hS
  refine lv_aload_n hx hb dX8_rose_0 rfl (lv_at hl 0 rfl) ?_
  refine lv_iload_n hx hb dX8_rose_1 rfl (lv_at hl 1 rfl) ?_
  obtain ⟨r_2, hc_2, hm⟩ := ob_s hm
  refine q_ci (q_rv (rest := []) ⟨hx, hb, hml, hown, hts⟩ hK hN hP hD (c_X8_isSleeper l D cI cZ H.size AT AT_al AT_kp AT_ik AT_rf AT_hd AT_bs AT_se AT_bf AT_te AT_by AT_an AT_vs vT_ab vT_be vT_byl vT_tka vT_tkl vT_tkn vT_val fT_al p1 r_2 hc_2) mb_X8_isSleeper mv_X8_isSleeper wl_X8_132 [0, 1] rfl rfl rfl (Nat.le_of_ble_eq_true rfl) (Nat.le_of_ble_eq_true rfl) rfl hl.1 rfl (Nat.le_of_ble_eq_true rfl) ⟨Nat.le_refl 0, Nat.le_refl 0⟩ dX8_rose_2) hP hD hS hA [0, 1] rfl rfl (fun H locs hP hD hS => ?_)
  have hP : va_P D vwCl (wd_X8_rose cI cZ AT AT_al AT_kp AT_ik AT_rf AT_hd AT_bs AT_se AT_bf AT_te AT_by AT_an AT_vs vT_ab vT_be vT_byl vT_tka vT_tkl vT_tkn vT_val fT_al fT_rf) H := hP
  have hD : va_D A (wd_X8_rose cI cZ AT AT_al AT_kp AT_ik AT_rf AT_hd AT_bs AT_se AT_bf AT_te AT_by AT_an AT_vs vT_ab vT_be vT_byl vT_tka vT_tkl vT_tkn vT_val fT_al fT_rf) := hD
  refine lv_if_eq (tgt := 32) hx hb dX8_rose_5 (by decide) (fun c_5 => ?_) (fun c_5 => ?_)
  · have hm := it_s c_5 hm
    refine lv_aload_n hx hb dX8_rose_32 rfl (lv_at hl 0 rfl) ?_
    refine lv_bipush (v := (-2)) hx hb dX8_rose_33 (by decide) ?_
    obtain ⟨r_35, hc_35, hm⟩ := ob_s hm
    refine q_ci (q_rv (rest := []) ⟨hx, hb, hml, hown, hts⟩ hK hN hP hD (c_X8_bad l D cI cZ H.size AT AT_al AT_kp AT_ik AT_rf AT_hd AT_bs AT_se AT_bf AT_te AT_by AT_an AT_vs vT_ab vT_be vT_byl vT_tka vT_tkl vT_tkn vT_val fT_rf (-2) r_35 hc_35) mb_X8_bad mv_X8_bad wl_X8_75 [0, 2] rfl rfl rfl (Nat.le_of_ble_eq_true rfl) (Nat.le_of_ble_eq_true rfl) rfl hl.1 rfl (Nat.le_of_ble_eq_true rfl) ⟨Nat.le_refl 0, Nat.le_refl 0⟩ dX8_rose_35) hP hD hS hA [0, 2] rfl rfl (fun H locs hP hD hS => ?_)
    have hP : va_P D vwCl (wd_X8_rose cI cZ AT AT_al AT_kp AT_ik AT_rf AT_hd AT_bs AT_se AT_bf AT_te AT_by AT_an AT_vs vT_ab vT_be vT_byl vT_tka vT_tkl vT_tkn vT_val fT_al r_35.2) H := hP
    have hD : va_D A (wd_X8_rose cI cZ AT AT_al AT_kp AT_ik AT_rf AT_hd AT_bs AT_se AT_bf AT_te AT_by AT_an AT_vs vT_ab vT_be vT_byl vT_tka vT_tkl vT_tkn vT_val fT_al r_35.2) := hD
    have hm := Option.some.inj hm
    subst hm
    exact q_iret (v := r_35.1) hx hb hr hlocks hP hS dX8_rose_38
  · have hm := it_n c_5 hm
    refine lv_iload_n hx hb dX8_rose_8 rfl (lv_at hl 2 rfl) ?_
    refine lv_i2l (v := (Int32.toInt64 p2)) hx hb dX8_rose_9 rfl ?_
    refine lv_lconst (v := 0) hx hb dX8_rose_10 (by decide) ?_
    refine lv_ldc2 (v := 99) hx hb hown (hts _ wv_X8_159) dX8_rose_11 ?_
    obtain ⟨r_14, hc_14, hm⟩ := ob_s hm
    refine q_ci (q_rs (rest := []) ⟨hx, hb, hml, hown, hts⟩ hK hN hP hD (c_X8_in l D cI cZ H.size (Int32.toInt64 p2) 0 99 r_14 hc_14) mb_X8_in wt_X8_in wl_X8_59 [] rfl rfl (Nat.le_of_ble_eq_true rfl) (Nat.le_of_ble_eq_true rfl) rfl hl.1 rfl (Nat.le_of_ble_eq_true rfl) ⟨Nat.le_refl 0, Nat.le_refl 0⟩ dX8_rose_14) hP hD hS hA [] rfl rfl (fun H locs hP hD hS => ?_)
    have hP : va_P D vwCl (wd_X8_rose cI cZ AT AT_al AT_kp AT_ik AT_rf AT_hd AT_bs AT_se AT_bf AT_te AT_by AT_an AT_vs vT_ab vT_be vT_byl vT_tka vT_tkl vT_tkn vT_val fT_al fT_rf) H := hP
    have hD : va_D A (wd_X8_rose cI cZ AT AT_al AT_kp AT_ik AT_rf AT_hd AT_bs AT_se AT_bf AT_te AT_by AT_an AT_vs vT_ab vT_be vT_byl vT_tka vT_tkl vT_tkn vT_val fT_al fT_rf) := hD
    refine lv_if_eq (tgt := 32) hx hb dX8_rose_17 (by decide) (fun c_17 => ?_) (fun c_17 => ?_)
    · have hm := it_s c_17 hm
      refine lv_aload_n hx hb dX8_rose_32 rfl (lv_at hl 0 rfl) ?_
      refine lv_bipush (v := (-2)) hx hb dX8_rose_33 (by decide) ?_
      obtain ⟨r_35, hc_35, hm⟩ := ob_s hm
      refine q_ci (q_rv (rest := []) ⟨hx, hb, hml, hown, hts⟩ hK hN hP hD (c_X8_bad l D cI cZ H.size AT AT_al AT_kp AT_ik AT_rf AT_hd AT_bs AT_se AT_bf AT_te AT_by AT_an AT_vs vT_ab vT_be vT_byl vT_tka vT_tkl vT_tkn vT_val fT_rf (-2) r_35 hc_35) mb_X8_bad mv_X8_bad wl_X8_75 [0, 2] rfl rfl rfl (Nat.le_of_ble_eq_true rfl) (Nat.le_of_ble_eq_true rfl) rfl hl.1 rfl (Nat.le_of_ble_eq_true rfl) ⟨Nat.le_refl 0, Nat.le_refl 0⟩ dX8_rose_35) hP hD hS hA [0, 2] rfl rfl (fun H locs hP hD hS => ?_)
      have hP : va_P D vwCl (wd_X8_rose cI cZ AT AT_al AT_kp AT_ik AT_rf AT_hd AT_bs AT_se AT_bf AT_te AT_by AT_an AT_vs vT_ab vT_be vT_byl vT_tka vT_tkl vT_tkn vT_val fT_al r_35.2) H := hP
      have hD : va_D A (wd_X8_rose cI cZ AT AT_al AT_kp AT_ik AT_rf AT_hd AT_bs AT_se AT_bf AT_te AT_by AT_an AT_vs vT_ab vT_be vT_byl vT_tka vT_tkl vT_tkn vT_val fT_al r_35.2) := hD
      have hm := Option.some.inj hm
      subst hm
      exact q_iret (v := r_35.1) hx hb hr hlocks hP hS dX8_rose_38
    · have hm := it_n c_17 hm
      refine lv_iload_n hx hb dX8_rose_20 rfl (lv_at hl 3 rfl) ?_
      refine lv_i2l (v := (Int32.toInt64 p3)) hx hb dX8_rose_21 rfl ?_
      refine lv_lconst (v := 0) hx hb dX8_rose_22 (by decide) ?_
      refine lv_ldc2 (v := 200) hx hb hown (hts _ wv_X8_161) dX8_rose_23 ?_
      obtain ⟨r_26, hc_26, hm⟩ := ob_s hm
      refine q_ci (q_rs (rest := []) ⟨hx, hb, hml, hown, hts⟩ hK hN hP hD (c_X8_in l D cI cZ H.size (Int32.toInt64 p3) 0 200 r_26 hc_26) mb_X8_in wt_X8_in wl_X8_59 [] rfl rfl (Nat.le_of_ble_eq_true rfl) (Nat.le_of_ble_eq_true rfl) rfl hl.1 rfl (Nat.le_of_ble_eq_true rfl) ⟨Nat.le_refl 0, Nat.le_refl 0⟩ dX8_rose_26) hP hD hS hA [] rfl rfl (fun H locs hP hD hS => ?_)
      have hP : va_P D vwCl (wd_X8_rose cI cZ AT AT_al AT_kp AT_ik AT_rf AT_hd AT_bs AT_se AT_bf AT_te AT_by AT_an AT_vs vT_ab vT_be vT_byl vT_tka vT_tkl vT_tkn vT_val fT_al fT_rf) H := hP
      have hD : va_D A (wd_X8_rose cI cZ AT AT_al AT_kp AT_ik AT_rf AT_hd AT_bs AT_se AT_bf AT_te AT_by AT_an AT_vs vT_ab vT_be vT_byl vT_tka vT_tkl vT_tkn vT_val fT_al fT_rf) := hD
      refine lv_if_ne (tgt := 39) hx hb dX8_rose_29 (by decide) (fun c_29 => ?_) (fun c_29 => ?_)
      · have hm := it_n c_29 hm
        refine lv_aload_n hx hb dX8_rose_39 rfl (lv_at hl 0 rfl) ?_
        refine gf_X8_7 (v := .ref AT_al) hx hb hts hown hK hN hP 0 rfl rfl dX8_rose_40 ?_
        refine lv_iconst (v := 2) hx hb dX8_rose_43 (by decide) ?_
        refine q_iald (j := 2) hx hb hK hP 1 rfl (q_inl (by decide)) (by decide) dX8_rose_44 ?_
        refine lv_iconst (v := 5) hx hb dX8_rose_45 (by decide) ?_
        refine lv_icmp_ne (tgt := 54) hx hb dX8_rose_46 (by decide) (fun c_46 => ?_) (fun c_46 => ?_)
        · have hm := it_n c_46 hm
          refine lv_bipush (v := 49) hx hb dX8_rose_54 (by decide) ?_
          refine lv_iconst (v := 3) hx hb dX8_rose_56 (by decide) ?_
          refine lv_aload_n hx hb dX8_rose_57 rfl (lv_at hl 0 rfl) ?_
          refine gf_X8_7 (v := .ref AT_al) hx hb hts hown hK hN hP 0 rfl rfl dX8_rose_58 ?_
          refine lv_iconst (v := 2) hx hb dX8_rose_61 (by decide) ?_
          refine q_iald (j := 2) hx hb hK hP 1 rfl (q_inl (by decide)) (by decide) dX8_rose_62 ?_
          refine lv_imul hx hb dX8_rose_63 ?_
          refine lv_iadd hx hb dX8_rose_64 ?_
          refine lv_istore (lv' := [(4, .int (49 + (3 * (fT_al 2)))), (0, .ref AT), (1, .int p1), (2, .int p2), (3, .int p3)]) hx hb dX8_rose_65 hl (by decide) rfl (fun ls hl => ?_)
          refine lv_aload_n hx hb dX8_rose_67 rfl (lv_at hl 1 rfl) ?_
          refine gf_X8_7 (v := .ref AT_al) hx hb hts hown hK hN hP 0 rfl rfl dX8_rose_68 ?_
          refine lv_iload hx hb dX8_rose_71 (lv_at hl 0 rfl) ?_
          refine lv_iload_n hx hb dX8_rose_73 rfl (lv_at hl 2 rfl) ?_
          obtain ⟨hi_74, hm⟩ := gd_s hm
          refine q_iast (j := (Int32.toNatClampNeg (49 + (3 * (fT_al 2))))) hx hb hK hP hD hS 1 rfl hi_74 rfl dX8_rose_74 (fun H locs hP hD hS => ?_)
          have hP : va_P D vwCl (wd_X8_rose cI cZ AT AT_al AT_kp AT_ik AT_rf AT_hd AT_bs AT_se AT_bf AT_te AT_by AT_an AT_vs vT_ab vT_be vT_byl vT_tka vT_tkl vT_tkn vT_val (upd fT_al (Int32.toNatClampNeg (49 + (3 * (fT_al 2)))) p1) fT_rf) H := hP
          have hD : va_D A (wd_X8_rose cI cZ AT AT_al AT_kp AT_ik AT_rf AT_hd AT_bs AT_se AT_bf AT_te AT_by AT_an AT_vs vT_ab vT_be vT_byl vT_tka vT_tkl vT_tkn vT_val (upd fT_al (Int32.toNatClampNeg (49 + (3 * (fT_al 2)))) p1) fT_rf) := hD
          refine lv_aload_n hx hb dX8_rose_75 rfl (lv_at hl 1 rfl) ?_
          refine gf_X8_7 (v := .ref AT_al) hx hb hts hown hK hN hP 0 rfl rfl dX8_rose_76 ?_
          refine lv_iload hx hb dX8_rose_79 (lv_at hl 0 rfl) ?_
          refine lv_iconst (v := 1) hx hb dX8_rose_81 (by decide) ?_
          refine lv_iadd hx hb dX8_rose_82 ?_
          refine lv_iload_n hx hb dX8_rose_83 rfl (lv_at hl 3 rfl) ?_
          obtain ⟨hi_84, hm⟩ := gd_s hm
          refine q_iast (j := (Int32.toNatClampNeg ((49 + (3 * (fT_al 2))) + 1))) hx hb hK hP hD hS 1 rfl hi_84 rfl dX8_rose_84 (fun H locs hP hD hS => ?_)
          have hP : va_P D vwCl (wd_X8_rose cI cZ AT AT_al AT_kp AT_ik AT_rf AT_hd AT_bs AT_se AT_bf AT_te AT_by AT_an AT_vs vT_ab vT_be vT_byl vT_tka vT_tkl vT_tkn vT_val (upd (upd fT_al (Int32.toNatClampNeg (49 + (3 * (fT_al 2)))) p1) (Int32.toNatClampNeg ((49 + (3 * (fT_al 2))) + 1)) p2) fT_rf) H := hP
          have hD : va_D A (wd_X8_rose cI cZ AT AT_al AT_kp AT_ik AT_rf AT_hd AT_bs AT_se AT_bf AT_te AT_by AT_an AT_vs vT_ab vT_be vT_byl vT_tka vT_tkl vT_tkn vT_val (upd (upd fT_al (Int32.toNatClampNeg (49 + (3 * (fT_al 2)))) p1) (Int32.toNatClampNeg ((49 + (3 * (fT_al 2))) + 1)) p2) fT_rf) := hD
          refine lv_aload_n hx hb dX8_rose_85 rfl (lv_at hl 1 rfl) ?_
          refine gf_X8_7 (v := .ref AT_al) hx hb hts hown hK hN hP 0 rfl rfl dX8_rose_86 ?_
          refine lv_iload hx hb dX8_rose_89 (lv_at hl 0 rfl) ?_
          refine lv_iconst (v := 2) hx hb dX8_rose_91 (by decide) ?_
          refine lv_iadd hx hb dX8_rose_92 ?_
          refine lv_iload_n hx hb dX8_rose_93 rfl (lv_at hl 4 rfl) ?_
          obtain ⟨hi_94, hm⟩ := gd_s hm
          refine q_iast (j := (Int32.toNatClampNeg ((49 + (3 * (fT_al 2))) + 2))) hx hb hK hP hD hS 1 rfl hi_94 rfl dX8_rose_94 (fun H locs hP hD hS => ?_)
          have hP : va_P D vwCl (wd_X8_rose cI cZ AT AT_al AT_kp AT_ik AT_rf AT_hd AT_bs AT_se AT_bf AT_te AT_by AT_an AT_vs vT_ab vT_be vT_byl vT_tka vT_tkl vT_tkn vT_val (upd (upd (upd fT_al (Int32.toNatClampNeg (49 + (3 * (fT_al 2)))) p1) (Int32.toNatClampNeg ((49 + (3 * (fT_al 2))) + 1)) p2) (Int32.toNatClampNeg ((49 + (3 * (fT_al 2))) + 2)) p3) fT_rf) H := hP
          have hD : va_D A (wd_X8_rose cI cZ AT AT_al AT_kp AT_ik AT_rf AT_hd AT_bs AT_se AT_bf AT_te AT_by AT_an AT_vs vT_ab vT_be vT_byl vT_tka vT_tkl vT_tkn vT_val (upd (upd (upd fT_al (Int32.toNatClampNeg (49 + (3 * (fT_al 2)))) p1) (Int32.toNatClampNeg ((49 + (3 * (fT_al 2))) + 1)) p2) (Int32.toNatClampNeg ((49 + (3 * (fT_al 2))) + 2)) p3) fT_rf) := hD
          refine lv_aload_n hx hb dX8_rose_95 rfl (lv_at hl 1 rfl) ?_
          refine gf_X8_7 (v := .ref AT_al) hx hb hts hown hK hN hP 0 rfl rfl dX8_rose_96 ?_
          refine lv_iconst (v := 2) hx hb dX8_rose_99 (by decide) ?_
          refine lv_dup2_11 hx hb dX8_rose_100 rfl rfl ?_
          refine q_iald (j := 2) hx hb hK hP 1 rfl (q_inl (by decide)) (by decide) dX8_rose_101 ?_
          refine lv_iconst (v := 1) hx hb dX8_rose_102 (by decide) ?_
          refine lv_iadd hx hb dX8_rose_103 ?_
          refine q_iast (j := 2) hx hb hK hP hD hS 1 rfl (q_inl (by decide)) (by decide) dX8_rose_104 (fun H locs hP hD hS => ?_)
          have hP : va_P D vwCl (wd_X8_rose cI cZ AT AT_al AT_kp AT_ik AT_rf AT_hd AT_bs AT_se AT_bf AT_te AT_by AT_an AT_vs vT_ab vT_be vT_byl vT_tka vT_tkl vT_tkn vT_val (upd (upd (upd (upd fT_al (Int32.toNatClampNeg (49 + (3 * (fT_al 2)))) p1) (Int32.toNatClampNeg ((49 + (3 * (fT_al 2))) + 1)) p2) (Int32.toNatClampNeg ((49 + (3 * (fT_al 2))) + 2)) p3) 2 (((upd (upd (upd fT_al (Int32.toNatClampNeg (49 + (3 * (fT_al 2)))) p1) (Int32.toNatClampNeg ((49 + (3 * (fT_al 2))) + 1)) p2) (Int32.toNatClampNeg ((49 + (3 * (fT_al 2))) + 2)) p3) 2) + 1)) fT_rf) H := hP
          have hD : va_D A (wd_X8_rose cI cZ AT AT_al AT_kp AT_ik AT_rf AT_hd AT_bs AT_se AT_bf AT_te AT_by AT_an AT_vs vT_ab vT_be vT_byl vT_tka vT_tkl vT_tkn vT_val (upd (upd (upd (upd fT_al (Int32.toNatClampNeg (49 + (3 * (fT_al 2)))) p1) (Int32.toNatClampNeg ((49 + (3 * (fT_al 2))) + 1)) p2) (Int32.toNatClampNeg ((49 + (3 * (fT_al 2))) + 2)) p3) 2 (((upd (upd (upd fT_al (Int32.toNatClampNeg (49 + (3 * (fT_al 2)))) p1) (Int32.toNatClampNeg ((49 + (3 * (fT_al 2))) + 1)) p2) (Int32.toNatClampNeg ((49 + (3 * (fT_al 2))) + 2)) p3) 2) + 1)) fT_rf) := hD
          refine lv_aload_n hx hb dX8_rose_105 rfl (lv_at hl 1 rfl) ?_
          refine gf_X8_7 (v := .ref AT_al) hx hb hts hown hK hN hP 0 rfl rfl dX8_rose_106 ?_
          refine lv_iconst (v := 2) hx hb dX8_rose_109 (by decide) ?_
          refine q_iald (j := 2) hx hb hK hP 1 rfl (q_inl (by decide)) (by decide) dX8_rose_110 ?_
          have hm := Option.some.inj hm
          subst hm
          exact q_iret (v := ((upd (upd (upd (upd fT_al (Int32.toNatClampNeg (49 + (3 * (fT_al 2)))) p1) (Int32.toNatClampNeg ((49 + (3 * (fT_al 2))) + 1)) p2) (Int32.toNatClampNeg ((49 + (3 * (fT_al 2))) + 2)) p3) 2 (((upd (upd (upd fT_al (Int32.toNatClampNeg (49 + (3 * (fT_al 2)))) p1) (Int32.toNatClampNeg ((49 + (3 * (fT_al 2))) + 1)) p2) (Int32.toNatClampNeg ((49 + (3 * (fT_al 2))) + 2)) p3) 2) + 1)) 2)) hx hb hr hlocks hP hS dX8_rose_111
        · have hm := it_s c_46 hm
          refine lv_aload_n hx hb dX8_rose_49 rfl (lv_at hl 0 rfl) ?_
          obtain ⟨r_50, hc_50, hm⟩ := ob_s hm
          refine q_ci (q_rv (rest := []) ⟨hx, hb, hml, hown, hts⟩ hK hN hP hD (c_X8_full l D cI cZ H.size AT AT_al AT_kp AT_ik AT_rf AT_hd AT_bs AT_se AT_bf AT_te AT_by AT_an AT_vs vT_ab vT_be vT_byl vT_tka vT_tkl vT_tkn vT_val fT_rf r_50 hc_50) mb_X8_full mv_X8_full wl_X8_79 [0, 2] rfl rfl rfl (Nat.le_of_ble_eq_true rfl) (Nat.le_of_ble_eq_true rfl) rfl hl.1 rfl (Nat.le_of_ble_eq_true rfl) ⟨Nat.le_refl 0, Nat.le_refl 0⟩ dX8_rose_50) hP hD hS hA [0, 2] rfl rfl (fun H locs hP hD hS => ?_)
          have hP : va_P D vwCl (wd_X8_rose cI cZ AT AT_al AT_kp AT_ik AT_rf AT_hd AT_bs AT_se AT_bf AT_te AT_by AT_an AT_vs vT_ab vT_be vT_byl vT_tka vT_tkl vT_tkn vT_val fT_al r_50.2) H := hP
          have hD : va_D A (wd_X8_rose cI cZ AT AT_al AT_kp AT_ik AT_rf AT_hd AT_bs AT_se AT_bf AT_te AT_by AT_an AT_vs vT_ab vT_be vT_byl vT_tka vT_tkl vT_tkn vT_val fT_al r_50.2) := hD
          have hm := Option.some.inj hm
          subst hm
          exact q_iret (v := r_50.1) hx hb hr hlocks hP hS dX8_rose_53
      · have hm := it_s c_29 hm
        refine lv_aload_n hx hb dX8_rose_32 rfl (lv_at hl 0 rfl) ?_
        refine lv_bipush (v := (-2)) hx hb dX8_rose_33 (by decide) ?_
        obtain ⟨r_35, hc_35, hm⟩ := ob_s hm
        refine q_ci (q_rv (rest := []) ⟨hx, hb, hml, hown, hts⟩ hK hN hP hD (c_X8_bad l D cI cZ H.size AT AT_al AT_kp AT_ik AT_rf AT_hd AT_bs AT_se AT_bf AT_te AT_by AT_an AT_vs vT_ab vT_be vT_byl vT_tka vT_tkl vT_tkn vT_val fT_rf (-2) r_35 hc_35) mb_X8_bad mv_X8_bad wl_X8_75 [0, 2] rfl rfl rfl (Nat.le_of_ble_eq_true rfl) (Nat.le_of_ble_eq_true rfl) rfl hl.1 rfl (Nat.le_of_ble_eq_true rfl) ⟨Nat.le_refl 0, Nat.le_refl 0⟩ dX8_rose_35) hP hD hS hA [0, 2] rfl rfl (fun H locs hP hD hS => ?_)
        have hP : va_P D vwCl (wd_X8_rose cI cZ AT AT_al AT_kp AT_ik AT_rf AT_hd AT_bs AT_se AT_bf AT_te AT_by AT_an AT_vs vT_ab vT_be vT_byl vT_tka vT_tkl vT_tkn vT_val fT_al r_35.2) H := hP
        have hD : va_D A (wd_X8_rose cI cZ AT AT_al AT_kp AT_ik AT_rf AT_hd AT_bs AT_se AT_bf AT_te AT_by AT_an AT_vs vT_ab vT_be vT_byl vT_tka vT_tkl vT_tkn vT_val fT_al r_35.2) := hD
        have hm := Option.some.inj hm
        subst hm
        exact q_iret (v := r_35.1) hx hb hr hlocks hP hS dX8_rose_38
theorem mb_X8_believedOf : q_mb yX8_believedOf cX8_believedOf 6 (some .int) 3 := ⟨wc_X8_believedOf, wn_X8, by decide, by decide, by decide +kernel⟩
theorem mv_X8_believedOf : q_mv yX8_believedOf 8 := ⟨wi_X8_believedOf, ws_X8_believedOf, _, rfl, rfl⟩
def wd_X8_believedOf (cI cZ : ClassId) (AT AT_al AT_kp AT_ik AT_rf AT_hd AT_bs AT_se AT_bf AT_te AT_by AT_an AT_vs : Nat) (vT_ab : Int64) (vT_be : Int64) (vT_byl : Int32) (vT_tka : Int32) (vT_tkl : Int32) (vT_tkn : Int32) (vT_val : Int32) (fT_al : Nat → Int32) : va_W := [(AT, .inr (8, [.ref AT_al, .ref AT_kp, .ref AT_ik, .ref AT_rf, .long vT_ab, .long vT_be, .ref AT_hd, .ref AT_bs, .ref AT_se, .ref AT_bf, .ref AT_te, .ref AT_by, .int vT_byl, .int vT_tka, .int vT_tkl, .int vT_tkn, .int vT_val, .ref AT_an, .ref AT_vs])), (AT_al, .inl (cI, 312, .inl fT_al))]
def fL_X8_believedOf_6 (p1 : Int32) (p2 : Int32) (p3 : Int32) (fT_al : Nat → Int32) : Nat → Int32 → Int32 → Option (Int32)
  | 0, _, _ => none
  | fu + 1, x5, x4 => if (fT_al 1) ≤ x5 then (some (x4)) else (Option.bind (fm_X8_has p2 x5) (fun r_22 => if r_22 = 0 then (fL_X8_believedOf_6 p1 p2 p3 fT_al fu (x5 + 1) (x4 + 0)) else (gd (31 + p1) 312 (gd (37 + x5) 312 (gd (43 + x5) 312 (Option.bind (fm_X8_tellsAs (fT_al (Int32.toNatClampNeg (37 + x5))) (fT_al (Int32.toNatClampNeg (43 + x5))) p3) (fun r_58 => gd (12 + p1) 312 (Option.bind (fm_X8_believesAs (fT_al (Int32.toNatClampNeg (31 + p1))) r_58 (fT_al (Int32.toNatClampNeg (12 + p1)))) (fun r_70 => fL_X8_believedOf_6 p1 p2 p3 fT_al fu (x5 + 1) (x4 + r_70))))))))))
def fm_X8_believedOf (p1 : Int32) (p2 : Int32) (p3 : Int32) (fT_al : Nat → Int32) : Option (Int32) := fL_X8_believedOf_6 p1 p2 p3 fT_al FU 0 0
set_option maxHeartbeats 4000000 in
set_option maxRecDepth 100000 in
theorem c_X8_believedOf (l : Launch) (D : va_G) (cI cZ : ClassId) (sz : Nat) (AT AT_al AT_kp AT_ik AT_rf AT_hd AT_bs AT_se AT_bf AT_te AT_by AT_an AT_vs : Nat) (vT_ab : Int64) (vT_be : Int64) (vT_byl : Int32) (vT_tka : Int32) (vT_tkl : Int32) (vT_tkn : Int32) (vT_val : Int32) (fT_al : Nat → Int32) (p1 : Int32) (p2 : Int32) (p3 : Int32) (out : (Int32)) (hm : fm_X8_believedOf p1 p2 p3 fT_al = some out) : Met l yX8_believedOf (Cond.code yX8_believedOf cX8_believedOf 6 (some .int) :: bg) { frames := 1, cells := 0, slots := 0, locals := 24 } (va_Pc [.ref AT, .int p1, .int p2, .int p3] (q_pre D cI cZ sz (wd_X8_believedOf cI cZ AT AT_al AT_kp AT_ik AT_rf AT_hd AT_bs AT_se AT_bf AT_te AT_by AT_an AT_vs vT_ab vT_be vT_byl vT_tka vT_tkl vT_tkn vT_val fT_al))) (q_Qi D (wd_X8_believedOf cI cZ AT AT_al AT_kp AT_ik AT_rf AT_hd AT_bs AT_se AT_bf AT_te AT_by AT_an AT_vs vT_ab vT_be vT_byl vT_tka vT_tkl vT_tkn vT_val fT_al) out (va_A (wd_X8_believedOf cI cZ AT AT_al AT_kp AT_ik AT_rf AT_hd AT_bs AT_se AT_bf AT_te AT_by AT_an AT_vs vT_ab vT_be vT_byl vT_tka vT_tkl vT_tkn vT_val fT_al) sz)) 0 0 (va_A (wd_X8_believedOf cI cZ AT AT_al AT_kp AT_ik AT_rf AT_hd AT_bs AT_se AT_bf AT_te AT_by AT_an AT_vs vT_ab vT_be vT_byl vT_tka vT_tkl vT_tkn vT_val fT_al) sz) := by
  refine q_met (fun A => q_Qi D (wd_X8_believedOf cI cZ AT AT_al AT_kp AT_ik AT_rf AT_hd AT_bs AT_se AT_bf AT_te AT_by AT_an AT_vs vT_ab vT_be vT_byl vT_tka vT_tkl vT_tkn vT_val fT_al) out A) (by decide) (Nat.le_of_ble_eq_true rfl) ?_
  intro p e s m below meth c ls A hx hb hr hml hown hts hlocks _ hA hS hP hD hK hN hl
  have hown : s.vm.findClass RX8 = some m.cls := hown
  have hl : lv_has ls 6 [(0, .ref AT), (1, .int p1), (2, .int p2), (3, .int p3)] := hl
  have hL_6 : ∀ (fu_6 : Nat) (x5 : Int32) (x4 : Int32) (H : Heap) (locs : List Loc) (ls : Array Slot), fL_X8_believedOf_6 p1 p2 p3 fT_al fu_6 x5 x4 = some out → va_P D vwCl (wd_X8_believedOf cI cZ AT AT_al AT_kp AT_ik AT_rf AT_hd AT_bs AT_se AT_bf AT_te AT_by AT_an AT_vs vT_ab vT_be vT_byl vT_tka vT_tkl vT_tkn vT_val fT_al) H → va_D A (wd_X8_believedOf cI cZ AT AT_al AT_kp AT_ik AT_rf AT_hd AT_bs AT_se AT_bf AT_te AT_by AT_an AT_vs vT_ab vT_be vT_byl vT_tka vT_tkl vT_tkn vT_val fT_al) → va_S A s.heap H locs → lv_has ls 6 [(5, .int x5), (4, .int x4), (0, .ref AT), (1, .int p1), (2, .int p2), (3, .int p3)] → W p l e { frames := 1, cells := 0, slots := 0, locals := 24 } s m ([.ref AT, .int p1, .int p2, .int p3] : List Value).toArray below meth c H locs 0 0 (MQ below (q_Qi D (wd_X8_believedOf cI cZ AT AT_al AT_kp AT_ik AT_rf AT_hd AT_bs AT_se AT_bf AT_te AT_by AT_an AT_vs vT_ab vT_be vT_byl vT_tka vT_tkl vT_tkn vT_val fT_al) out A) ([.ref AT, .int p1, .int p2, .int p3] : List Value).toArray s 0 0 A) (F0 m 6 ls []) := by
    intro fu_6
    induction fu_6 with
    | zero => intro x5 x4 H locs ls hm hP hD hS hl; exact absurd (show (none : Option (Int32)) = some out from hm) (fun h => nomatch h)
    | succ fu_6 ih_6 =>
      intro x5 x4 H locs ls hm hP hD hS hl
      rw [fL_X8_believedOf_6] at hm
      refine lv_iload hx hb dX8_believedOf_6 (lv_at hl 0 rfl) ?_
      refine lv_aload_n hx hb dX8_believedOf_8 rfl (lv_at hl 2 rfl) ?_
      refine gf_X8_7 (v := .ref AT_al) hx hb hts hown hK hN hP 0 rfl rfl dX8_believedOf_9 ?_
      refine lv_iconst (v := 1) hx hb dX8_believedOf_12 (by decide) ?_
      refine q_iald (j := 1) hx hb hK hP 1 rfl (q_inl (by decide)) (by decide) dX8_believedOf_13 ?_
      refine lv_icmp_ge (tgt := 86) hx hb dX8_believedOf_14 (by decide) (fun c_14 => ?_) (fun c_14 => ?_)
      · have hm := it_s c_14 hm
        refine lv_iload hx hb dX8_believedOf_86 (lv_at hl 1 rfl) ?_
        have hm := Option.some.inj hm
        subst hm
        exact q_iret (v := x4) hx hb hr hlocks hP hS dX8_believedOf_88
      · have hm := it_n c_14 hm
        refine lv_iload hx hb dX8_believedOf_17 (lv_at hl 1 rfl) ?_
        refine lv_iload_n hx hb dX8_believedOf_19 rfl (lv_at hl 4 rfl) ?_
        refine lv_iload hx hb dX8_believedOf_20 (lv_at hl 0 rfl) ?_
        obtain ⟨r_22, hc_22, hm⟩ := ob_s hm
        refine q_ci (q_rs (rest := [.int x4]) ⟨hx, hb, hml, hown, hts⟩ hK hN hP hD (c_X8_has l D cI cZ H.size p2 x5 r_22 hc_22) mb_X8_has wt_X8_has wl_X8_151 [] rfl rfl (Nat.le_of_ble_eq_true rfl) (Nat.le_of_ble_eq_true rfl) rfl hl.1 rfl (Nat.le_of_ble_eq_true rfl) ⟨Nat.le_refl 0, Nat.le_refl 0⟩ dX8_believedOf_22) hP hD hS hA [] rfl rfl (fun H locs hP hD hS => ?_)
        have hP : va_P D vwCl (wd_X8_believedOf cI cZ AT AT_al AT_kp AT_ik AT_rf AT_hd AT_bs AT_se AT_bf AT_te AT_by AT_an AT_vs vT_ab vT_be vT_byl vT_tka vT_tkl vT_tkn vT_val fT_al) H := hP
        have hD : va_D A (wd_X8_believedOf cI cZ AT AT_al AT_kp AT_ik AT_rf AT_hd AT_bs AT_se AT_bf AT_te AT_by AT_an AT_vs vT_ab vT_be vT_byl vT_tka vT_tkl vT_tkn vT_val fT_al) := hD
        refine lv_if_eq (tgt := 76) hx hb dX8_believedOf_25 (by decide) (fun c_25 => ?_) (fun c_25 => ?_)
        · have hm := it_s c_25 hm
          refine lv_iconst (v := 0) hx hb dX8_believedOf_76 (by decide) ?_
          refine lv_iadd hx hb dX8_believedOf_77 ?_
          refine lv_istore (lv' := [(4, .int (x4 + 0)), (5, .int x5), (0, .ref AT), (1, .int p1), (2, .int p2), (3, .int p3)]) hx hb dX8_believedOf_78 hl (by decide) rfl (fun ls hl => ?_)
          refine lv_iinc (v := (x5 + 1)) (lv' := [(5, .int (x5 + 1)), (4, .int (x4 + 0)), (0, .ref AT), (1, .int p1), (2, .int p2), (3, .int p3)]) hx hb dX8_believedOf_80 hl (k := 1) rfl rfl (by decide) rfl (fun ls hl => ?_)
          refine lv_goto (tgt := 6) hx hb dX8_believedOf_83 (by decide) ?_
          exact ih_6 (x5 + 1) (x4 + 0) H locs ls hm hP hD hS (lv_sub hl [0, 1, 2, 3, 4, 5] rfl)
        · have hm := it_n c_25 hm
          refine lv_aload_n hx hb dX8_believedOf_28 rfl (lv_at hl 2 rfl) ?_
          refine gf_X8_7 (v := .ref AT_al) hx hb hts hown hK hN hP 0 rfl rfl dX8_believedOf_29 ?_
          refine lv_bipush (v := 31) hx hb dX8_believedOf_32 (by decide) ?_
          refine lv_iload_n hx hb dX8_believedOf_34 rfl (lv_at hl 3 rfl) ?_
          refine lv_iadd hx hb dX8_believedOf_35 ?_
          obtain ⟨hi_36, hm⟩ := gd_s hm
          refine q_iald (j := (Int32.toNatClampNeg (31 + p1))) hx hb hK hP 1 rfl hi_36 rfl dX8_believedOf_36 ?_
          refine lv_aload_n hx hb dX8_believedOf_37 rfl (lv_at hl 2 rfl) ?_
          refine gf_X8_7 (v := .ref AT_al) hx hb hts hown hK hN hP 0 rfl rfl dX8_believedOf_38 ?_
          refine lv_bipush (v := 37) hx hb dX8_believedOf_41 (by decide) ?_
          refine lv_iload hx hb dX8_believedOf_43 (lv_at hl 0 rfl) ?_
          refine lv_iadd hx hb dX8_believedOf_45 ?_
          obtain ⟨hi_46, hm⟩ := gd_s hm
          refine q_iald (j := (Int32.toNatClampNeg (37 + x5))) hx hb hK hP 1 rfl hi_46 rfl dX8_believedOf_46 ?_
          refine lv_aload_n hx hb dX8_believedOf_47 rfl (lv_at hl 2 rfl) ?_
          refine gf_X8_7 (v := .ref AT_al) hx hb hts hown hK hN hP 0 rfl rfl dX8_believedOf_48 ?_
          refine lv_bipush (v := 43) hx hb dX8_believedOf_51 (by decide) ?_
          refine lv_iload hx hb dX8_believedOf_53 (lv_at hl 0 rfl) ?_
          refine lv_iadd hx hb dX8_believedOf_55 ?_
          obtain ⟨hi_56, hm⟩ := gd_s hm
          refine q_iald (j := (Int32.toNatClampNeg (43 + x5))) hx hb hK hP 1 rfl hi_56 rfl dX8_believedOf_56 ?_
          refine lv_iload_n hx hb dX8_believedOf_57 rfl (lv_at hl 5 rfl) ?_
          obtain ⟨r_58, hc_58, hm⟩ := ob_s hm
          refine q_ci (q_rs (rest := [.int (fT_al (Int32.toNatClampNeg (31 + p1))), .int x4]) ⟨hx, hb, hml, hown, hts⟩ hK hN hP hD (c_X8_tellsAs l D cI cZ H.size (fT_al (Int32.toNatClampNeg (37 + x5))) (fT_al (Int32.toNatClampNeg (43 + x5))) p3 r_58 hc_58) mb_X8_tellsAs wt_X8_tellsAs wl_X8_96 [] rfl rfl (Nat.le_of_ble_eq_true rfl) (Nat.le_of_ble_eq_true rfl) rfl hl.1 rfl (Nat.le_of_ble_eq_true rfl) ⟨Nat.le_refl 0, Nat.le_refl 0⟩ dX8_believedOf_58) hP hD hS hA [] rfl rfl (fun H locs hP hD hS => ?_)
          have hP : va_P D vwCl (wd_X8_believedOf cI cZ AT AT_al AT_kp AT_ik AT_rf AT_hd AT_bs AT_se AT_bf AT_te AT_by AT_an AT_vs vT_ab vT_be vT_byl vT_tka vT_tkl vT_tkn vT_val fT_al) H := hP
          have hD : va_D A (wd_X8_believedOf cI cZ AT AT_al AT_kp AT_ik AT_rf AT_hd AT_bs AT_se AT_bf AT_te AT_by AT_an AT_vs vT_ab vT_be vT_byl vT_tka vT_tkl vT_tkn vT_val fT_al) := hD
          refine lv_aload_n hx hb dX8_believedOf_61 rfl (lv_at hl 2 rfl) ?_
          refine gf_X8_7 (v := .ref AT_al) hx hb hts hown hK hN hP 0 rfl rfl dX8_believedOf_62 ?_
          refine lv_bipush (v := 12) hx hb dX8_believedOf_65 (by decide) ?_
          refine lv_iload_n hx hb dX8_believedOf_67 rfl (lv_at hl 3 rfl) ?_
          refine lv_iadd hx hb dX8_believedOf_68 ?_
          obtain ⟨hi_69, hm⟩ := gd_s hm
          refine q_iald (j := (Int32.toNatClampNeg (12 + p1))) hx hb hK hP 1 rfl hi_69 rfl dX8_believedOf_69 ?_
          obtain ⟨r_70, hc_70, hm⟩ := ob_s hm
          refine q_ci (q_rs (rest := [.int x4]) ⟨hx, hb, hml, hown, hts⟩ hK hN hP hD (c_X8_believesAs l D cI cZ H.size (fT_al (Int32.toNatClampNeg (31 + p1))) r_58 (fT_al (Int32.toNatClampNeg (12 + p1))) r_70 hc_70) mb_X8_believesAs wt_X8_believesAs wl_X8_100 [] rfl rfl (Nat.le_of_ble_eq_true rfl) (Nat.le_of_ble_eq_true rfl) rfl hl.1 rfl (Nat.le_of_ble_eq_true rfl) ⟨Nat.le_refl 0, Nat.le_refl 0⟩ dX8_believedOf_70) hP hD hS hA [] rfl rfl (fun H locs hP hD hS => ?_)
          have hP : va_P D vwCl (wd_X8_believedOf cI cZ AT AT_al AT_kp AT_ik AT_rf AT_hd AT_bs AT_se AT_bf AT_te AT_by AT_an AT_vs vT_ab vT_be vT_byl vT_tka vT_tkl vT_tkn vT_val fT_al) H := hP
          have hD : va_D A (wd_X8_believedOf cI cZ AT AT_al AT_kp AT_ik AT_rf AT_hd AT_bs AT_se AT_bf AT_te AT_by AT_an AT_vs vT_ab vT_be vT_byl vT_tka vT_tkl vT_tkn vT_val fT_al) := hD
          refine lv_goto (tgt := 77) hx hb dX8_believedOf_73 (by decide) ?_
          refine lv_iadd hx hb dX8_believedOf_77 ?_
          refine lv_istore (lv' := [(4, .int (x4 + r_70)), (5, .int x5), (0, .ref AT), (1, .int p1), (2, .int p2), (3, .int p3)]) hx hb dX8_believedOf_78 hl (by decide) rfl (fun ls hl => ?_)
          refine lv_iinc (v := (x5 + 1)) (lv' := [(5, .int (x5 + 1)), (4, .int (x4 + r_70)), (0, .ref AT), (1, .int p1), (2, .int p2), (3, .int p3)]) hx hb dX8_believedOf_80 hl (k := 1) rfl rfl (by decide) rfl (fun ls hl => ?_)
          refine lv_goto (tgt := 6) hx hb dX8_believedOf_83 (by decide) ?_
          exact ih_6 (x5 + 1) (x4 + r_70) H locs ls hm hP hD hS (lv_sub hl [0, 1, 2, 3, 4, 5] rfl)
  unfold fm_X8_believedOf at hm
  refine q_gen hS hP ?_
  intro H locs hP hS
  refine lv_iconst (v := 0) hx hb dX8_believedOf_0 (by decide) ?_
  refine lv_istore (lv' := [(4, .int 0), (0, .ref AT), (1, .int p1), (2, .int p2), (3, .int p3)]) hx hb dX8_believedOf_1 hl (by decide) rfl (fun ls hl => ?_)
  refine lv_iconst (v := 0) hx hb dX8_believedOf_3 (by decide) ?_
  refine lv_istore (lv' := [(5, .int 0), (4, .int 0), (0, .ref AT), (1, .int p1), (2, .int p2), (3, .int p3)]) hx hb dX8_believedOf_4 hl (by decide) rfl (fun ls hl => ?_)
  exact hL_6 FU 0 0 H locs ls hm hP hD hS (lv_sub hl [0, 1, 2, 3, 4, 5] rfl)
theorem mb_X8_isSentSo : q_mb yX8_isSentSo cX8_isSentSo 6 (some .boolean) 2 := ⟨wc_X8_isSentSo, wn_X8, by decide, by decide, by decide +kernel⟩
theorem mv_X8_isSentSo : q_mv yX8_isSentSo 8 := ⟨wi_X8_isSentSo, ws_X8_isSentSo, _, rfl, rfl⟩
def wd_X8_isSentSo (cI cZ : ClassId) (AT AT_al AT_kp AT_ik AT_rf AT_hd AT_bs AT_se AT_bf AT_te AT_by AT_an AT_vs : Nat) (vT_ab : Int64) (vT_be : Int64) (vT_byl : Int32) (vT_tka : Int32) (vT_tkl : Int32) (vT_tkn : Int32) (vT_val : Int32) (fT_al : Nat → Int32) : va_W := [(AT, .inr (8, [.ref AT_al, .ref AT_kp, .ref AT_ik, .ref AT_rf, .long vT_ab, .long vT_be, .ref AT_hd, .ref AT_bs, .ref AT_se, .ref AT_bf, .ref AT_te, .ref AT_by, .int vT_byl, .int vT_tka, .int vT_tkl, .int vT_tkn, .int vT_val, .ref AT_an, .ref AT_vs])), (AT_al, .inl (cI, 312, .inl fT_al))]
def fL_X8_isSentSo_5 (p1 : Int32) (p2 : Int32) (fT_al : Nat → Int32) : Nat → Int32 → Int32 → Option (Int32)
  | 0, _, _ => none
  | fu + 1, x4, x3 => if (fT_al 2) ≤ x4 then (bz x3 (some (x3))) else (if x3 = 0 then (fL_X8_isSentSo_5 p1 p2 fT_al fu (x4 + 1) 0) else (gd (49 + (3 * x4)) 312 (if (fT_al (Int32.toNatClampNeg (49 + (3 * x4)))) = p1 then (gd ((49 + (3 * x4)) + 1) 312 (Option.bind (fm_X8_believedOf p1 p2 (fT_al (Int32.toNatClampNeg ((49 + (3 * x4)) + 1))) fT_al) (fun r_52 => gd ((49 + (3 * x4)) + 2) 312 (if r_52 = (fT_al (Int32.toNatClampNeg ((49 + (3 * x4)) + 2))) then (fL_X8_isSentSo_5 p1 p2 fT_al fu (x4 + 1) 1) else (fL_X8_isSentSo_5 p1 p2 fT_al fu (x4 + 1) 0))))) else (fL_X8_isSentSo_5 p1 p2 fT_al fu (x4 + 1) 1))))
def fm_X8_isSentSo (p1 : Int32) (p2 : Int32) (fT_al : Nat → Int32) : Option (Int32) := fL_X8_isSentSo_5 p1 p2 fT_al FU 0 1
set_option maxHeartbeats 4000000 in
set_option maxRecDepth 100000 in
theorem c_X8_isSentSo (l : Launch) (D : va_G) (cI cZ : ClassId) (sz : Nat) (AT AT_al AT_kp AT_ik AT_rf AT_hd AT_bs AT_se AT_bf AT_te AT_by AT_an AT_vs : Nat) (vT_ab : Int64) (vT_be : Int64) (vT_byl : Int32) (vT_tka : Int32) (vT_tkl : Int32) (vT_tkn : Int32) (vT_val : Int32) (fT_al : Nat → Int32) (p1 : Int32) (p2 : Int32) (out : (Int32)) (hm : fm_X8_isSentSo p1 p2 fT_al = some out) : Met l yX8_isSentSo (Cond.code yX8_isSentSo cX8_isSentSo 6 (some .boolean) :: bg) { frames := 2, cells := 0, slots := 0, locals := 49 } (va_Pc [.ref AT, .int p1, .int p2] (q_pre D cI cZ sz (wd_X8_isSentSo cI cZ AT AT_al AT_kp AT_ik AT_rf AT_hd AT_bs AT_se AT_bf AT_te AT_by AT_an AT_vs vT_ab vT_be vT_byl vT_tka vT_tkl vT_tkn vT_val fT_al))) (q_Qi D (wd_X8_isSentSo cI cZ AT AT_al AT_kp AT_ik AT_rf AT_hd AT_bs AT_se AT_bf AT_te AT_by AT_an AT_vs vT_ab vT_be vT_byl vT_tka vT_tkl vT_tkn vT_val fT_al) out (va_A (wd_X8_isSentSo cI cZ AT AT_al AT_kp AT_ik AT_rf AT_hd AT_bs AT_se AT_bf AT_te AT_by AT_an AT_vs vT_ab vT_be vT_byl vT_tka vT_tkl vT_tkn vT_val fT_al) sz)) 0 0 (va_A (wd_X8_isSentSo cI cZ AT AT_al AT_kp AT_ik AT_rf AT_hd AT_bs AT_se AT_bf AT_te AT_by AT_an AT_vs vT_ab vT_be vT_byl vT_tka vT_tkl vT_tkn vT_val fT_al) sz) := by
  refine q_met (fun A => q_Qi D (wd_X8_isSentSo cI cZ AT AT_al AT_kp AT_ik AT_rf AT_hd AT_bs AT_se AT_bf AT_te AT_by AT_an AT_vs vT_ab vT_be vT_byl vT_tka vT_tkl vT_tkn vT_val fT_al) out A) (by decide) (Nat.le_of_ble_eq_true rfl) ?_
  intro p e s m below meth c ls A hx hb hr hml hown hts hlocks _ hA hS hP hD hK hN hl
  have hown : s.vm.findClass RX8 = some m.cls := hown
  have hl : lv_has ls 6 [(0, .ref AT), (1, .int p1), (2, .int p2)] := hl
  have hL_5 : ∀ (fu_5 : Nat) (x4 : Int32) (x3 : Int32) (H : Heap) (locs : List Loc) (ls : Array Slot), fL_X8_isSentSo_5 p1 p2 fT_al fu_5 x4 x3 = some out → va_P D vwCl (wd_X8_isSentSo cI cZ AT AT_al AT_kp AT_ik AT_rf AT_hd AT_bs AT_se AT_bf AT_te AT_by AT_an AT_vs vT_ab vT_be vT_byl vT_tka vT_tkl vT_tkn vT_val fT_al) H → va_D A (wd_X8_isSentSo cI cZ AT AT_al AT_kp AT_ik AT_rf AT_hd AT_bs AT_se AT_bf AT_te AT_by AT_an AT_vs vT_ab vT_be vT_byl vT_tka vT_tkl vT_tkn vT_val fT_al) → va_S A s.heap H locs → lv_has ls 6 [(4, .int x4), (3, .int x3), (0, .ref AT), (1, .int p1), (2, .int p2)] → W p l e { frames := 2, cells := 0, slots := 0, locals := 49 } s m ([.ref AT, .int p1, .int p2] : List Value).toArray below meth c H locs 0 0 (MQ below (q_Qi D (wd_X8_isSentSo cI cZ AT AT_al AT_kp AT_ik AT_rf AT_hd AT_bs AT_se AT_bf AT_te AT_by AT_an AT_vs vT_ab vT_be vT_byl vT_tka vT_tkl vT_tkn vT_val fT_al) out A) ([.ref AT, .int p1, .int p2] : List Value).toArray s 0 0 A) (F0 m 5 ls []) := by
    intro fu_5
    induction fu_5 with
    | zero => intro x4 x3 H locs ls hm hP hD hS hl; exact absurd (show (none : Option (Int32)) = some out from hm) (fun h => nomatch h)
    | succ fu_5 ih_5 =>
      intro x4 x3 H locs ls hm hP hD hS hl
      rw [fL_X8_isSentSo_5] at hm
      refine lv_iload hx hb dX8_isSentSo_5 (lv_at hl 0 rfl) ?_
      refine lv_aload_n hx hb dX8_isSentSo_7 rfl (lv_at hl 2 rfl) ?_
      refine gf_X8_7 (v := .ref AT_al) hx hb hts hown hK hN hP 0 rfl rfl dX8_isSentSo_8 ?_
      refine lv_iconst (v := 2) hx hb dX8_isSentSo_11 (by decide) ?_
      refine q_iald (j := 2) hx hb hK hP 1 rfl (q_inl (by decide)) (by decide) dX8_isSentSo_12 ?_
      refine lv_icmp_ge (tgt := 79) hx hb dX8_isSentSo_13 (by decide) (fun c_13 => ?_) (fun c_13 => ?_)
      · have hm := it_s c_13 hm
        refine lv_iload_n hx hb dX8_isSentSo_79 rfl (lv_at hl 1 rfl) ?_
        obtain ⟨hz, hm⟩ := bz_s hm
        have hm := Option.some.inj hm
        subst hm
        exact q_zret (v := x3) hx hb hr hlocks hz hP hS dX8_isSentSo_80
      · have hm := it_n c_13 hm
        refine lv_bipush (v := 49) hx hb dX8_isSentSo_16 (by decide) ?_
        refine lv_iconst (v := 3) hx hb dX8_isSentSo_18 (by decide) ?_
        refine lv_iload hx hb dX8_isSentSo_19 (lv_at hl 0 rfl) ?_
        refine lv_imul hx hb dX8_isSentSo_21 ?_
        refine lv_iadd hx hb dX8_isSentSo_22 ?_
        refine lv_istore (lv' := [(5, .int (49 + (3 * x4))), (4, .int x4), (3, .int x3), (0, .ref AT), (1, .int p1), (2, .int p2)]) hx hb dX8_isSentSo_23 hl (by decide) rfl (fun ls hl => ?_)
        refine lv_iload_n hx hb dX8_isSentSo_25 rfl (lv_at hl 2 rfl) ?_
        refine lv_if_eq (tgt := 71) hx hb dX8_isSentSo_26 (by decide) (fun c_26 => ?_) (fun c_26 => ?_)
        · have hm := it_s c_26 hm
          refine lv_iconst (v := 0) hx hb dX8_isSentSo_71 (by decide) ?_
          refine lv_istore_n (lv' := [(3, .int 0), (5, .int (49 + (3 * x4))), (4, .int x4), (0, .ref AT), (1, .int p1), (2, .int p2)]) hx hb dX8_isSentSo_72 rfl hl (by decide) rfl (fun ls hl => ?_)
          refine lv_iinc (v := (x4 + 1)) (lv' := [(4, .int (x4 + 1)), (3, .int 0), (5, .int (49 + (3 * x4))), (0, .ref AT), (1, .int p1), (2, .int p2)]) hx hb dX8_isSentSo_73 hl (k := 2) rfl rfl (by decide) rfl (fun ls hl => ?_)
          refine lv_goto (tgt := 5) hx hb dX8_isSentSo_76 (by decide) ?_
          exact ih_5 (x4 + 1) 0 H locs ls hm hP hD hS (lv_sub hl [0, 1, 3, 4, 5] rfl)
        · have hm := it_n c_26 hm
          refine lv_aload_n hx hb dX8_isSentSo_29 rfl (lv_at hl 3 rfl) ?_
          refine gf_X8_7 (v := .ref AT_al) hx hb hts hown hK hN hP 0 rfl rfl dX8_isSentSo_30 ?_
          refine lv_iload hx hb dX8_isSentSo_33 (lv_at hl 0 rfl) ?_
          obtain ⟨hi_35, hm⟩ := gd_s hm
          refine q_iald (j := (Int32.toNatClampNeg (49 + (3 * x4)))) hx hb hK hP 1 rfl hi_35 rfl dX8_isSentSo_35 ?_
          refine lv_iload_n hx hb dX8_isSentSo_36 rfl (lv_at hl 4 rfl) ?_
          refine lv_icmp_ne (tgt := 67) hx hb dX8_isSentSo_37 (by decide) (fun c_37 => ?_) (fun c_37 => ?_)
          · have hm := it_n c_37 hm
            refine lv_iconst (v := 1) hx hb dX8_isSentSo_67 (by decide) ?_
            refine lv_goto (tgt := 72) hx hb dX8_isSentSo_68 (by decide) ?_
            refine lv_istore_n (lv' := [(3, .int 1), (5, .int (49 + (3 * x4))), (4, .int x4), (0, .ref AT), (1, .int p1), (2, .int p2)]) hx hb dX8_isSentSo_72 rfl hl (by decide) rfl (fun ls hl => ?_)
            refine lv_iinc (v := (x4 + 1)) (lv' := [(4, .int (x4 + 1)), (3, .int 1), (5, .int (49 + (3 * x4))), (0, .ref AT), (1, .int p1), (2, .int p2)]) hx hb dX8_isSentSo_73 hl (k := 2) rfl rfl (by decide) rfl (fun ls hl => ?_)
            refine lv_goto (tgt := 5) hx hb dX8_isSentSo_76 (by decide) ?_
            exact ih_5 (x4 + 1) 1 H locs ls hm hP hD hS (lv_sub hl [0, 1, 3, 4, 5] rfl)
          · have hm := it_s c_37 hm
            refine lv_aload_n hx hb dX8_isSentSo_40 rfl (lv_at hl 3 rfl) ?_
            refine lv_iload_n hx hb dX8_isSentSo_41 rfl (lv_at hl 4 rfl) ?_
            refine lv_iload_n hx hb dX8_isSentSo_42 rfl (lv_at hl 5 rfl) ?_
            refine lv_aload_n hx hb dX8_isSentSo_43 rfl (lv_at hl 3 rfl) ?_
            refine gf_X8_7 (v := .ref AT_al) hx hb hts hown hK hN hP 0 rfl rfl dX8_isSentSo_44 ?_
            refine lv_iload hx hb dX8_isSentSo_47 (lv_at hl 0 rfl) ?_
            refine lv_iconst (v := 1) hx hb dX8_isSentSo_49 (by decide) ?_
            refine lv_iadd hx hb dX8_isSentSo_50 ?_
            obtain ⟨hi_51, hm⟩ := gd_s hm
            refine q_iald (j := (Int32.toNatClampNeg ((49 + (3 * x4)) + 1))) hx hb hK hP 1 rfl hi_51 rfl dX8_isSentSo_51 ?_
            obtain ⟨r_52, hc_52, hm⟩ := ob_s hm
            refine q_ci (q_rv (rest := []) ⟨hx, hb, hml, hown, hts⟩ hK hN hP hD (c_X8_believedOf l D cI cZ H.size AT AT_al AT_kp AT_ik AT_rf AT_hd AT_bs AT_se AT_bf AT_te AT_by AT_an AT_vs vT_ab vT_be vT_byl vT_tka vT_tkl vT_tkn vT_val fT_al p1 p2 (fT_al (Int32.toNatClampNeg ((49 + (3 * x4)) + 1))) r_52 hc_52) mb_X8_believedOf mv_X8_believedOf wl_X8_163 [0, 1] rfl rfl rfl (Nat.le_of_ble_eq_true rfl) (Nat.le_of_ble_eq_true rfl) rfl hl.1 rfl (Nat.le_of_ble_eq_true rfl) ⟨Nat.le_refl 0, Nat.le_refl 0⟩ dX8_isSentSo_52) hP hD hS hA [0, 1] rfl rfl (fun H locs hP hD hS => ?_)
            have hP : va_P D vwCl (wd_X8_isSentSo cI cZ AT AT_al AT_kp AT_ik AT_rf AT_hd AT_bs AT_se AT_bf AT_te AT_by AT_an AT_vs vT_ab vT_be vT_byl vT_tka vT_tkl vT_tkn vT_val fT_al) H := hP
            have hD : va_D A (wd_X8_isSentSo cI cZ AT AT_al AT_kp AT_ik AT_rf AT_hd AT_bs AT_se AT_bf AT_te AT_by AT_an AT_vs vT_ab vT_be vT_byl vT_tka vT_tkl vT_tkn vT_val fT_al) := hD
            refine lv_aload_n hx hb dX8_isSentSo_55 rfl (lv_at hl 3 rfl) ?_
            refine gf_X8_7 (v := .ref AT_al) hx hb hts hown hK hN hP 0 rfl rfl dX8_isSentSo_56 ?_
            refine lv_iload hx hb dX8_isSentSo_59 (lv_at hl 0 rfl) ?_
            refine lv_iconst (v := 2) hx hb dX8_isSentSo_61 (by decide) ?_
            refine lv_iadd hx hb dX8_isSentSo_62 ?_
            obtain ⟨hi_63, hm⟩ := gd_s hm
            refine q_iald (j := (Int32.toNatClampNeg ((49 + (3 * x4)) + 2))) hx hb hK hP 1 rfl hi_63 rfl dX8_isSentSo_63 ?_
            refine lv_icmp_ne (tgt := 71) hx hb dX8_isSentSo_64 (by decide) (fun c_64 => ?_) (fun c_64 => ?_)
            · have hm := it_n c_64 hm
              refine lv_iconst (v := 0) hx hb dX8_isSentSo_71 (by decide) ?_
              refine lv_istore_n (lv' := [(3, .int 0), (5, .int (49 + (3 * x4))), (4, .int x4), (0, .ref AT), (1, .int p1), (2, .int p2)]) hx hb dX8_isSentSo_72 rfl hl (by decide) rfl (fun ls hl => ?_)
              refine lv_iinc (v := (x4 + 1)) (lv' := [(4, .int (x4 + 1)), (3, .int 0), (5, .int (49 + (3 * x4))), (0, .ref AT), (1, .int p1), (2, .int p2)]) hx hb dX8_isSentSo_73 hl (k := 2) rfl rfl (by decide) rfl (fun ls hl => ?_)
              refine lv_goto (tgt := 5) hx hb dX8_isSentSo_76 (by decide) ?_
              exact ih_5 (x4 + 1) 0 H locs ls hm hP hD hS (lv_sub hl [0, 1, 3, 4, 5] rfl)
            · have hm := it_s c_64 hm
              refine lv_iconst (v := 1) hx hb dX8_isSentSo_67 (by decide) ?_
              refine lv_goto (tgt := 72) hx hb dX8_isSentSo_68 (by decide) ?_
              refine lv_istore_n (lv' := [(3, .int 1), (5, .int (49 + (3 * x4))), (4, .int x4), (0, .ref AT), (1, .int p1), (2, .int p2)]) hx hb dX8_isSentSo_72 rfl hl (by decide) rfl (fun ls hl => ?_)
              refine lv_iinc (v := (x4 + 1)) (lv' := [(4, .int (x4 + 1)), (3, .int 1), (5, .int (49 + (3 * x4))), (0, .ref AT), (1, .int p1), (2, .int p2)]) hx hb dX8_isSentSo_73 hl (k := 2) rfl rfl (by decide) rfl (fun ls hl => ?_)
              refine lv_goto (tgt := 5) hx hb dX8_isSentSo_76 (by decide) ?_
              exact ih_5 (x4 + 1) 1 H locs ls hm hP hD hS (lv_sub hl [0, 1, 3, 4, 5] rfl)
  unfold fm_X8_isSentSo at hm
  refine q_gen hS hP ?_
  intro H locs hP hS
  refine lv_iconst (v := 1) hx hb dX8_isSentSo_0 (by decide) ?_
  refine lv_istore_n (lv' := [(3, .int 1), (0, .ref AT), (1, .int p1), (2, .int p2)]) hx hb dX8_isSentSo_1 rfl hl (by decide) rfl (fun ls hl => ?_)
  refine lv_iconst (v := 0) hx hb dX8_isSentSo_2 (by decide) ?_
  refine lv_istore (lv' := [(4, .int 0), (3, .int 1), (0, .ref AT), (1, .int p1), (2, .int p2)]) hx hb dX8_isSentSo_3 hl (by decide) rfl (fun ls hl => ?_)
  exact hL_5 FU 0 1 H locs ls hm hP hD hS (lv_sub hl [0, 1, 2, 3, 4] rfl)
theorem mb_X8_sent : q_mb yX8_sent cX8_sent 8 (some .int) 2 := ⟨wc_X8_sent, wn_X8, by decide, by decide, by decide +kernel⟩
theorem mv_X8_sent : q_mv yX8_sent 8 := ⟨wi_X8_sent, ws_X8_sent, _, rfl, rfl⟩
def wd_X8_sent (cI cZ : ClassId) (AT AT_al AT_kp AT_ik AT_rf AT_hd AT_bs AT_se AT_bf AT_te AT_by AT_an AT_vs : Nat) (vT_ab : Int64) (vT_be : Int64) (vT_byl : Int32) (vT_tka : Int32) (vT_tkl : Int32) (vT_tkn : Int32) (vT_val : Int32) (fT_al : Nat → Int32) (fT_rf : Nat → Int32) : va_W := [(AT, .inr (8, [.ref AT_al, .ref AT_kp, .ref AT_ik, .ref AT_rf, .long vT_ab, .long vT_be, .ref AT_hd, .ref AT_bs, .ref AT_se, .ref AT_bf, .ref AT_te, .ref AT_by, .int vT_byl, .int vT_tka, .int vT_tkl, .int vT_tkn, .int vT_val, .ref AT_an, .ref AT_vs])), (AT_al, .inl (cI, 312, .inl fT_al)), (AT_rf, .inl (cI, 3, .inl fT_rf))]
def fL_X8_sent_47 (p1 : Int32) (p2 : Int32) (fT_al : Nat → Int32) : Nat → Int32 → Int32 → Int32 → Int32 → (Nat → Int32) → Option (Int32 × (Nat → Int32))
  | 0, _, _, _, _, _ => none
  | fu + 1, x6, x5, x4, x3, fT_rf => if (1 <<< ((fT_al 1) &&& 31)) ≤ x6 then (if p2 = 0 then (some (x3, fT_rf)) else (if p2 = 2 then (some (x5, fT_rf)) else (if x3 = 0 then (some ((-1), fT_rf)) else (some (x4, fT_rf))))) else (Option.bind (fm_X8_isSentSo p1 x6 fT_al) (fun r_64 => if r_64 = 0 then (fL_X8_sent_47 p1 p2 fT_al fu (x6 + 1) (x5 ||| 0) (x4 &&& x4) (x3 + 0) fT_rf) else (fL_X8_sent_47 p1 p2 fT_al fu (x6 + 1) (x5 ||| x6) (x4 &&& x6) (x3 + 1) fT_rf)))
def fm_X8_sent (p1 : Int32) (p2 : Int32) (fT_al : Nat → Int32) (fT_rf : Nat → Int32) : Option (Int32 × (Nat → Int32)) := Option.bind (fm_X8_isSleeper p1 fT_al) (fun r_2 => if r_2 = 0 then (Option.bind (fm_X8_bad (-2) fT_rf) (fun r_23 => some (r_23.1, r_23.2))) else (Option.bind (fm_X8_in (Int32.toInt64 p2) 0 2) (fun r_14 => if r_14 = 0 then (Option.bind (fm_X8_bad (-2) fT_rf) (fun r_23 => some (r_23.1, r_23.2))) else (fL_X8_sent_47 p1 p2 fT_al FU 0 0 ((1 <<< ((fT_al 1) &&& 31)) - 1) 0 fT_rf))))
set_option maxHeartbeats 4000000 in
set_option maxRecDepth 100000 in
theorem c_X8_sent (l : Launch) (D : va_G) (cI cZ : ClassId) (sz : Nat) (AT AT_al AT_kp AT_ik AT_rf AT_hd AT_bs AT_se AT_bf AT_te AT_by AT_an AT_vs : Nat) (vT_ab : Int64) (vT_be : Int64) (vT_byl : Int32) (vT_tka : Int32) (vT_tkl : Int32) (vT_tkn : Int32) (vT_val : Int32) (fT_al : Nat → Int32) (fT_rf : Nat → Int32) (p1 : Int32) (p2 : Int32) (out : (Int32 × (Nat → Int32))) (hm : fm_X8_sent p1 p2 fT_al fT_rf = some out) : Met l yX8_sent (Cond.code yX8_sent cX8_sent 8 (some .int) :: bg) { frames := 3, cells := 0, slots := 0, locals := 74 } (va_Pc [.ref AT, .int p1, .int p2] (q_pre D cI cZ sz (wd_X8_sent cI cZ AT AT_al AT_kp AT_ik AT_rf AT_hd AT_bs AT_se AT_bf AT_te AT_by AT_an AT_vs vT_ab vT_be vT_byl vT_tka vT_tkl vT_tkn vT_val fT_al fT_rf))) (q_Qi D (wd_X8_sent cI cZ AT AT_al AT_kp AT_ik AT_rf AT_hd AT_bs AT_se AT_bf AT_te AT_by AT_an AT_vs vT_ab vT_be vT_byl vT_tka vT_tkl vT_tkn vT_val fT_al out.2) out.1 (va_A (wd_X8_sent cI cZ AT AT_al AT_kp AT_ik AT_rf AT_hd AT_bs AT_se AT_bf AT_te AT_by AT_an AT_vs vT_ab vT_be vT_byl vT_tka vT_tkl vT_tkn vT_val fT_al fT_rf) sz)) 0 0 (va_A (wd_X8_sent cI cZ AT AT_al AT_kp AT_ik AT_rf AT_hd AT_bs AT_se AT_bf AT_te AT_by AT_an AT_vs vT_ab vT_be vT_byl vT_tka vT_tkl vT_tkn vT_val fT_al fT_rf) sz) := by
  refine q_met (fun A => q_Qi D (wd_X8_sent cI cZ AT AT_al AT_kp AT_ik AT_rf AT_hd AT_bs AT_se AT_bf AT_te AT_by AT_an AT_vs vT_ab vT_be vT_byl vT_tka vT_tkl vT_tkn vT_val fT_al out.2) out.1 A) (by decide) (Nat.le_of_ble_eq_true rfl) ?_
  intro p e s m below meth c ls A hx hb hr hml hown hts hlocks _ hA hS hP hD hK hN hl
  have hown : s.vm.findClass RX8 = some m.cls := hown
  have hl : lv_has ls 8 [(0, .ref AT), (1, .int p1), (2, .int p2)] := hl
  have hL_47 : ∀ (fu_47 : Nat) (x6 : Int32) (x5 : Int32) (x4 : Int32) (x3 : Int32) (fT_rf : Nat → Int32) (H : Heap) (locs : List Loc) (ls : Array Slot), fL_X8_sent_47 p1 p2 fT_al fu_47 x6 x5 x4 x3 fT_rf = some out → va_P D vwCl (wd_X8_sent cI cZ AT AT_al AT_kp AT_ik AT_rf AT_hd AT_bs AT_se AT_bf AT_te AT_by AT_an AT_vs vT_ab vT_be vT_byl vT_tka vT_tkl vT_tkn vT_val fT_al fT_rf) H → va_D A (wd_X8_sent cI cZ AT AT_al AT_kp AT_ik AT_rf AT_hd AT_bs AT_se AT_bf AT_te AT_by AT_an AT_vs vT_ab vT_be vT_byl vT_tka vT_tkl vT_tkn vT_val fT_al fT_rf) → va_S A s.heap H locs → lv_has ls 8 [(6, .int x6), (5, .int x5), (4, .int x4), (3, .int x3), (0, .ref AT), (1, .int p1), (2, .int p2)] → W p l e { frames := 3, cells := 0, slots := 0, locals := 74 } s m ([.ref AT, .int p1, .int p2] : List Value).toArray below meth c H locs 0 0 (MQ below (q_Qi D (wd_X8_sent cI cZ AT AT_al AT_kp AT_ik AT_rf AT_hd AT_bs AT_se AT_bf AT_te AT_by AT_an AT_vs vT_ab vT_be vT_byl vT_tka vT_tkl vT_tkn vT_val fT_al out.2) out.1 A) ([.ref AT, .int p1, .int p2] : List Value).toArray s 0 0 A) (F0 m 47 ls []) := by
    intro fu_47
    induction fu_47 with
    | zero => intro x6 x5 x4 x3 fT_rf H locs ls hm hP hD hS hl; exact absurd (show (none : Option (Int32 × (Nat → Int32))) = some out from hm) (fun h => nomatch h)
    | succ fu_47 ih_47 =>
      intro x6 x5 x4 x3 fT_rf H locs ls hm hP hD hS hl
      rw [fL_X8_sent_47] at hm
      refine lv_iload hx hb dX8_sent_47 (lv_at hl 0 rfl) ?_
      refine lv_iconst (v := 1) hx hb dX8_sent_49 (by decide) ?_
      refine lv_aload_n hx hb dX8_sent_50 rfl (lv_at hl 4 rfl) ?_
      refine gf_X8_7 (v := .ref AT_al) hx hb hts hown hK hN hP 0 rfl rfl dX8_sent_51 ?_
      refine lv_iconst (v := 1) hx hb dX8_sent_54 (by decide) ?_
      refine q_iald (j := 1) hx hb hK hP 1 rfl (q_inl (by decide)) (by decide) dX8_sent_55 ?_
      refine lv_ishl hx hb dX8_sent_56 ?_
      refine lv_icmp_ge (tgt := 121) hx hb dX8_sent_57 (by decide) (fun c_57 => ?_) (fun c_57 => ?_)
      · have hm := it_s c_57 hm
        refine lv_iload_n hx hb dX8_sent_121 rfl (lv_at hl 6 rfl) ?_
        refine lv_if_ne (tgt := 129) hx hb dX8_sent_122 (by decide) (fun c_122 => ?_) (fun c_122 => ?_)
        · have hm := it_n c_122 hm
          refine lv_iload_n hx hb dX8_sent_129 rfl (lv_at hl 6 rfl) ?_
          refine lv_iconst (v := 2) hx hb dX8_sent_130 (by decide) ?_
          refine lv_icmp_ne (tgt := 139) hx hb dX8_sent_131 (by decide) (fun c_131 => ?_) (fun c_131 => ?_)
          · have hm := it_n c_131 hm
            refine lv_iload_n hx hb dX8_sent_139 rfl (lv_at hl 3 rfl) ?_
            refine lv_if_ne (tgt := 147) hx hb dX8_sent_140 (by decide) (fun c_140 => ?_) (fun c_140 => ?_)
            · have hm := it_n c_140 hm
              refine lv_iload hx hb dX8_sent_147 (lv_at hl 2 rfl) ?_
              have hm := Option.some.inj hm
              subst hm
              exact q_iret (v := x4) hx hb hr hlocks hP hS dX8_sent_149
            · have hm := it_s c_140 hm
              refine lv_iconst (v := (-1)) hx hb dX8_sent_143 (by decide) ?_
              refine lv_goto (tgt := 149) hx hb dX8_sent_144 (by decide) ?_
              have hm := Option.some.inj hm
              subst hm
              exact q_iret (v := (-1)) hx hb hr hlocks hP hS dX8_sent_149
          · have hm := it_s c_131 hm
            refine lv_iload hx hb dX8_sent_134 (lv_at hl 1 rfl) ?_
            refine lv_goto (tgt := 149) hx hb dX8_sent_136 (by decide) ?_
            have hm := Option.some.inj hm
            subst hm
            exact q_iret (v := x5) hx hb hr hlocks hP hS dX8_sent_149
        · have hm := it_s c_122 hm
          refine lv_iload_n hx hb dX8_sent_125 rfl (lv_at hl 3 rfl) ?_
          refine lv_goto (tgt := 149) hx hb dX8_sent_126 (by decide) ?_
          have hm := Option.some.inj hm
          subst hm
          exact q_iret (v := x3) hx hb hr hlocks hP hS dX8_sent_149
      · have hm := it_n c_57 hm
        refine lv_aload_n hx hb dX8_sent_60 rfl (lv_at hl 4 rfl) ?_
        refine lv_iload_n hx hb dX8_sent_61 rfl (lv_at hl 5 rfl) ?_
        refine lv_iload hx hb dX8_sent_62 (lv_at hl 0 rfl) ?_
        obtain ⟨r_64, hc_64, hm⟩ := ob_s hm
        refine q_ci (q_rv (rest := []) ⟨hx, hb, hml, hown, hts⟩ hK hN hP hD (c_X8_isSentSo l D cI cZ H.size AT AT_al AT_kp AT_ik AT_rf AT_hd AT_bs AT_se AT_bf AT_te AT_by AT_an AT_vs vT_ab vT_be vT_byl vT_tka vT_tkl vT_tkn vT_val fT_al p1 x6 r_64 hc_64) mb_X8_isSentSo mv_X8_isSentSo wl_X8_168 [0, 1] rfl rfl rfl (Nat.le_of_ble_eq_true rfl) (Nat.le_of_ble_eq_true rfl) rfl hl.1 rfl (Nat.le_of_ble_eq_true rfl) ⟨Nat.le_refl 0, Nat.le_refl 0⟩ dX8_sent_64) hP hD hS hA [0, 1] rfl rfl (fun H locs hP hD hS => ?_)
        have hP : va_P D vwCl (wd_X8_sent cI cZ AT AT_al AT_kp AT_ik AT_rf AT_hd AT_bs AT_se AT_bf AT_te AT_by AT_an AT_vs vT_ab vT_be vT_byl vT_tka vT_tkl vT_tkn vT_val fT_al fT_rf) H := hP
        have hD : va_D A (wd_X8_sent cI cZ AT AT_al AT_kp AT_ik AT_rf AT_hd AT_bs AT_se AT_bf AT_te AT_by AT_an AT_vs vT_ab vT_be vT_byl vT_tka vT_tkl vT_tkn vT_val fT_al fT_rf) := hD
        refine lv_istore (lv' := [(7, .int r_64), (6, .int x6), (5, .int x5), (4, .int x4), (3, .int x3), (0, .ref AT), (1, .int p1), (2, .int p2)]) hx hb dX8_sent_67 hl (by decide) rfl (fun ls hl => ?_)
        refine lv_iload_n hx hb dX8_sent_69 rfl (lv_at hl 4 rfl) ?_
        refine lv_iload hx hb dX8_sent_70 (lv_at hl 0 rfl) ?_
        refine lv_if_eq (tgt := 79) hx hb dX8_sent_72 (by decide) (fun c_72 => ?_) (fun c_72 => ?_)
        · have hm := it_s c_72 hm
          refine lv_iconst (v := 0) hx hb dX8_sent_79 (by decide) ?_
          refine lv_iadd hx hb dX8_sent_80 ?_
          refine lv_istore_n (lv' := [(3, .int (x3 + 0)), (7, .int r_64), (6, .int x6), (5, .int x5), (4, .int x4), (0, .ref AT), (1, .int p1), (2, .int p2)]) hx hb dX8_sent_81 rfl hl (by decide) rfl (fun ls hl => ?_)
          refine lv_iload hx hb dX8_sent_82 (lv_at hl 4 rfl) ?_
          refine lv_iload hx hb dX8_sent_84 (lv_at hl 1 rfl) ?_
          refine lv_if_eq (tgt := 94) hx hb dX8_sent_86 (by decide) (fun _ => ?_) (fun c => absurd c_72 c)
          refine lv_iload hx hb dX8_sent_94 (lv_at hl 4 rfl) ?_
          refine lv_iand hx hb dX8_sent_96 ?_
          refine lv_istore (lv' := [(4, .int (x4 &&& x4)), (3, .int (x3 + 0)), (7, .int r_64), (6, .int x6), (5, .int x5), (0, .ref AT), (1, .int p1), (2, .int p2)]) hx hb dX8_sent_97 hl (by decide) rfl (fun ls hl => ?_)
          refine lv_iload hx hb dX8_sent_99 (lv_at hl 4 rfl) ?_
          refine lv_iload hx hb dX8_sent_101 (lv_at hl 2 rfl) ?_
          refine lv_if_eq (tgt := 111) hx hb dX8_sent_103 (by decide) (fun _ => ?_) (fun c => absurd c_72 c)
          refine lv_iconst (v := 0) hx hb dX8_sent_111 (by decide) ?_
          refine lv_ior hx hb dX8_sent_112 ?_
          refine lv_istore (lv' := [(5, .int (x5 ||| 0)), (4, .int (x4 &&& x4)), (3, .int (x3 + 0)), (7, .int r_64), (6, .int x6), (0, .ref AT), (1, .int p1), (2, .int p2)]) hx hb dX8_sent_113 hl (by decide) rfl (fun ls hl => ?_)
          refine lv_iinc (v := (x6 + 1)) (lv' := [(6, .int (x6 + 1)), (5, .int (x5 ||| 0)), (4, .int (x4 &&& x4)), (3, .int (x3 + 0)), (7, .int r_64), (0, .ref AT), (1, .int p1), (2, .int p2)]) hx hb dX8_sent_115 hl (k := 4) rfl rfl (by decide) rfl (fun ls hl => ?_)
          refine lv_goto (tgt := 47) hx hb dX8_sent_118 (by decide) ?_
          exact ih_47 (x6 + 1) (x5 ||| 0) (x4 &&& x4) (x3 + 0) fT_rf H locs ls hm hP hD hS (lv_sub hl [0, 1, 2, 3, 5, 6, 7] rfl)
        · have hm := it_n c_72 hm
          refine lv_iconst (v := 1) hx hb dX8_sent_75 (by decide) ?_
          refine lv_goto (tgt := 80) hx hb dX8_sent_76 (by decide) ?_
          refine lv_iadd hx hb dX8_sent_80 ?_
          refine lv_istore_n (lv' := [(3, .int (x3 + 1)), (7, .int r_64), (6, .int x6), (5, .int x5), (4, .int x4), (0, .ref AT), (1, .int p1), (2, .int p2)]) hx hb dX8_sent_81 rfl hl (by decide) rfl (fun ls hl => ?_)
          refine lv_iload hx hb dX8_sent_82 (lv_at hl 4 rfl) ?_
          refine lv_iload hx hb dX8_sent_84 (lv_at hl 1 rfl) ?_
          refine lv_if_eq (tgt := 94) hx hb dX8_sent_86 (by decide) (fun c => absurd c c_72) (fun _ => ?_)
          refine lv_iload hx hb dX8_sent_89 (lv_at hl 2 rfl) ?_
          refine lv_goto (tgt := 96) hx hb dX8_sent_91 (by decide) ?_
          refine lv_iand hx hb dX8_sent_96 ?_
          refine lv_istore (lv' := [(4, .int (x4 &&& x6)), (3, .int (x3 + 1)), (7, .int r_64), (6, .int x6), (5, .int x5), (0, .ref AT), (1, .int p1), (2, .int p2)]) hx hb dX8_sent_97 hl (by decide) rfl (fun ls hl => ?_)
          refine lv_iload hx hb dX8_sent_99 (lv_at hl 4 rfl) ?_
          refine lv_iload hx hb dX8_sent_101 (lv_at hl 2 rfl) ?_
          refine lv_if_eq (tgt := 111) hx hb dX8_sent_103 (by decide) (fun c => absurd c c_72) (fun _ => ?_)
          refine lv_iload hx hb dX8_sent_106 (lv_at hl 3 rfl) ?_
          refine lv_goto (tgt := 112) hx hb dX8_sent_108 (by decide) ?_
          refine lv_ior hx hb dX8_sent_112 ?_
          refine lv_istore (lv' := [(5, .int (x5 ||| x6)), (4, .int (x4 &&& x6)), (3, .int (x3 + 1)), (7, .int r_64), (6, .int x6), (0, .ref AT), (1, .int p1), (2, .int p2)]) hx hb dX8_sent_113 hl (by decide) rfl (fun ls hl => ?_)
          refine lv_iinc (v := (x6 + 1)) (lv' := [(6, .int (x6 + 1)), (5, .int (x5 ||| x6)), (4, .int (x4 &&& x6)), (3, .int (x3 + 1)), (7, .int r_64), (0, .ref AT), (1, .int p1), (2, .int p2)]) hx hb dX8_sent_115 hl (k := 4) rfl rfl (by decide) rfl (fun ls hl => ?_)
          refine lv_goto (tgt := 47) hx hb dX8_sent_118 (by decide) ?_
          exact ih_47 (x6 + 1) (x5 ||| x6) (x4 &&& x6) (x3 + 1) fT_rf H locs ls hm hP hD hS (lv_sub hl [0, 1, 2, 3, 5, 6, 7] rfl)
  unfold fm_X8_sent at hm
  refine q_gen hS hP ?_
  intro H locs hP hS
  refine lv_aload_n hx hb dX8_sent_0 rfl (lv_at hl 0 rfl) ?_
  refine lv_iload_n hx hb dX8_sent_1 rfl (lv_at hl 1 rfl) ?_
  obtain ⟨r_2, hc_2, hm⟩ := ob_s hm
  refine q_ci (q_rv (rest := []) ⟨hx, hb, hml, hown, hts⟩ hK hN hP hD (c_X8_isSleeper l D cI cZ H.size AT AT_al AT_kp AT_ik AT_rf AT_hd AT_bs AT_se AT_bf AT_te AT_by AT_an AT_vs vT_ab vT_be vT_byl vT_tka vT_tkl vT_tkn vT_val fT_al p1 r_2 hc_2) mb_X8_isSleeper mv_X8_isSleeper wl_X8_132 [0, 1] rfl rfl rfl (Nat.le_of_ble_eq_true rfl) (Nat.le_of_ble_eq_true rfl) rfl hl.1 rfl (Nat.le_of_ble_eq_true rfl) ⟨Nat.le_refl 0, Nat.le_refl 0⟩ dX8_sent_2) hP hD hS hA [0, 1] rfl rfl (fun H locs hP hD hS => ?_)
  have hP : va_P D vwCl (wd_X8_sent cI cZ AT AT_al AT_kp AT_ik AT_rf AT_hd AT_bs AT_se AT_bf AT_te AT_by AT_an AT_vs vT_ab vT_be vT_byl vT_tka vT_tkl vT_tkn vT_val fT_al fT_rf) H := hP
  have hD : va_D A (wd_X8_sent cI cZ AT AT_al AT_kp AT_ik AT_rf AT_hd AT_bs AT_se AT_bf AT_te AT_by AT_an AT_vs vT_ab vT_be vT_byl vT_tka vT_tkl vT_tkn vT_val fT_al fT_rf) := hD
  refine lv_if_eq (tgt := 20) hx hb dX8_sent_5 (by decide) (fun c_5 => ?_) (fun c_5 => ?_)
  · have hm := it_s c_5 hm
    refine lv_aload_n hx hb dX8_sent_20 rfl (lv_at hl 0 rfl) ?_
    refine lv_bipush (v := (-2)) hx hb dX8_sent_21 (by decide) ?_
    obtain ⟨r_23, hc_23, hm⟩ := ob_s hm
    refine q_ci (q_rv (rest := []) ⟨hx, hb, hml, hown, hts⟩ hK hN hP hD (c_X8_bad l D cI cZ H.size AT AT_al AT_kp AT_ik AT_rf AT_hd AT_bs AT_se AT_bf AT_te AT_by AT_an AT_vs vT_ab vT_be vT_byl vT_tka vT_tkl vT_tkn vT_val fT_rf (-2) r_23 hc_23) mb_X8_bad mv_X8_bad wl_X8_75 [0, 2] rfl rfl rfl (Nat.le_of_ble_eq_true rfl) (Nat.le_of_ble_eq_true rfl) rfl hl.1 rfl (Nat.le_of_ble_eq_true rfl) ⟨Nat.le_refl 0, Nat.le_refl 0⟩ dX8_sent_23) hP hD hS hA [0, 2] rfl rfl (fun H locs hP hD hS => ?_)
    have hP : va_P D vwCl (wd_X8_sent cI cZ AT AT_al AT_kp AT_ik AT_rf AT_hd AT_bs AT_se AT_bf AT_te AT_by AT_an AT_vs vT_ab vT_be vT_byl vT_tka vT_tkl vT_tkn vT_val fT_al r_23.2) H := hP
    have hD : va_D A (wd_X8_sent cI cZ AT AT_al AT_kp AT_ik AT_rf AT_hd AT_bs AT_se AT_bf AT_te AT_by AT_an AT_vs vT_ab vT_be vT_byl vT_tka vT_tkl vT_tkn vT_val fT_al r_23.2) := hD
    have hm := Option.some.inj hm
    subst hm
    exact q_iret (v := r_23.1) hx hb hr hlocks hP hS dX8_sent_26
  · have hm := it_n c_5 hm
    refine lv_iload_n hx hb dX8_sent_8 rfl (lv_at hl 2 rfl) ?_
    refine lv_i2l (v := (Int32.toInt64 p2)) hx hb dX8_sent_9 rfl ?_
    refine lv_lconst (v := 0) hx hb dX8_sent_10 (by decide) ?_
    refine lv_ldc2 (v := 2) hx hb hown (hts _ wv_X8_166) dX8_sent_11 ?_
    obtain ⟨r_14, hc_14, hm⟩ := ob_s hm
    refine q_ci (q_rs (rest := []) ⟨hx, hb, hml, hown, hts⟩ hK hN hP hD (c_X8_in l D cI cZ H.size (Int32.toInt64 p2) 0 2 r_14 hc_14) mb_X8_in wt_X8_in wl_X8_59 [] rfl rfl (Nat.le_of_ble_eq_true rfl) (Nat.le_of_ble_eq_true rfl) rfl hl.1 rfl (Nat.le_of_ble_eq_true rfl) ⟨Nat.le_refl 0, Nat.le_refl 0⟩ dX8_sent_14) hP hD hS hA [] rfl rfl (fun H locs hP hD hS => ?_)
    have hP : va_P D vwCl (wd_X8_sent cI cZ AT AT_al AT_kp AT_ik AT_rf AT_hd AT_bs AT_se AT_bf AT_te AT_by AT_an AT_vs vT_ab vT_be vT_byl vT_tka vT_tkl vT_tkn vT_val fT_al fT_rf) H := hP
    have hD : va_D A (wd_X8_sent cI cZ AT AT_al AT_kp AT_ik AT_rf AT_hd AT_bs AT_se AT_bf AT_te AT_by AT_an AT_vs vT_ab vT_be vT_byl vT_tka vT_tkl vT_tkn vT_val fT_al fT_rf) := hD
    refine lv_if_ne (tgt := 27) hx hb dX8_sent_17 (by decide) (fun c_17 => ?_) (fun c_17 => ?_)
    · have hm := it_n c_17 hm
      refine lv_iconst (v := 0) hx hb dX8_sent_27 (by decide) ?_
      refine lv_istore_n (lv' := [(3, .int 0), (0, .ref AT), (1, .int p1), (2, .int p2)]) hx hb dX8_sent_28 rfl hl (by decide) rfl (fun ls hl => ?_)
      refine lv_iconst (v := 1) hx hb dX8_sent_29 (by decide) ?_
      refine lv_aload_n hx hb dX8_sent_30 rfl (lv_at hl 1 rfl) ?_
      refine gf_X8_7 (v := .ref AT_al) hx hb hts hown hK hN hP 0 rfl rfl dX8_sent_31 ?_
      refine lv_iconst (v := 1) hx hb dX8_sent_34 (by decide) ?_
      refine q_iald (j := 1) hx hb hK hP 1 rfl (q_inl (by decide)) (by decide) dX8_sent_35 ?_
      refine lv_ishl hx hb dX8_sent_36 ?_
      refine lv_iconst (v := 1) hx hb dX8_sent_37 (by decide) ?_
      refine lv_isub hx hb dX8_sent_38 ?_
      refine lv_istore (lv' := [(4, .int ((1 <<< ((fT_al 1) &&& 31)) - 1)), (3, .int 0), (0, .ref AT), (1, .int p1), (2, .int p2)]) hx hb dX8_sent_39 hl (by decide) rfl (fun ls hl => ?_)
      refine lv_iconst (v := 0) hx hb dX8_sent_41 (by decide) ?_
      refine lv_istore (lv' := [(5, .int 0), (4, .int ((1 <<< ((fT_al 1) &&& 31)) - 1)), (3, .int 0), (0, .ref AT), (1, .int p1), (2, .int p2)]) hx hb dX8_sent_42 hl (by decide) rfl (fun ls hl => ?_)
      refine lv_iconst (v := 0) hx hb dX8_sent_44 (by decide) ?_
      refine lv_istore (lv' := [(6, .int 0), (5, .int 0), (4, .int ((1 <<< ((fT_al 1) &&& 31)) - 1)), (3, .int 0), (0, .ref AT), (1, .int p1), (2, .int p2)]) hx hb dX8_sent_45 hl (by decide) rfl (fun ls hl => ?_)
      exact hL_47 FU 0 0 ((1 <<< ((fT_al 1) &&& 31)) - 1) 0 fT_rf H locs ls hm hP hD hS (lv_sub hl [0, 1, 2, 3, 4, 5, 6] rfl)
    · have hm := it_s c_17 hm
      refine lv_aload_n hx hb dX8_sent_20 rfl (lv_at hl 0 rfl) ?_
      refine lv_bipush (v := (-2)) hx hb dX8_sent_21 (by decide) ?_
      obtain ⟨r_23, hc_23, hm⟩ := ob_s hm
      refine q_ci (q_rv (rest := []) ⟨hx, hb, hml, hown, hts⟩ hK hN hP hD (c_X8_bad l D cI cZ H.size AT AT_al AT_kp AT_ik AT_rf AT_hd AT_bs AT_se AT_bf AT_te AT_by AT_an AT_vs vT_ab vT_be vT_byl vT_tka vT_tkl vT_tkn vT_val fT_rf (-2) r_23 hc_23) mb_X8_bad mv_X8_bad wl_X8_75 [0, 2] rfl rfl rfl (Nat.le_of_ble_eq_true rfl) (Nat.le_of_ble_eq_true rfl) rfl hl.1 rfl (Nat.le_of_ble_eq_true rfl) ⟨Nat.le_refl 0, Nat.le_refl 0⟩ dX8_sent_23) hP hD hS hA [0, 2] rfl rfl (fun H locs hP hD hS => ?_)
      have hP : va_P D vwCl (wd_X8_sent cI cZ AT AT_al AT_kp AT_ik AT_rf AT_hd AT_bs AT_se AT_bf AT_te AT_by AT_an AT_vs vT_ab vT_be vT_byl vT_tka vT_tkl vT_tkn vT_val fT_al r_23.2) H := hP
      have hD : va_D A (wd_X8_sent cI cZ AT AT_al AT_kp AT_ik AT_rf AT_hd AT_bs AT_se AT_bf AT_te AT_by AT_an AT_vs vT_ab vT_be vT_byl vT_tka vT_tkl vT_tkn vT_val fT_al r_23.2) := hD
      have hm := Option.some.inj hm
      subst hm
      exact q_iret (v := r_23.1) hx hb hr hlocks hP hS dX8_sent_26
