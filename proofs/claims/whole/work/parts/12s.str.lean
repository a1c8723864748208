def nzi {α : Type} (y : Int32) (x : Option α) : Option α := if y = 0 then none else x
theorem nzi_s {α : Type} {y : Int32} {x : Option α} {o : α} (h : nzi y x = some o) : ¬ y = 0 ∧ x = some o := by
  unfold nzi at h
  split at h
  · cases h
  · rename_i q
    exact ⟨q, h⟩
theorem nzi_in {α : Type} {y : Int32} {x : Option α} (h : ¬ y = 0) : nzi y x = x := if_neg h
/-! the five words of the reader: their bytes; String.length, charAt over them -/
def q_ln : List Nat := [6, 7, 6, 4, 6]
def q_by : List (List Int32) := [[111, 102, 102, 105, 99, 101], [115, 108, 101, 101, 112, 101, 114], [102, 108, 111, 119, 101, 114], [115, 119, 97, 112], [110, 105, 103, 104, 116, 115]]
def q_len (i : Nat) : Nat := q_ln.getD i 0
def q_ch (i j : Nat) : Int32 := (q_by.getD i []).getD j 0
def q_ix : Nat → Nat := fun i => [128, 134, 136, 138, 140].getD i 0
def q_tx : Nat → String := fun i => ["office", "sleeper", "flower", "swap", "nights"].getD i ""
theorem q_ch_ok : ∀ i, i < 5 → ∀ j, j < q_len i → q_ch i j &&& 255 = q_ch i j ∧ ((q_ch i j).toUInt32 % 65536).toInt32 = q_ch i j := by decide +kernel
def q_str (adK adV : Nat → Nat) (A : Nat → Prop) (U : State) (H : Heap) : Prop := vk_S 5 q_ln q_by adK adV A U H ∧ va_Z "java/lang/String" "COMPACT_STRINGS" "Z" (.int 1) A U H ∧ (∃ v : Value, (v = .null ∨ ∃ a, v = .ref a) ∧ va_Z "jdk/internal/util/Preconditions" "SIOOBE_FORMATTER" "Ljava/util/function/BiFunction;" v A U H) ∧ ∀ i, i < 5 → vk_R RX5 (q_ix i) (q_tx i) (adK i) U
theorem q_str.to {adK adV : Nat → Nat} {A B : Nat → Prop} {s U : State} {H0 H1 : Heap} (h : q_str adK adV A s H0) (hW : s.WarmedH U.vm) (hq : ∀ a : Nat, a < H0.size → ¬ A a → H1[a]? = H0[a]?) (hAB : ∀ q, B q → A q) : q_str adK adV B U H1 := by
  obtain ⟨h1, h2, ⟨v, hv, h3⟩, h4⟩ := h
  exact ⟨((h1.moved hW.alike).kept hq).narrow hAB, ((h2.moved hW.alike).kept hq).narrow hAB, ⟨v, hv, ((h3.moved hW.alike).kept hq).narrow hAB⟩, fun i hi => (h4 i hi).warm hW⟩
def q_preX (adK adV : Nat → Nat) (D : va_G) (cI cZ : ClassId) (sz : Nat) (ws : va_W) (U : State) : Prop := q_pre D cI cZ sz ws U ∧ q_str adK adV (va_A ws sz) U U.heap
theorem q_preX_blind {adK adV : Nat → Nat} {D : va_G} {cI cZ : ClassId} {sz : Nat} {ws : va_W} {av : List Value} : FrameBlind (va_Pc av (q_preX adK adV D cI cZ sz ws)) := fun a U g mk q => by
  obtain ⟨q0, q1, q2, q3, ⟨v, hv, q4⟩, q5⟩ := q
  refine ⟨q0, (q_pre_blind a U g mk ⟨q0, q1⟩).2, q2.moved (u := U) (U := U.calling g mk a) (Vm.Alike.refl U.vm), q3.moved (u := U) (U := U.calling g mk a) (Vm.Alike.refl U.vm), ⟨v, hv, q4.moved (u := U) (U := U.calling g mk a) (Vm.Alike.refl U.vm)⟩, fun i hi => ?_⟩
  exact vk_R.same (u := U) (U := U.calling g mk a) rfl (q5 i hi)
theorem q_metX {l : Launch} {y : MethodName} {cy : ByteArray} {ny fr lo : Nat} {ret : Option FieldType} {adK adV : Nat → Nat} {D : va_G} {cI cZ : ClassId} {sz : Nat} {ws : va_W} {As : List Value} (Qc : (Nat → Prop) → Array Value → State → Outcome → State → Prop) (hy : plainName y.cls = true) (hn : (lg_sl As).length ≤ ny)
    (body : ∀ (p : Program) (e : Env) (s : State) (m : MethodId) (below : List Frame) (meth : Method) (c : Code) (ls : Array Slot) (A : Nat → Prop), p.tables.exec = Jvm.exec → c.code = cy → meth.sig.returnType = ret → c.maxLocals = ny → s.vm.findClass y.cls = some m.cls → (∀ w ∈ bg, w.before As.toArray s = true) → meth.locks = false → (meth.name = y.name) → (∀ q : Nat, s.heap.size ≤ q → A q) → va_S A s.heap s.heap [] → va_P D vwCl ws s.heap → va_D A ws → va_K D vwCl (q_tys cI cZ) s → q_N s → lv_has ls ny (lv_args 0 As) → q_str adK adV A s s.heap →
      W p l e { frames := fr, cells := 0, slots := 0, locals := lo } s m As.toArray below meth c s.heap [] 0 0 (MQ below (Qc A) As.toArray s 0 0 A) (F0 m 0 ls [])) :
    Met l y (Cond.code y cy ny ret :: bg) { frames := fr, cells := 0, slots := 0, locals := lo } (va_Pc As (q_preX adK adV D cI cZ sz ws)) (Qc (va_A ws sz)) 0 0 (va_A ws sz) := by
  refine Met.ofW (cc := cy) (maxL := ny) (ret := ret) hy rfl ?_
  intro p e s m args below meth c s₁ B hml hv
  obtain ⟨rfl, ⟨hsz, hP, hK, hD0, hN⟩, hG⟩ := hv
  subst hsz
  have hts := atoms_spec (ws := Cond.code y cy ny ret :: bg) B.pre
  have hl := lv_entry As (n := ny) hn
  rw [lg_entry_eq]
  exact body p e s m below meth c _ (va_A ws s.heap.size) B.exec B.bytes B.returns hml (findClass_of_methodNamed B.named) (fun w h => hts w (List.mem_cons_of_mem _ h)) B.notSynchronized (name_of_methodNamed B.named B.method).1 (fun q h => Or.inr h) va_S.rf hP hD0.self hK hN hl hG
section QX
variable {p : Program} {l : Launch} {e : Env} {R : Room} {s : State} {m : MethodId} {args : Array Value} {below : List Frame} {meth : Method} {c : Code} {H : Heap} {locs : List Loc} {cells slots : Nat} {Q : State → Prop} {pc : Nat} {ls : Array Slot}
variable {cc cy : ByteArray} {nL ny fr lo n index ci : Nat} {own host : String} {y : MethodName} {ret : Option FieldType} {adK adV : Nat → Nat} {D : va_G} {cI cZ : ClassId} {ws wc w1 : va_W} {A : Nat → Prop} {b : Nat} {As rest st fs : List Value} {Qc : Array Value → State → Outcome → State → Prop}
theorem q_atX (hG : q_str adK adV A s s.heap) (hK : va_K D vwCl (q_tys cI cZ) s) (hN : q_N s) (hP : va_P D vwCl ws H) (hD : va_D A ws) (hS : va_S A s.heap H locs) (hA : ∀ q, s.heap.size ≤ q → A q) (isC : List Nat) (hC : isC.map (fun i => ws[i]?) = wc.map some) (hnd : va_nd isC = true) {U : State} (hU : U.heap = H) (hW : s.WarmedH U.vm) : q_preX adK adV D cI cZ H.size wc U := by
  refine ⟨q_at hK hN hP hD isC hC hnd hU hW, ?_⟩
  rw [hU]
  exact hG.to hW hS.2.1 (fun q h => va_free hD hS hA isC hC q h)
theorem q_rvX (S : CallFix p m c cc nL s args bg own) (hG : q_str adK adV A s s.heap) (hK : va_K D vwCl (q_tys cI cZ) s) (hN : q_N s) (hP : va_P D vwCl ws H) (hD : va_D A ws) (hS : va_S A s.heap H locs) (hA : ∀ q, s.heap.size ≤ q → A q)
    (hM : Met l y (Cond.code y cy ny ret :: bg) { frames := fr, cells := 0, slots := 0, locals := lo } (va_Pc (.ref b :: As) (q_preX adK adV D cI cZ H.size wc)) Qc 0 0 (va_A wc H.size))
    (mb : q_mb y cy ny ret n) (v1 : Cond.instanceMethod y ∈ bg) (v2 : Cond.selects y.cls y y ∈ bg) (hrec : ∃ cellB : Cell, H[b]? = some cellB ∧ cellB.vm.isStatics = false ∧ s.vm.findClass y.cls = some cellB.cls) (hl : Cond.methodLink own index y ∈ bg) (isC : List Nat) (hC : isC.map (fun i => ws[i]?) = wc.map some) (hnd : va_nd isC = true)
    (hR1 : fr + 1 ≤ R.frames) (hR2 : 8 + (ny + 11) + lo ≤ R.locals) (hn : As.length = n) (hsize : ls.size = nL) (hstk : st = As.reverse ++ .ref b :: rest) (hcat : (rest.map fun v => v.category).sum ≤ 8) (hc : cells ≤ R.cells ∧ slots ≤ R.slots) (hdg : decode cc pc = .ok (.invokevirtual index, 3)) :
    va_Run p l e R s m args below meth c H locs cells slots 0 0 (F0 m pc ls st) rest (Qc (Value.ref b :: As).toArray) (va_A wc H.size) := by
  obtain ⟨m1, m2, m3, m4, m5⟩ := mb
  refine va_runV S hM (cwV n S.2.2.2.2 (bg_gi ?_) rfl rfl rfl ⟨rfl, m3, m4, m5⟩ ⟨hR1, hR2⟩) ⟨q_preX_blind, hrec, fun U hU hW => ⟨rfl, q_atX hG hK hN hP hD hS hA isC hC hnd hU hW⟩⟩ rfl hn hsize hstk (lv_room hcat) hdg hc
  intro w hw
  rcases List.mem_append.mp hw with hw | hw
  · rcases List.mem_cons.mp hw with rfl | hw
    · exact hl
    rcases List.mem_cons.mp hw with rfl | hw
    · exact v1
    rcases List.mem_cons.mp hw with rfl | hw
    · exact v2
    rcases List.mem_cons.mp hw with rfl | hw
    · exact m2
    exact absurd hw List.not_mem_nil
  · exact bg_gc m1 w hw
/-- a virtual call of a class here -/
theorem q_rvY (S : CallFix p m c cc nL s args bg own) (hG : q_str adK adV A s s.heap) (hK : va_K D vwCl (q_tys cI cZ) s) (hN : q_N s) (hP : va_P D vwCl ws H) (hD : va_D A ws) (hS : va_S A s.heap H locs) (hA : ∀ q, s.heap.size ≤ q → A q)
    (hM : Met l y (Cond.code y cy ny ret :: bg) { frames := fr, cells := 0, slots := 0, locals := lo } (va_Pc (.ref b :: As) (q_preX adK adV D cI cZ H.size wc)) Qc 0 0 (va_A wc H.size))
    (mb : q_mb y cy ny ret n) (mv : q_mv y ci) (hl : Cond.methodLink own index y ∈ bg) (isC : List Nat) (hC : isC.map (fun i => ws[i]?) = wc.map some) (hnd : va_nd isC = true) (hw : wc[0]? = some (b, .inr (ci, fs)))
    (hR1 : fr + 1 ≤ R.frames) (hR2 : 8 + (ny + 11) + lo ≤ R.locals) (hn : As.length = n) (hsize : ls.size = nL) (hstk : st = As.reverse ++ .ref b :: rest) (hcat : (rest.map fun v => v.category).sum ≤ 8) (hc : cells ≤ R.cells ∧ slots ≤ R.slots) (hdg : decode cc pc = .ok (.invokevirtual index, 3)) :
    va_Run p l e R s m args below meth c H locs cells slots 0 0 (F0 m pc ls st) rest (Qc (Value.ref b :: As).toArray) (va_A wc H.size) := by
  obtain ⟨v1, v2, q, v3, v4⟩ := mv
  have hPc : va_P D vwCl wc H := fun k q hq => by
    obtain ⟨i, _, h2⟩ := q_pick hC k q hq
    exact hP i q h2
  exact q_rvX S hG hK hN hP hD hS hA hM mb v1 v2 (by rw [← v4]; exact va_recv hK hPc v3 hw) hl isC hC hnd hR1 hR2 hn hsize hstk hcat hc hdg
theorem q_rsX (S : CallFix p m c cc nL s args bg own) (hG : q_str adK adV A s s.heap) (hK : va_K D vwCl (q_tys cI cZ) s) (hN : q_N s) (hP : va_P D vwCl ws H) (hD : va_D A ws) (hS : va_S A s.heap H locs) (hA : ∀ q, s.heap.size ≤ q → A q)
    (hM : Met l y (Cond.code y cy ny ret :: bg) { frames := fr, cells := 0, slots := 0, locals := lo } (va_Pc As (q_preX adK adV D cI cZ H.size wc)) Qc 0 0 (va_A wc H.size))
    (mb : q_mb y cy ny ret n) (mt : Cond.static y ∈ bg) (hl : Cond.methodLink own index y ∈ bg) (isC : List Nat) (hC : isC.map (fun i => ws[i]?) = wc.map some) (hnd : va_nd isC = true)
    (hR1 : fr + 1 ≤ R.frames) (hR2 : 8 + (ny + 11) + lo ≤ R.locals) (hn : As.length = n) (hsize : ls.size = nL) (hstk : st = As.reverse ++ rest) (hcat : (rest.map fun v => v.category).sum ≤ 8) (hc : cells ≤ R.cells ∧ slots ≤ R.slots) (hdg : decode cc pc = .ok (.invokestatic index, 3)) :
    va_Run p l e R s m args below meth c H locs cells slots 0 0 (F0 m pc ls st) rest (Qc As.toArray) (va_A wc H.size) := by
  obtain ⟨m1, m2, m3, m4, m5⟩ := mb
  refine va_runS S hM (va_cwS n S.2.2.2.2 (bg_gi ?_) rfl rfl rfl ⟨m3, m4, m5⟩ ⟨hR1, hR2⟩) ⟨q_preX_blind, fun U hU hW => ⟨rfl, q_atX hG hK hN hP hD hS hA isC hC hnd hU hW⟩⟩ rfl hn hsize hstk (lv_room hcat) hdg hc
  intro w hw
  rcases List.mem_append.mp hw with hw | hw
  · rcases List.mem_cons.mp hw with rfl | hw
    · exact hl
    rcases List.mem_cons.mp hw with rfl | hw
    · exact mt
    rcases List.mem_cons.mp hw with rfl | hw
    · exact m2
    exact absurd hw List.not_mem_nil
  · exact bg_gc m1 w hw
theorem q_tret {v : Int32} {ty : FieldType} (hx : p.tables.exec = Jvm.exec) (hb : c.code = cc) (hr : meth.sig.returnType = some ty) (hlocks : meth.locks = false) (hz : narrow ty (.int v) = .int v) (hP : va_P D vwCl w1 H) (hS : va_S A s.heap H locs) (hdg : decode cc pc = .ok (.ireturn, 1)) : W p l e R s m args below meth c H locs cells slots (MQ below (q_Qi D w1 v A) args s cells slots A) (F0 m pc ls [.int v]) :=
  W.zret hx hb hr hz (fun t ht hW => ⟨⟨v, (), rfl, rfl, (show va_P D vwCl w1 t.heap by rw [ht]; exact hP)⟩, hS.F ht⟩) hS.2.2 hdg hlocks
theorem q_aret {r0 a : Nat} {rt : FieldType} (hx : p.tables.exec = Jvm.exec) (hb : c.code = cc) (hr : meth.sig.returnType = some rt) (hrt : (∃ n, rt = .object n) ∨ ∃ t, rt = .array t) (hlocks : meth.locks = false) (he : a = r0) (hP : va_P D vwCl w1 H) (hS : va_S A s.heap H locs) (hdg : decode cc pc = .ok (.areturn, 1)) : W p l e R s m args below meth c H locs cells slots (MQ below (q_Qr D w1 r0 A) args s cells slots A) (F0 m pc ls [.ref a]) :=
  W.aret hx hb hr hrt (Or.inr ⟨a, rfl⟩) (fun t ht hW => ⟨⟨(), a, rfl, trivial, he, (show va_P D vwCl w1 t.heap by rw [ht]; exact hP)⟩, hS.F ht⟩) hS.2.2 hdg hlocks
end QX
theorem mb_J0_coder : q_mb yJ0_coder_7d493 cJ0_coder_7d493 1 (some .byte) 0 := ⟨wc_J0_coder_7d493, wn_J0, by decide, by decide, by decide +kernel⟩
theorem mb_J0_length : q_mb yJ0_length_8abf5 cJ0_length_8abf5 1 (some .int) 0 := ⟨wc_J0_length_8abf5, wn_J0, by decide, by decide, by decide +kernel⟩
theorem mb_J0_isLatin1 : q_mb yJ0_isLatin1_aae02 cJ0_isLatin1_aae02 1 (some .boolean) 0 := ⟨wc_J0_isLatin1_aae02, wn_J0, by decide, by decide, by decide +kernel⟩
theorem mb_J0_checkIndex : q_mb yJ0_checkIndex_df160 cJ0_checkIndex_df160 2 none 2 := ⟨wc_J0_checkIndex_df160, wn_J0, by decide, by decide, by decide +kernel⟩
theorem mb_J0_charAt : q_mb yJ0_charAt_5068e cJ0_charAt_5068e 2 (some .char) 1 := ⟨wc_J0_charAt_5068e, wn_J0, by decide, by decide, by decide +kernel⟩
theorem mb_J1_charAt : q_mb yJ1_charAt_3b067 cJ1_charAt_3b067 2 (some .char) 2 := ⟨wc_J1_charAt_3b067, wn_J1, by decide, by decide, by decide +kernel⟩
theorem mb_J3_checkIndex : q_mb yJ3_checkIndex_8e157 cJ3_checkIndex_8e157 3 (some .int) 3 := ⟨wc_J3_checkIndex_8e157, wn_J3, by decide, by decide, by decide +kernel⟩
set_option maxHeartbeats 4000000 in
set_option maxRecDepth 100000 in
theorem c_J0_coder (l : Launch) (adK adV : Nat → Nat) (D : va_G) (cI cZ : ClassId) (sz : Nat) (i : Nat) (hi : i < 5) : Met l yJ0_coder_7d493 (Cond.code yJ0_coder_7d493 cJ0_coder_7d493 1 (some .byte) :: bg) { frames := 0, cells := 0, slots := 0, locals := 0 } (va_Pc [.ref (adK i)] (q_preX adK adV D cI cZ sz [])) (q_Qi D [] 0 (va_A [] sz)) 0 0 (va_A [] sz) := by
  refine q_metX (fun A => q_Qi D [] 0 A) (by decide) (Nat.le_of_ble_eq_true rfl) ?_
  intro p e s m below meth c ls A hx hb hr hml hown hts hlocks _ hA hS hP hD hK hN hl hG
  have hown : s.vm.findClass RJ0 = some m.cls := hown
  have hl : lv_has ls 1 [(0, .ref (adK i))] := hl
  refine q_gen hS hP ?_
  intro H locs hP hS
  refine va_gets (v := .int 1) hx hb hG.2.1 hS hown (hts _ wf_J0_38) (fun _ h => h) dJ0_coder_7d493_0 ?_
  refine lv_if_eq (tgt := 13) hx hb dJ0_coder_7d493_3 (by decide) (fun c => absurd c (by decide)) (fun _ => ?_)
  refine lv_aload_n hx hb dJ0_coder_7d493_6 rfl (lv_at hl 0 rfl) ?_
  refine vk_getf (v := .int 0) hx hb (hG.1.1 i hi).2.1 hS hown (hts _ wf_J0_15) (fun _ h => h) dJ0_coder_7d493_7 ?_
  refine lv_goto (tgt := 14) hx hb dJ0_coder_7d493_10 (by decide) ?_
  exact q_tret hx hb hr hlocks rfl hP hS dJ0_coder_7d493_14
set_option maxHeartbeats 4000000 in
set_option maxRecDepth 100000 in
theorem c_J0_length (l : Launch) (adK adV : Nat → Nat) (D : va_G) (cI cZ : ClassId) (sz : Nat) (i : Nat) (hi : i < 5) : Met l yJ0_length_8abf5 (Cond.code yJ0_length_8abf5 cJ0_length_8abf5 1 (some .int) :: bg) { frames := 1, cells := 0, slots := 0, locals := 20 } (va_Pc [.ref (adK i)] (q_preX adK adV D cI cZ sz [])) (q_Qi D [] (Int32.ofNat (q_len i)) (va_A [] sz)) 0 0 (va_A [] sz) := by
  refine q_metX (fun A => q_Qi D [] (Int32.ofNat (q_len i)) A) (by decide) (Nat.le_of_ble_eq_true rfl) ?_
  intro p e s m below meth c ls A hx hb hr hml hown hts hlocks _ hA hS hP hD hK hN hl hG
  have hown : s.vm.findClass RJ0 = some m.cls := hown
  have hl : lv_has ls 1 [(0, .ref (adK i))] := hl
  refine q_gen hS hP ?_
  intro H locs hP hS
  refine lv_aload_n hx hb dJ0_length_8abf5_0 rfl (lv_at hl 0 rfl) ?_
  refine vk_getf (v := .ref (adV i)) hx hb (hG.1.1 i hi).2.2.1 hS hown (hts _ wf_J0_9) (fun _ h => h) dJ0_length_8abf5_1 ?_
  refine va_tlen (v := Int32.ofNat (q_len i)) hx hb (hG.1.1 i hi).2.2.2 hS rfl dJ0_length_8abf5_4 ?_
  refine lv_aload_n hx hb dJ0_length_8abf5_5 rfl (lv_at hl 0 rfl) ?_
  refine q_ci (q_rvX (rest := [.int (Int32.ofNat (q_len i))]) ⟨hx, hb, hml, hown, hts⟩ hG hK hN hP hD hS hA (c_J0_coder l adK adV D cI cZ H.size i hi) mb_J0_coder wi_J0_coder_7d493 ws_J0_coder_7d493 (vk_recv hG.1 hi hS) wl_J0_335 [] rfl rfl (Nat.le_of_ble_eq_true rfl) (Nat.le_of_ble_eq_true rfl) rfl hl.1 rfl (Nat.le_of_ble_eq_true rfl) ⟨Nat.le_refl 0, Nat.le_refl 0⟩ dJ0_length_8abf5_6) hP hD hS hA [] rfl rfl (fun H locs hP hD hS => ?_)
  have hP : va_P D vwCl [] H := hP
  refine lv_ishr hx hb dJ0_length_8abf5_9 ?_
  rw [sb_shr0]
  exact q_iret hx hb hr hlocks hP hS dJ0_length_8abf5_10
set_option maxHeartbeats 4000000 in
set_option maxRecDepth 100000 in
theorem c_J0_isLatin1 (l : Launch) (adK adV : Nat → Nat) (D : va_G) (cI cZ : ClassId) (sz : Nat) (i : Nat) (hi : i < 5) : Met l yJ0_isLatin1_aae02 (Cond.code yJ0_isLatin1_aae02 cJ0_isLatin1_aae02 1 (some .boolean) :: bg) { frames := 0, cells := 0, slots := 0, locals := 0 } (va_Pc [.ref (adK i)] (q_preX adK adV D cI cZ sz [])) (q_Qi D [] 1 (va_A [] sz)) 0 0 (va_A [] sz) := by
  refine q_metX (fun A => q_Qi D [] 1 A) (by decide) (Nat.le_of_ble_eq_true rfl) ?_
  intro p e s m below meth c ls A hx hb hr hml hown hts hlocks _ hA hS hP hD hK hN hl hG
  have hown : s.vm.findClass RJ0 = some m.cls := hown
  have hl : lv_has ls 1 [(0, .ref (adK i))] := hl
  refine q_gen hS hP ?_
  intro H locs hP hS
  refine va_gets (v := .int 1) hx hb hG.2.1 hS hown (hts _ wf_J0_38) (fun _ h => h) dJ0_isLatin1_aae02_0 ?_
  refine lv_if_eq (tgt := 17) hx hb dJ0_isLatin1_aae02_3 (by decide) (fun c => absurd c (by decide)) (fun _ => ?_)
  refine lv_aload_n hx hb dJ0_isLatin1_aae02_6 rfl (lv_at hl 0 rfl) ?_
  refine vk_getf (v := .int 0) hx hb (hG.1.1 i hi).2.1 hS hown (hts _ wf_J0_15) (fun _ h => h) dJ0_isLatin1_aae02_7 ?_
  refine lv_if_ne (tgt := 17) hx hb dJ0_isLatin1_aae02_10 (by decide) (fun c => absurd rfl c) (fun _ => ?_)
  refine lv_iconst (v := 1) hx hb dJ0_isLatin1_aae02_13 (by decide) ?_
  refine lv_goto (tgt := 18) hx hb dJ0_isLatin1_aae02_14 (by decide) ?_
  exact q_tret hx hb hr hlocks rfl hP hS dJ0_isLatin1_aae02_18
set_option maxHeartbeats 4000000 in
set_option maxRecDepth 100000 in
theorem c_J3_checkIndex (l : Launch) (D : va_G) (cI cZ : ClassId) (sz : Nat) (p0 p1 : Int32) (v : Value) (hv : v = .null ∨ ∃ a, v = .ref a) (h0 : ¬ p0 < 0) (h1 : p0 < p1) : Met l yJ3_checkIndex_8e157 (Cond.code yJ3_checkIndex_8e157 cJ3_checkIndex_8e157 3 (some .int) :: bg) { frames := 0, cells := 0, slots := 0, locals := 0 } (va_Pc [.int p0, .int p1, v] (q_pre D cI cZ sz [])) (q_Qi D [] p0 (va_A [] sz)) 0 0 (va_A [] sz) := by
  refine q_met (fun A => q_Qi D [] p0 A) (by decide) (by rcases hv with rfl | ⟨a, rfl⟩ <;> exact Nat.le_of_ble_eq_true rfl) ?_
  intro p e s m below meth c ls A hx hb hr hml hown hts hlocks _ hA hS hP hD hK hN hl
  have hl : lv_has ls 3 [(0, .int p0), (1, .int p1)] := by rcases hv with rfl | ⟨a, rfl⟩ <;> exact lv_sub hl [0, 1] rfl
  refine q_gen hS hP ?_
  intro H locs hP hS
  refine lv_iload_n hx hb dJ3_checkIndex_8e157_0 rfl (lv_at hl 0 rfl) ?_
  refine lv_if_lt (tgt := 9) hx hb dJ3_checkIndex_8e157_1 (by decide) (fun c => absurd c h0) (fun _ => ?_)
  refine lv_iload_n hx hb dJ3_checkIndex_8e157_4 rfl (lv_at hl 0 rfl) ?_
  refine lv_iload_n hx hb dJ3_checkIndex_8e157_5 rfl (lv_at hl 1 rfl) ?_
  refine lv_icmp_lt (tgt := 16) hx hb dJ3_checkIndex_8e157_6 (by decide) (fun _ => ?_) (fun c => absurd h1 c)
  refine lv_iload_n hx hb dJ3_checkIndex_8e157_16 rfl (lv_at hl 0 rfl) ?_
  exact q_iret hx hb hr hlocks hP hS dJ3_checkIndex_8e157_17
set_option maxHeartbeats 4000000 in
set_option maxRecDepth 100000 in
theorem c_J0_checkIndex (l : Launch) (adK adV : Nat → Nat) (D : va_G) (cI cZ : ClassId) (sz : Nat) (p0 p1 : Int32) (h0 : ¬ p0 < 0) (h1 : p0 < p1) : Met l yJ0_checkIndex_df160 (Cond.code yJ0_checkIndex_df160 cJ0_checkIndex_df160 2 none :: bg) { frames := 1, cells := 0, slots := 0, locals := 22 } (va_Pc [.int p0, .int p1] (q_preX adK adV D cI cZ sz [])) (q_Qv D [] (va_A [] sz)) 0 0 (va_A [] sz) := by
  refine q_metX (fun A => q_Qv D [] A) (by decide) (Nat.le_of_ble_eq_true rfl) ?_
  intro p e s m below meth c ls A hx hb hr hml hown hts hlocks _ hA hS hP hD hK hN hl hG
  have hown : s.vm.findClass RJ0 = some m.cls := hown
  have hl : lv_has ls 2 [(0, .int p0), (1, .int p1)] := hl
  refine q_gen hS hP ?_
  intro H locs hP hS
  refine lv_iload_n hx hb dJ0_checkIndex_df160_0 rfl (lv_at hl 0 rfl) ?_
  refine lv_iload_n hx hb dJ0_checkIndex_df160_1 rfl (lv_at hl 1 rfl) ?_
  obtain ⟨v, hv, hZ⟩ := hG.2.2.1
  refine va_gets (v := v) hx hb hZ hS hown (hts _ wf_J0_1053) (fun _ h => h) dJ0_checkIndex_df160_2 ?_
  refine q_ci (q_rs (rest := []) (As := [.int p0, .int p1, v]) ⟨hx, hb, hml, hown, hts⟩ hK hN hP hD (c_J3_checkIndex l D cI cZ H.size p0 p1 v hv h0 h1) mb_J3_checkIndex wt_J3_checkIndex_8e157 wl_J0_1059 [] rfl rfl (Nat.le_of_ble_eq_true rfl) (Nat.le_of_ble_eq_true rfl) rfl hl.1 rfl (Nat.le_of_ble_eq_true rfl) ⟨Nat.le_refl 0, Nat.le_refl 0⟩ dJ0_checkIndex_df160_5) hP hD hS hA [] rfl rfl (fun H locs hP hD hS => ?_)
  have hP : va_P D vwCl [] H := hP
  refine lv_pop hx hb dJ0_checkIndex_df160_8 rfl ?_
  exact q_vret hx hb hr hlocks hP hS dJ0_checkIndex_df160_9
theorem q_inlen {i : Nat} {k : Int32} (hi : i < 5) (hk : vp_in k (q_len i)) : ¬ k < 0 ∧ k < Int32.ofNat (q_len i) ∧ k.toNatClampNeg < q_len i := by
  have hq : q_len i < 2 ^ 31 := by
    have : ∀ i, i < 5 → q_len i < 2 ^ 31 := by decide +kernel
    exact this i hi
  obtain ⟨j, hj, rfl⟩ := vp_in_of hk hq
  refine ⟨nI_pos (by omega), nI_lt hj hq, ?_⟩
  rw [nI_clamp (by omega)]
  exact hj
set_option maxHeartbeats 4000000 in
set_option maxRecDepth 100000 in
theorem c_J1_charAt (l : Launch) (adK adV : Nat → Nat) (D : va_G) (cI cZ : ClassId) (sz : Nat) (i : Nat) (hi : i < 5) (k : Int32) (hk : vp_in k (q_len i)) : Met l yJ1_charAt_3b067 (Cond.code yJ1_charAt_3b067 cJ1_charAt_3b067 2 (some .char) :: bg) { frames := 2, cells := 0, slots := 0, locals := 43 } (va_Pc [.ref (adV i), .int k] (q_preX adK adV D cI cZ sz [])) (q_Qi D [] (q_ch i k.toNatClampNeg) (va_A [] sz)) 0 0 (va_A [] sz) := by
  refine q_metX (fun A => q_Qi D [] (q_ch i k.toNatClampNeg) A) (by decide) (Nat.le_of_ble_eq_true rfl) ?_
  intro p e s m below meth c ls A hx hb hr hml hown hts hlocks _ hA hS hP hD hK hN hl hG
  have hown : s.vm.findClass RJ1 = some m.cls := hown
  have hl : lv_has ls 2 [(0, .ref (adV i)), (1, .int k)] := hl
  obtain ⟨k0, k1, k2⟩ := q_inlen hi hk
  obtain ⟨e1, e2⟩ := q_ch_ok i hi _ k2
  refine q_gen hS hP ?_
  intro H locs hP hS
  refine lv_iload_n hx hb dJ1_charAt_3b067_0 rfl (lv_at hl 1 rfl) ?_
  refine lv_aload_n hx hb dJ1_charAt_3b067_1 rfl (lv_at hl 0 rfl) ?_
  refine va_tlen (v := Int32.ofNat (q_len i)) hx hb (hG.1.1 i hi).2.2.2 hS rfl dJ1_charAt_3b067_2 ?_
  refine q_cv (q_rsX (rest := []) ⟨hx, hb, hml, hown, hts⟩ hG hK hN hP hD hS hA (c_J0_checkIndex l adK adV D cI cZ H.size k (Int32.ofNat (q_len i)) k0 k1) mb_J0_checkIndex wt_J0_checkIndex_df160 wl_J1_9 [] rfl rfl (Nat.le_of_ble_eq_true rfl) (Nat.le_of_ble_eq_true rfl) rfl hl.1 rfl (Nat.le_of_ble_eq_true rfl) ⟨Nat.le_refl 0, Nat.le_refl 0⟩ dJ1_charAt_3b067_3) hP hD hS hA [] rfl rfl (fun H locs hP hD hS => ?_)
  have hP : va_P D vwCl [] H := hP
  refine lv_aload_n hx hb dJ1_charAt_3b067_6 rfl (lv_at hl 0 rfl) ?_
  refine lv_iload_n hx hb dJ1_charAt_3b067_7 rfl (lv_at hl 1 rfl) ?_
  refine va_tb (v := .int (q_ch i k.toNatClampNeg)) hx hb (hG.1.1 i hi).2.2.2 hS hk rfl dJ1_charAt_3b067_8 ?_
  refine lv_sipush (v := 255) hx hb dJ1_charAt_3b067_9 (by decide) ?_
  refine lv_iand hx hb dJ1_charAt_3b067_12 ?_
  rw [e1]
  refine lv_i2c (v := q_ch i k.toNatClampNeg) hx hb dJ1_charAt_3b067_13 e2 ?_
  exact q_tret hx hb hr hlocks (by rw [← e1]; exact sc_nar _) hP hS dJ1_charAt_3b067_14
set_option maxHeartbeats 4000000 in
set_option maxRecDepth 100000 in
theorem c_J0_charAt (l : Launch) (adK adV : Nat → Nat) (D : va_G) (cI cZ : ClassId) (sz : Nat) (i : Nat) (hi : i < 5) (k : Int32) (hk : vp_in k (q_len i)) : Met l yJ0_charAt_5068e (Cond.code yJ0_charAt_5068e cJ0_charAt_5068e 2 (some .char) :: bg) { frames := 3, cells := 0, slots := 0, locals := 64 } (va_Pc [.ref (adK i), .int k] (q_preX adK adV D cI cZ sz [])) (q_Qi D [] (q_ch i k.toNatClampNeg) (va_A [] sz)) 0 0 (va_A [] sz) := by
  refine q_metX (fun A => q_Qi D [] (q_ch i k.toNatClampNeg) A) (by decide) (Nat.le_of_ble_eq_true rfl) ?_
  intro p e s m below meth c ls A hx hb hr hml hown hts hlocks _ hA hS hP hD hK hN hl hG
  have hown : s.vm.findClass RJ0 = some m.cls := hown
  have hl : lv_has ls 2 [(0, .ref (adK i)), (1, .int k)] := hl
  obtain ⟨k0, k1, k2⟩ := q_inlen hi hk
  obtain ⟨e1, e2⟩ := q_ch_ok i hi _ k2
  refine q_gen hS hP ?_
  intro H locs hP hS
  refine lv_aload_n hx hb dJ0_charAt_5068e_0 rfl (lv_at hl 0 rfl) ?_
  refine q_ci (q_rvX (rest := []) ⟨hx, hb, hml, hown, hts⟩ hG hK hN hP hD hS hA (c_J0_isLatin1 l adK adV D cI cZ H.size i hi) mb_J0_isLatin1 wi_J0_isLatin1_aae02 ws_J0_isLatin1_aae02 (vk_recv hG.1 hi hS) wl_J0_492 [] rfl rfl (Nat.le_of_ble_eq_true rfl) (Nat.le_of_ble_eq_true rfl) rfl hl.1 rfl (Nat.le_of_ble_eq_true rfl) ⟨Nat.le_refl 0, Nat.le_refl 0⟩ dJ0_charAt_5068e_1) hP hD hS hA [] rfl rfl (fun H locs hP hD hS => ?_)
  have hP : va_P D vwCl [] H := hP
  have hD : va_D A [] := hD
  refine lv_if_eq (tgt := 16) hx hb dJ0_charAt_5068e_4 (by decide) (fun c => absurd c (by decide)) (fun _ => ?_)
  refine lv_aload_n hx hb dJ0_charAt_5068e_7 rfl (lv_at hl 0 rfl) ?_
  refine vk_getf (v := .ref (adV i)) hx hb (hG.1.1 i hi).2.2.1 hS hown (hts _ wf_J0_9) (fun _ h => h) dJ0_charAt_5068e_8 ?_
  refine lv_iload_n hx hb dJ0_charAt_5068e_11 rfl (lv_at hl 1 rfl) ?_
  refine q_ci (q_rsX (rest := []) ⟨hx, hb, hml, hown, hts⟩ hG hK hN hP hD hS hA (c_J1_charAt l adK adV D cI cZ H.size i hi k hk) mb_J1_charAt wt_J1_charAt_3b067 wl_J0_495 [] rfl rfl (Nat.le_of_ble_eq_true rfl) (Nat.le_of_ble_eq_true rfl) rfl hl.1 rfl (Nat.le_of_ble_eq_true rfl) ⟨Nat.le_refl 0, Nat.le_refl 0⟩ dJ0_charAt_5068e_12) hP hD hS hA [] rfl rfl (fun H locs hP hD hS => ?_)
  have hP : va_P D vwCl [] H := hP
  exact q_tret hx hb hr hlocks (by rw [← e1]; exact sc_nar _) hP hS dJ0_charAt_5068e_15
