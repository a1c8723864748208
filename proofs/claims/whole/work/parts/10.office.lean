theorem gf_X4_20 {p : Program} {l : Launch} {e : Env} {R : Room} {s : State} {m : MethodId} {args : Array Value} {below : List Frame} {meth : Method} {c : Code} {H : Heap} {locs : List Loc} {cells slots : Nat} {Q : State → Prop} {pc : Nat} {ls : Array Slot} {cc : ByteArray} {D : va_G} {cI cZ : ClassId} {ws : va_W} {a : Nat} {rest fs : List Value} (hx : p.tables.exec = Jvm.exec) (hb : c.code = cc) (hts : ∀ w ∈ bg, w.before args s = true) (hown : s.vm.findClass RX4 = some m.cls) (hK : va_K D vwCl (q_tys cI cZ) s) (hN : q_N s) (hP : va_P D vwCl ws H) (q0 : Nat) (he : ws[q0]? = some (a, .inr (4, fs))) {v : Value} (hv : fs[1]? = some v) (hdg : decode cc pc = .ok (.getfield 20, 3)) (kk : W p l e R s m args below meth c H locs cells slots Q (F0 m (pc + 3) ls (v :: rest))) : W p l e R s m args below meth c H locs cells slots Q (F0 m pc ls (.ref a :: rest)) :=
  va_get (C := RX4) (T := TX4) (N := 7) hx hb hts wu_X4 hown hK hP q0 he rfl 1 (by decide) (hts _ wf_X4_20) (fun _ h9 => h9) hv hdg kk
theorem mb_X4_toldBy : q_mb yX4_toldBy cX4_toldBy 3 (some .int) 2 := ⟨wc_X4_toldBy, wn_X4, by decide, by decide, by decide +kernel⟩
theorem mv_X4_toldBy : q_mv yX4_toldBy 4 := ⟨wi_X4_toldBy, ws_X4_toldBy, _, rfl, rfl⟩
def wd_X4_toldBy (cI cZ : ClassId) (AT AT_sl AT_fl AT_ro AT_nt AT_mk AT_mo AT_fl_c : Nat) (vT_ng : Int32) (vT_fl_n : Int32) (fT_fl_c : Nat → Int32) : va_W := [(AT, .inr (4, [.ref AT_sl, .ref AT_fl, .ref AT_ro, .ref AT_nt, .ref AT_mk, .ref AT_mo, .int vT_ng])), (AT_fl, .inr (3, [.int 3, .ref AT_fl_c, .int vT_fl_n])), (AT_fl_c, .inl (cI, 18, .inl fT_fl_c))]
def fm_X4_toldBy (p1 : Int32) (p2 : Int32) (vT_fl_n : Int32) (fT_fl_c : Nat → Int32) : Option (Int32) := Option.bind (fm_X3_cell 3 18 p1 0 vT_fl_n fT_fl_c) (fun r_6 => Option.bind (fm_X3_cell 3 18 p1 1 vT_fl_n fT_fl_c) (fun r_15 => Option.bind (fm_X7_loudness r_6 r_15 p2) (fun r_19 => some (r_19))))
set_option maxHeartbeats 4000000 in
set_option maxRecDepth 100000 in
theorem c_X4_toldBy (l : Launch) (D : va_G) (cI cZ : ClassId) (sz : Nat) (AT AT_sl AT_fl AT_ro AT_nt AT_mk AT_mo AT_fl_c : Nat) (vT_ng : Int32) (vT_fl_n : Int32) (fT_fl_c : Nat → Int32) (p1 : Int32) (p2 : Int32) (out : (Int32)) (hm : fm_X4_toldBy p1 p2 vT_fl_n fT_fl_c = some out) : Met l yX4_toldBy (Cond.code yX4_toldBy cX4_toldBy 3 (some .int) :: bg) { frames := 1, cells := 0, slots := 0, locals := 25 } (va_Pc [.ref AT, .int p1, .int p2] (q_pre D cI cZ sz (wd_X4_toldBy cI cZ AT AT_sl AT_fl AT_ro AT_nt AT_mk AT_mo AT_fl_c vT_ng vT_fl_n fT_fl_c))) (q_Qi D (wd_X4_toldBy cI cZ AT AT_sl AT_fl AT_ro AT_nt AT_mk AT_mo AT_fl_c vT_ng vT_fl_n fT_fl_c) out (va_A (wd_X4_toldBy cI cZ AT AT_sl AT_fl AT_ro AT_nt AT_mk AT_mo AT_fl_c vT_ng vT_fl_n fT_fl_c) sz)) 0 0 (va_A (wd_X4_toldBy cI cZ AT AT_sl AT_fl AT_ro AT_nt AT_mk AT_mo AT_fl_c vT_ng vT_fl_n fT_fl_c) sz) := by
  refine q_met (fun A => q_Qi D (wd_X4_toldBy cI cZ AT AT_sl AT_fl AT_ro AT_nt AT_mk AT_mo AT_fl_c vT_ng vT_fl_n fT_fl_c) out A) (by decide) (Nat.le_of_ble_eq_true rfl) ?_
  intro p e s m below meth c ls A hx hb hr hml hown hts hlocks _ hA hS hP hD hK hN hl
  have hown : s.vm.findClass RX4 = some m.cls := hown
  have hl : lv_has ls 3 [(0, .ref AT), (1, .int p1), (2, .int p2)] := hl
  unfold fm_X4_toldBy at hm
  refine q_gen hS hP ?_
  intro H locs hP hS
  refine lv_aload_n hx hb dX4_toldBy_0 rfl (lv_at hl 0 rfl) ?_
  refine gf_X4_20 (v := .ref AT_fl) hx hb hts hown hK hN hP 0 rfl rfl dX4_toldBy_1 ?_
  refine lv_iload_n hx hb dX4_toldBy_4 rfl (lv_at hl 1 rfl) ?_
  refine lv_iconst (v := 0) hx hb dX4_toldBy_5 (by decide) ?_
  obtain ⟨r_6, hc_6, hm⟩ := ob_s hm
  refine q_ci (q_rv (rest := []) ⟨hx, hb, hml, hown, hts⟩ hK hN hP hD (c_X3_cell l D cI cZ H.size AT_fl AT_fl_c 3 18 vT_fl_n fT_fl_c p1 0 r_6 hc_6) mb_X3_cell mv_X3_cell wl_X4_58 [1, 2] rfl rfl rfl (Nat.le_of_ble_eq_true rfl) (Nat.le_of_ble_eq_true rfl) rfl hl.1 rfl (Nat.le_of_ble_eq_true rfl) ⟨Nat.le_refl 0, Nat.le_refl 0⟩ dX4_toldBy_6) hP hD hS hA [1, 2] rfl rfl (fun H locs hP hD hS => ?_)
  have hP : va_P D vwCl (wd_X4_toldBy cI cZ AT AT_sl AT_fl AT_ro AT_nt AT_mk AT_mo AT_fl_c vT_ng vT_fl_n fT_fl_c) H := hP
  have hD : va_D A (wd_X4_toldBy cI cZ AT AT_sl AT_fl AT_ro AT_nt AT_mk AT_mo AT_fl_c vT_ng vT_fl_n fT_fl_c) := hD
  refine lv_aload_n hx hb dX4_toldBy_9 rfl (lv_at hl 0 rfl) ?_
  refine gf_X4_20 (v := .ref AT_fl) hx hb hts hown hK hN hP 0 rfl rfl dX4_toldBy_10 ?_
  refine lv_iload_n hx hb dX4_toldBy_13 rfl (lv_at hl 1 rfl) ?_
  refine lv_iconst (v := 1) hx hb dX4_toldBy_14 (by decide) ?_
  obtain ⟨r_15, hc_15, hm⟩ := ob_s hm
  refine q_ci (q_rv (rest := [.int r_6]) ⟨hx, hb, hml, hown, hts⟩ hK hN hP hD (c_X3_cell l D cI cZ H.size AT_fl AT_fl_c 3 18 vT_fl_n fT_fl_c p1 1 r_15 hc_15) mb_X3_cell mv_X3_cell wl_X4_58 [1, 2] rfl rfl rfl (Nat.le_of_ble_eq_true rfl) (Nat.le_of_ble_eq_true rfl) rfl hl.1 rfl (Nat.le_of_ble_eq_true rfl) ⟨Nat.le_refl 0, Nat.le_refl 0⟩ dX4_toldBy_15) hP hD hS hA [1, 2] rfl rfl (fun H locs hP hD hS => ?_)
  have hP : va_P D vwCl (wd_X4_toldBy cI cZ AT AT_sl AT_fl AT_ro AT_nt AT_mk AT_mo AT_fl_c vT_ng vT_fl_n fT_fl_c) H := hP
  have hD : va_D A (wd_X4_toldBy cI cZ AT AT_sl AT_fl AT_ro AT_nt AT_mk AT_mo AT_fl_c vT_ng vT_fl_n fT_fl_c) := hD
  refine lv_iload_n hx hb dX4_toldBy_18 rfl (lv_at hl 2 rfl) ?_
  obtain ⟨r_19, hc_19, hm⟩ := ob_s hm
  refine q_ci (q_rn (rest := []) ⟨hx, hb, hml, hown, hts⟩ hK hN hP hD (c_X7_loudness l D cI cZ H.size r_6 r_15 p2 r_19 hc_19) mb_X7_loudness wt_X7_loudness (nl_X4_78 hN) [] rfl rfl (Nat.le_of_ble_eq_true rfl) (Nat.le_of_ble_eq_true rfl) rfl hl.1 rfl (Nat.le_of_ble_eq_true rfl) ⟨Nat.le_refl 0, Nat.le_refl 0⟩ dX4_toldBy_19) hP hD hS hA [] rfl rfl (fun H locs hP hD hS => ?_)
  have hP : va_P D vwCl (wd_X4_toldBy cI cZ AT AT_sl AT_fl AT_ro AT_nt AT_mk AT_mo AT_fl_c vT_ng vT_fl_n fT_fl_c) H := hP
  have hD : va_D A (wd_X4_toldBy cI cZ AT AT_sl AT_fl AT_ro AT_nt AT_mk AT_mo AT_fl_c vT_ng vT_fl_n fT_fl_c) := hD
  have hm := Option.some.inj hm
  subst hm
  exact q_iret (v := r_19) hx hb hr hlocks hP hS dX4_toldBy_22
theorem gf_X4_14 {p : Program} {l : Launch} {e : Env} {R : Room} {s : State} {m : MethodId} {args : Array Value} {below : List Frame} {meth : Method} {c : Code} {H : Heap} {locs : List Loc} {cells slots : Nat} {Q : State → Prop} {pc : Nat} {ls : Array Slot} {cc : ByteArray} {D : va_G} {cI cZ : ClassId} {ws : va_W} {a : Nat} {rest fs : List Value} (hx : p.tables.exec = Jvm.exec) (hb : c.code = cc) (hts : ∀ w ∈ bg, w.before args s = true) (hown : s.vm.findClass RX4 = some m.cls) (hK : va_K D vwCl (q_tys cI cZ) s) (hN : q_N s) (hP : va_P D vwCl ws H) (q0 : Nat) (he : ws[q0]? = some (a, .inr (4, fs))) {v : Value} (hv : fs[0]? = some v) (hdg : decode cc pc = .ok (.getfield 14, 3)) (kk : W p l e R s m args below meth c H locs cells slots Q (F0 m (pc + 3) ls (v :: rest))) : W p l e R s m args below meth c H locs cells slots Q (F0 m pc ls (.ref a :: rest)) :=
  va_get (C := RX4) (T := TX4) (N := 7) hx hb hts wu_X4 hown hK hP q0 he rfl 0 (by decide) (hts _ wf_X4_14) (fun _ h9 => h9) hv hdg kk
theorem mb_X4_believedOf : q_mb yX4_believedOf cX4_believedOf 4 (some .int) 3 := ⟨wc_X4_believedOf, wn_X4, by decide, by decide, by decide +kernel⟩
theorem mv_X4_believedOf : q_mv yX4_believedOf 4 := ⟨wi_X4_believedOf, ws_X4_believedOf, _, rfl, rfl⟩
def wd_X4_believedOf (cI cZ : ClassId) (AT AT_sl AT_fl AT_ro AT_nt AT_mk AT_mo AT_sl_c AT_fl_c : Nat) (vT_ng : Int32) (vT_sl_n : Int32) (fT_sl_c : Nat → Int32) (vT_fl_n : Int32) (fT_fl_c : Nat → Int32) : va_W := [(AT, .inr (4, [.ref AT_sl, .ref AT_fl, .ref AT_ro, .ref AT_nt, .ref AT_mk, .ref AT_mo, .int vT_ng])), (AT_sl, .inr (3, [.int 4, .ref AT_sl_c, .int vT_sl_n])), (AT_sl_c, .inl (cI, 24, .inl fT_sl_c)), (AT_fl, .inr (3, [.int 3, .ref AT_fl_c, .int vT_fl_n])), (AT_fl_c, .inl (cI, 18, .inl fT_fl_c))]
def fm_X4_believedOf (p1 : Int32) (p2 : Int32) (p3 : Int32) (vT_sl_n : Int32) (fT_sl_c : Nat → Int32) (vT_fl_n : Int32) (fT_fl_c : Nat → Int32) : Option (Int32) := Option.bind (fm_X3_cell 4 24 p1 0 vT_sl_n fT_sl_c) (fun r_6 => Option.bind (fm_X4_toldBy p2 p3 vT_fl_n fT_fl_c) (fun r_12 => Option.bind (fm_X3_cell 4 24 p1 2 vT_sl_n fT_sl_c) (fun r_21 => Option.bind (fm_X7_belief r_6 r_12 r_21) (fun r_24 => some (r_24)))))
set_option maxHeartbeats 4000000 in
set_option maxRecDepth 100000 in
theorem c_X4_believedOf (l : Launch) (D : va_G) (cI cZ : ClassId) (sz : Nat) (AT AT_sl AT_fl AT_ro AT_nt AT_mk AT_mo AT_sl_c AT_fl_c : Nat) (vT_ng : Int32) (vT_sl_n : Int32) (fT_sl_c : Nat → Int32) (vT_fl_n : Int32) (fT_fl_c : Nat → Int32) (p1 : Int32) (p2 : Int32) (p3 : Int32) (out : (Int32)) (hm : fm_X4_believedOf p1 p2 p3 vT_sl_n fT_sl_c vT_fl_n fT_fl_c = some out) : Met l yX4_believedOf (Cond.code yX4_believedOf cX4_believedOf 4 (some .int) :: bg) { frames := 2, cells := 0, slots := 0, locals := 47 } (va_Pc [.ref AT, .int p1, .int p2, .int p3] (q_pre D cI cZ sz (wd_X4_believedOf cI cZ AT AT_sl AT_fl AT_ro AT_nt AT_mk AT_mo AT_sl_c AT_fl_c vT_ng vT_sl_n fT_sl_c vT_fl_n fT_fl_c))) (q_Qi D (wd_X4_believedOf cI cZ AT AT_sl AT_fl AT_ro AT_nt AT_mk AT_mo AT_sl_c AT_fl_c vT_ng vT_sl_n fT_sl_c vT_fl_n fT_fl_c) out (va_A (wd_X4_believedOf cI cZ AT AT_sl AT_fl AT_ro AT_nt AT_mk AT_mo AT_sl_c AT_fl_c vT_ng vT_sl_n fT_sl_c vT_fl_n fT_fl_c) sz)) 0 0 (va_A (wd_X4_believedOf cI cZ AT AT_sl AT_fl AT_ro AT_nt AT_mk AT_mo AT_sl_c AT_fl_c vT_ng vT_sl_n fT_sl_c vT_fl_n fT_fl_c) sz) := by
  refine q_met (fun A => q_Qi D (wd_X4_believedOf cI cZ AT AT_sl AT_fl AT_ro AT_nt AT_mk AT_mo AT_sl_c AT_fl_c vT_ng vT_sl_n fT_sl_c vT_fl_n fT_fl_c) out A) (by decide) (Nat.le_of_ble_eq_true rfl) ?_
  intro p e s m below meth c ls A hx hb hr hml hown hts hlocks _ hA hS hP hD hK hN hl
  have hown : s.vm.findClass RX4 = some m.cls := hown
  have hl : lv_has ls 4 [(0, .ref AT), (1, .int p1), (2, .int p2), (3, .int p3)] := hl
  unfold fm_X4_believedOf at hm
  refine q_gen hS hP ?_
  intro H locs hP hS
  refine lv_aload_n hx hb dX4_believedOf_0 rfl (lv_at hl 0 rfl) ?_
  refine gf_X4_14 (v := .ref AT_sl) hx hb hts hown hK hN hP 0 rfl rfl dX4_believedOf_1 ?_
  refine lv_iload_n hx hb dX4_believedOf_4 rfl (lv_at hl 1 rfl) ?_
  refine lv_iconst (v := 0) hx hb dX4_believedOf_5 (by decide) ?_
  obtain ⟨r_6, hc_6, hm⟩ := ob_s hm
  refine q_ci (q_rv (rest := []) ⟨hx, hb, hml, hown, hts⟩ hK hN hP hD (c_X3_cell l D cI cZ H.size AT_sl AT_sl_c 4 24 vT_sl_n fT_sl_c p1 0 r_6 hc_6) mb_X3_cell mv_X3_cell wl_X4_58 [1, 2] rfl rfl rfl (Nat.le_of_ble_eq_true rfl) (Nat.le_of_ble_eq_true rfl) rfl hl.1 rfl (Nat.le_of_ble_eq_true rfl) ⟨Nat.le_refl 0, Nat.le_refl 0⟩ dX4_believedOf_6) hP hD hS hA [1, 2] rfl rfl (fun H locs hP hD hS => ?_)
  have hP : va_P D vwCl (wd_X4_believedOf cI cZ AT AT_sl AT_fl AT_ro AT_nt AT_mk AT_mo AT_sl_c AT_fl_c vT_ng vT_sl_n fT_sl_c vT_fl_n fT_fl_c) H := hP
  have hD : va_D A (wd_X4_believedOf cI cZ AT AT_sl AT_fl AT_ro AT_nt AT_mk AT_mo AT_sl_c AT_fl_c vT_ng vT_sl_n fT_sl_c vT_fl_n fT_fl_c) := hD
  refine lv_aload_n hx hb dX4_believedOf_9 rfl (lv_at hl 0 rfl) ?_
  refine lv_iload_n hx hb dX4_believedOf_10 rfl (lv_at hl 2 rfl) ?_
  refine lv_iload_n hx hb dX4_believedOf_11 rfl (lv_at hl 3 rfl) ?_
  obtain ⟨r_12, hc_12, hm⟩ := ob_s hm
  refine q_ci (q_rv (rest := [.int r_6]) ⟨hx, hb, hml, hown, hts⟩ hK hN hP hD (c_X4_toldBy l D cI cZ H.size AT AT_sl AT_fl AT_ro AT_nt AT_mk AT_mo AT_fl_c vT_ng vT_fl_n fT_fl_c p2 p3 r_12 hc_12) mb_X4_toldBy mv_X4_toldBy wl_X4_82 [0, 3, 4] rfl rfl rfl (Nat.le_of_ble_eq_true rfl) (Nat.le_of_ble_eq_true rfl) rfl hl.1 rfl (Nat.le_of_ble_eq_true rfl) ⟨Nat.le_refl 0, Nat.le_refl 0⟩ dX4_believedOf_12) hP hD hS hA [0, 3, 4] rfl rfl (fun H locs hP hD hS => ?_)
  have hP : va_P D vwCl (wd_X4_believedOf cI cZ AT AT_sl AT_fl AT_ro AT_nt AT_mk AT_mo AT_sl_c AT_fl_c vT_ng vT_sl_n fT_sl_c vT_fl_n fT_fl_c) H := hP
  have hD : va_D A (wd_X4_believedOf cI cZ AT AT_sl AT_fl AT_ro AT_nt AT_mk AT_mo AT_sl_c AT_fl_c vT_ng vT_sl_n fT_sl_c vT_fl_n fT_fl_c) := hD
  refine lv_aload_n hx hb dX4_believedOf_15 rfl (lv_at hl 0 rfl) ?_
  refine gf_X4_14 (v := .ref AT_sl) hx hb hts hown hK hN hP 0 rfl rfl dX4_believedOf_16 ?_
  refine lv_iload_n hx hb dX4_believedOf_19 rfl (lv_at hl 1 rfl) ?_
  refine lv_iconst (v := 2) hx hb dX4_believedOf_20 (by decide) ?_
  obtain ⟨r_21, hc_21, hm⟩ := ob_s hm
  refine q_ci (q_rv (rest := [.int r_12, .int r_6]) ⟨hx, hb, hml, hown, hts⟩ hK hN hP hD (c_X3_cell l D cI cZ H.size AT_sl AT_sl_c 4 24 vT_sl_n fT_sl_c p1 2 r_21 hc_21) mb_X3_cell mv_X3_cell wl_X4_58 [1, 2] rfl rfl rfl (Nat.le_of_ble_eq_true rfl) (Nat.le_of_ble_eq_true rfl) rfl hl.1 rfl (Nat.le_of_ble_eq_true rfl) ⟨Nat.le_refl 0, Nat.le_refl 0⟩ dX4_believedOf_21) hP hD hS hA [1, 2] rfl rfl (fun H locs hP hD hS => ?_)
  have hP : va_P D vwCl (wd_X4_believedOf cI cZ AT AT_sl AT_fl AT_ro AT_nt AT_mk AT_mo AT_sl_c AT_fl_c vT_ng vT_sl_n fT_sl_c vT_fl_n fT_fl_c) H := hP
  have hD : va_D A (wd_X4_believedOf cI cZ AT AT_sl AT_fl AT_ro AT_nt AT_mk AT_mo AT_sl_c AT_fl_c vT_ng vT_sl_n fT_sl_c vT_fl_n fT_fl_c) := hD
  obtain ⟨r_24, hc_24, hm⟩ := ob_s hm
  refine q_ci (q_rn (rest := []) ⟨hx, hb, hml, hown, hts⟩ hK hN hP hD (c_X7_belief l D cI cZ H.size r_6 r_12 r_21 r_24 hc_24) mb_X7_belief wt_X7_belief (nl_X4_85 hN) [] rfl rfl (Nat.le_of_ble_eq_true rfl) (Nat.le_of_ble_eq_true rfl) rfl hl.1 rfl (Nat.le_of_ble_eq_true rfl) ⟨Nat.le_refl 0, Nat.le_refl 0⟩ dX4_believedOf_24) hP hD hS hA [] rfl rfl (fun H locs hP hD hS => ?_)
  have hP : va_P D vwCl (wd_X4_believedOf cI cZ AT AT_sl AT_fl AT_ro AT_nt AT_mk AT_mo AT_sl_c AT_fl_c vT_ng vT_sl_n fT_sl_c vT_fl_n fT_fl_c) H := hP
  have hD : va_D A (wd_X4_believedOf cI cZ AT AT_sl AT_fl AT_ro AT_nt AT_mk AT_mo AT_sl_c AT_fl_c vT_ng vT_sl_n fT_sl_c vT_fl_n fT_fl_c) := hD
  have hm := Option.some.inj hm
  subst hm
  exact q_iret (v := r_24) hx hb hr hlocks hP hS dX4_believedOf_27
theorem mb_X4_believedOn : q_mb yX4_believedOn cX4_believedOn 9 (some .int) 4 := ⟨wc_X4_believedOn, wn_X4, by decide, by decide, by decide +kernel⟩
theorem mv_X4_believedOn : q_mv yX4_believedOn 4 := ⟨wi_X4_believedOn, ws_X4_believedOn, _, rfl, rfl⟩
def wd_X4_believedOn (cI cZ : ClassId) (AT AT_sl AT_fl AT_ro AT_nt AT_mk AT_mo AT_sl_c AT_fl_c : Nat) (vT_ng : Int32) (vT_sl_n : Int32) (fT_sl_c : Nat → Int32) (vT_fl_n : Int32) (fT_fl_c : Nat → Int32) : va_W := [(AT, .inr (4, [.ref AT_sl, .ref AT_fl, .ref AT_ro, .ref AT_nt, .ref AT_mk, .ref AT_mo, .int vT_ng])), (AT_sl, .inr (3, [.int 4, .ref AT_sl_c, .int vT_sl_n])), (AT_sl_c, .inl (cI, 24, .inl fT_sl_c)), (AT_fl, .inr (3, [.int 3, .ref AT_fl_c, .int vT_fl_n])), (AT_fl_c, .inl (cI, 18, .inl fT_fl_c))]
def fL_X4_believedOn_28 (p1 : Int32) (p2 : Int32) (p3 : Int32) (p4 : Int32) (vT_sl_n : Int32) (fT_sl_c : Nat → Int32) (vT_fl_n : Int32) (fT_fl_c : Nat → Int32) : Nat → Int32 → Int32 → Int32 → Int32 → Option (Int32)
  | 0, _, _, _, _ => none
  | fu + 1, x8, x7, x6, x5 => Option.bind (fm_X3_size vT_fl_n) (fun r_34 => if r_34 ≤ x8 then (some (x7)) else (Option.bind (fm_X3_cell 3 18 x8 2 vT_fl_n fT_fl_c) (fun r_47 => if r_47 = p1 then (Option.bind (fm_X4_toldBy x8 p4 vT_fl_n fT_fl_c) (fun r_69 => Option.bind (fm_X7_belief x5 r_69 x6) (fun r_74 => fL_X4_believedOn_28 p1 p2 p3 p4 vT_sl_n fT_sl_c vT_fl_n fT_fl_c fu (x8 + 1) (x7 + r_74) x6 x5))) else (if x8 = p3 then (Option.bind (fm_X4_toldBy x8 p4 vT_fl_n fT_fl_c) (fun r_69 => Option.bind (fm_X7_belief x5 r_69 x6) (fun r_74 => fL_X4_believedOn_28 p1 p2 p3 p4 vT_sl_n fT_sl_c vT_fl_n fT_fl_c fu (x8 + 1) (x7 + r_74) x6 x5))) else (fL_X4_believedOn_28 p1 p2 p3 p4 vT_sl_n fT_sl_c vT_fl_n fT_fl_c fu (x8 + 1) x7 x6 x5)))))
def fm_X4_believedOn (p1 : Int32) (p2 : Int32) (p3 : Int32) (p4 : Int32) (vT_sl_n : Int32) (fT_sl_c : Nat → Int32) (vT_fl_n : Int32) (fT_fl_c : Nat → Int32) : Option (Int32) := Option.bind (fm_X3_cell 4 24 p2 0 vT_sl_n fT_sl_c) (fun r_6 => Option.bind (fm_X3_cell 4 24 p2 2 vT_sl_n fT_sl_c) (fun r_17 => fL_X4_believedOn_28 p1 p2 p3 p4 vT_sl_n fT_sl_c vT_fl_n fT_fl_c FU 0 0 r_17 r_6))
set_option maxHeartbeats 4000000 in
set_option maxRecDepth 100000 in
theorem c_X4_believedOn (l : Launch) (D : va_G) (cI cZ : ClassId) (sz : Nat) (AT AT_sl AT_fl AT_ro AT_nt AT_mk AT_mo AT_sl_c AT_fl_c : Nat) (vT_ng : Int32) (vT_sl_n : Int32) (fT_sl_c : Nat → Int32) (vT_fl_n : Int32) (fT_fl_c : Nat → Int32) (p1 : Int32) (p2 : Int32) (p3 : Int32) (p4 : Int32) (out : (Int32)) (hm : fm_X4_believedOn p1 p2 p3 p4 vT_sl_n fT_sl_c vT_fl_n fT_fl_c = some out) : Met l yX4_believedOn (Cond.code yX4_believedOn cX4_believedOn 9 (some .int) :: bg) { frames := 2, cells := 0, slots := 0, locals := 47 } (va_Pc [.ref AT, .int p1, .int p2, .int p3, .int p4] (q_pre D cI cZ sz (wd_X4_believedOn cI cZ AT AT_sl AT_fl AT_ro AT_nt AT_mk AT_mo AT_sl_c AT_fl_c vT_ng vT_sl_n fT_sl_c vT_fl_n fT_fl_c))) (q_Qi D (wd_X4_believedOn cI cZ AT AT_sl AT_fl AT_ro AT_nt AT_mk AT_mo AT_sl_c AT_fl_c vT_ng vT_sl_n fT_sl_c vT_fl_n fT_fl_c) out (va_A (wd_X4_believedOn cI cZ AT AT_sl AT_fl AT_ro AT_nt AT_mk AT_mo AT_sl_c AT_fl_c vT_ng vT_sl_n fT_sl_c vT_fl_n fT_fl_c) sz)) 0 0 (va_A (wd_X4_believedOn cI cZ AT AT_sl AT_fl AT_ro AT_nt AT_mk AT_mo AT_sl_c AT_fl_c vT_ng vT_sl_n fT_sl_c vT_fl_n fT_fl_c) sz) := by
  refine q_met (fun A => q_Qi D (wd_X4_believedOn cI cZ AT AT_sl AT_fl AT_ro AT_nt AT_mk AT_mo AT_sl_c AT_fl_c vT_ng vT_sl_n fT_sl_c vT_fl_n fT_fl_c) out A) (by decide) (Nat.le_of_ble_eq_true rfl) ?_
  intro p e s m below meth c ls A hx hb hr hml hown hts hlocks _ hA hS hP hD hK hN hl
  have hown : s.vm.findClass RX4 = some m.cls := hown
  have hl : lv_has ls 9 [(0, .ref AT), (1, .int p1), (2, .int p2), (3, .int p3), (4, .int p4)] := hl
  have hL_28 : ∀ (fu_28 : Nat) (x8 : Int32) (x7 : Int32) (x6 : Int32) (x5 : Int32) (H : Heap) (locs : List Loc) (ls : Array Slot), fL_X4_believedOn_28 p1 p2 p3 p4 vT_sl_n fT_sl_c vT_fl_n fT_fl_c fu_28 x8 x7 x6 x5 = some out → va_P D vwCl (wd_X4_believedOn cI cZ AT AT_sl AT_fl AT_ro AT_nt AT_mk AT_mo AT_sl_c AT_fl_c vT_ng vT_sl_n fT_sl_c vT_fl_n fT_fl_c) H → va_D A (wd_X4_believedOn cI cZ AT AT_sl AT_fl AT_ro AT_nt AT_mk AT_mo AT_sl_c AT_fl_c vT_ng vT_sl_n fT_sl_c vT_fl_n fT_fl_c) → va_S A s.heap H locs → lv_has ls 9 [(8, .int x8), (7, .int x7), (6, .int x6), (5, .int x5), (0, .ref AT), (1, .int p1), (3, .int p3), (4, .int p4)] → W p l e { frames := 2, cells := 0, slots := 0, locals := 47 } s m ([.ref AT, .int p1, .int p2, .int p3, .int p4] : List Value).toArray below meth c H locs 0 0 (MQ below (q_Qi D (wd_X4_believedOn cI cZ AT AT_sl AT_fl AT_ro AT_nt AT_mk AT_mo AT_sl_c AT_fl_c vT_ng vT_sl_n fT_sl_c vT_fl_n fT_fl_c) out A) ([.ref AT, .int p1, .int p2, .int p3, .int p4] : List Value).toArray s 0 0 A) (F0 m 28 ls []) := by
    intro fu_28
    induction fu_28 with
    | zero => intro x8 x7 x6 x5 H locs ls hm hP hD hS hl; exact absurd (show (none : Option (Int32)) = some out from hm) (fun h => nomatch h)
    | succ fu_28 ih_28 =>
      intro x8 x7 x6 x5 H locs ls hm hP hD hS hl
      rw [fL_X4_believedOn_28] at hm
      refine lv_iload hx hb dX4_believedOn_28 (lv_at hl 0 rfl) ?_
      refine lv_aload_n hx hb dX4_believedOn_30 rfl (lv_at hl 4 rfl) ?_
      refine gf_X4_20 (v := .ref AT_fl) hx hb hts hown hK hN hP 0 rfl rfl dX4_believedOn_31 ?_
      obtain ⟨r_34, hc_34, hm⟩ := ob_s hm
      refine q_ci (q_rv (rest := [.int x8]) ⟨hx, hb, hml, hown, hts⟩ hK hN hP hD (c_X3_size l D cI cZ H.size AT_fl AT_fl_c 3 vT_fl_n r_34 hc_34) mb_X3_size mv_X3_size wl_X4_54 [3] rfl rfl rfl (Nat.le_of_ble_eq_true rfl) (Nat.le_of_ble_eq_true rfl) rfl hl.1 rfl (Nat.le_of_ble_eq_true rfl) ⟨Nat.le_refl 0, Nat.le_refl 0⟩ dX4_believedOn_34) hP hD hS hA [3] rfl rfl (fun H locs hP hD hS => ?_)
      have hP : va_P D vwCl (wd_X4_believedOn cI cZ AT AT_sl AT_fl AT_ro AT_nt AT_mk AT_mo AT_sl_c AT_fl_c vT_ng vT_sl_n fT_sl_c vT_fl_n fT_fl_c) H := hP
      have hD : va_D A (wd_X4_believedOn cI cZ AT AT_sl AT_fl AT_ro AT_nt AT_mk AT_mo AT_sl_c AT_fl_c vT_ng vT_sl_n fT_sl_c vT_fl_n fT_fl_c) := hD
      refine lv_icmp_ge (tgt := 86) hx hb dX4_believedOn_37 (by decide) (fun c_37 => ?_) (fun c_37 => ?_)
      · have hm := it_s c_37 hm
        refine lv_iload hx hb dX4_believedOn_86 (lv_at hl 1 rfl) ?_
        have hm := Option.some.inj hm
        subst hm
        exact q_iret (v := x7) hx hb hr hlocks hP hS dX4_believedOn_88
      · have hm := it_n c_37 hm
        refine lv_aload_n hx hb dX4_believedOn_40 rfl (lv_at hl 4 rfl) ?_
        refine gf_X4_20 (v := .ref AT_fl) hx hb hts hown hK hN hP 0 rfl rfl dX4_believedOn_41 ?_
        refine lv_iload hx hb dX4_believedOn_44 (lv_at hl 0 rfl) ?_
        refine lv_iconst (v := 2) hx hb dX4_believedOn_46 (by decide) ?_
        obtain ⟨r_47, hc_47, hm⟩ := ob_s hm
        refine q_ci (q_rv (rest := []) ⟨hx, hb, hml, hown, hts⟩ hK hN hP hD (c_X3_cell l D cI cZ H.size AT_fl AT_fl_c 3 18 vT_fl_n fT_fl_c x8 2 r_47 hc_47) mb_X3_cell mv_X3_cell wl_X4_58 [3, 4] rfl rfl rfl (Nat.le_of_ble_eq_true rfl) (Nat.le_of_ble_eq_true rfl) rfl hl.1 rfl (Nat.le_of_ble_eq_true rfl) ⟨Nat.le_refl 0, Nat.le_refl 0⟩ dX4_believedOn_47) hP hD hS hA [3, 4] rfl rfl (fun H locs hP hD hS => ?_)
        have hP : va_P D vwCl (wd_X4_believedOn cI cZ AT AT_sl AT_fl AT_ro AT_nt AT_mk AT_mo AT_sl_c AT_fl_c vT_ng vT_sl_n fT_sl_c vT_fl_n fT_fl_c) H := hP
        have hD : va_D A (wd_X4_believedOn cI cZ AT AT_sl AT_fl AT_ro AT_nt AT_mk AT_mo AT_sl_c AT_fl_c vT_ng vT_sl_n fT_sl_c vT_fl_n fT_fl_c) := hD
        refine lv_iload_n hx hb dX4_believedOn_50 rfl (lv_at hl 5 rfl) ?_
        refine lv_icmp_eq (tgt := 60) hx hb dX4_believedOn_51 (by decide) (fun c_51 => ?_) (fun c_51 => ?_)
        · have hm := it_s c_51 hm
          refine lv_iload hx hb dX4_believedOn_60 (lv_at hl 1 rfl) ?_
          refine lv_iload hx hb dX4_believedOn_62 (lv_at hl 3 rfl) ?_
          refine lv_aload_n hx hb dX4_believedOn_64 rfl (lv_at hl 4 rfl) ?_
          refine lv_iload hx hb dX4_believedOn_65 (lv_at hl 0 rfl) ?_
          refine lv_iload hx hb dX4_believedOn_67 (lv_at hl 7 rfl) ?_
          obtain ⟨r_69, hc_69, hm⟩ := ob_s hm
          refine q_ci (q_rv (rest := [.int x5, .int x7]) ⟨hx, hb, hml, hown, hts⟩ hK hN hP hD (c_X4_toldBy l D cI cZ H.size AT AT_sl AT_fl AT_ro AT_nt AT_mk AT_mo AT_fl_c vT_ng vT_fl_n fT_fl_c x8 p4 r_69 hc_69) mb_X4_toldBy mv_X4_toldBy wl_X4_82 [0, 3, 4] rfl rfl rfl (Nat.le_of_ble_eq_true rfl) (Nat.le_of_ble_eq_true rfl) rfl hl.1 rfl (Nat.le_of_ble_eq_true rfl) ⟨Nat.le_refl 0, Nat.le_refl 0⟩ dX4_believedOn_69) hP hD hS hA [0, 3, 4] rfl rfl (fun H locs hP hD hS => ?_)
          have hP : va_P D vwCl (wd_X4_believedOn cI cZ AT AT_sl AT_fl AT_ro AT_nt AT_mk AT_mo AT_sl_c AT_fl_c vT_ng vT_sl_n fT_sl_c vT_fl_n fT_fl_c) H := hP
          have hD : va_D A (wd_X4_believedOn cI cZ AT AT_sl AT_fl AT_ro AT_nt AT_mk AT_mo AT_sl_c AT_fl_c vT_ng vT_sl_n fT_sl_c vT_fl_n fT_fl_c) := hD
          refine lv_iload hx hb dX4_believedOn_72 (lv_at hl 2 rfl) ?_
          obtain ⟨r_74, hc_74, hm⟩ := ob_s hm
          refine q_ci (q_rn (rest := [.int x7]) ⟨hx, hb, hml, hown, hts⟩ hK hN hP hD (c_X7_belief l D cI cZ H.size x5 r_69 x6 r_74 hc_74) mb_X7_belief wt_X7_belief (nl_X4_85 hN) [] rfl rfl (Nat.le_of_ble_eq_true rfl) (Nat.le_of_ble_eq_true rfl) rfl hl.1 rfl (Nat.le_of_ble_eq_true rfl) ⟨Nat.le_refl 0, Nat.le_refl 0⟩ dX4_believedOn_74) hP hD hS hA [] rfl rfl (fun H locs hP hD hS => ?_)
          have hP : va_P D vwCl (wd_X4_believedOn cI cZ AT AT_sl AT_fl AT_ro AT_nt AT_mk AT_mo AT_sl_c AT_fl_c vT_ng vT_sl_n fT_sl_c vT_fl_n fT_fl_c) H := hP
          have hD : va_D A (wd_X4_believedOn cI cZ AT AT_sl AT_fl AT_ro AT_nt AT_mk AT_mo AT_sl_c AT_fl_c vT_ng vT_sl_n fT_sl_c vT_fl_n fT_fl_c) := hD
          refine lv_iadd hx hb dX4_believedOn_77 ?_
          refine lv_istore (lv' := [(7, .int (x7 + r_74)), (8, .int x8), (6, .int x6), (5, .int x5), (0, .ref AT), (1, .int p1), (3, .int p3), (4, .int p4)]) hx hb dX4_believedOn_78 hl (by decide) rfl (fun ls hl => ?_)
          refine lv_iinc (v := (x8 + 1)) (lv' := [(8, .int (x8 + 1)), (7, .int (x7 + r_74)), (6, .int x6), (5, .int x5), (0, .ref AT), (1, .int p1), (3, .int p3), (4, .int p4)]) hx hb dX4_believedOn_80 hl (k := 1) rfl rfl (by decide) rfl (fun ls hl => ?_)
          refine lv_goto (tgt := 28) hx hb dX4_believedOn_83 (by decide) ?_
          exact ih_28 (x8 + 1) (x7 + r_74) x6 x5 H locs ls hm hP hD hS (lv_sub hl [0, 1, 2, 3, 4, 5, 6, 7] rfl)
        · have hm := it_n c_51 hm
          refine lv_iload hx hb dX4_believedOn_54 (lv_at hl 0 rfl) ?_
          refine lv_iload_n hx hb dX4_believedOn_56 rfl (lv_at hl 6 rfl) ?_
          refine lv_icmp_ne (tgt := 80) hx hb dX4_believedOn_57 (by decide) (fun c_57 => ?_) (fun c_57 => ?_)
          · have hm := it_n c_57 hm
            refine lv_iinc (v := (x8 + 1)) (lv' := [(8, .int (x8 + 1)), (7, .int x7), (6, .int x6), (5, .int x5), (0, .ref AT), (1, .int p1), (3, .int p3), (4, .int p4)]) hx hb dX4_believedOn_80 hl (k := 0) rfl rfl (by decide) rfl (fun ls hl => ?_)
            refine lv_goto (tgt := 28) hx hb dX4_believedOn_83 (by decide) ?_
            exact ih_28 (x8 + 1) x7 x6 x5 H locs ls hm hP hD hS (lv_sub hl [0, 1, 2, 3, 4, 5, 6, 7] rfl)
          · have hm := it_s c_57 hm
            refine lv_iload hx hb dX4_believedOn_60 (lv_at hl 1 rfl) ?_
            refine lv_iload hx hb dX4_believedOn_62 (lv_at hl 3 rfl) ?_
            refine lv_aload_n hx hb dX4_believedOn_64 rfl (lv_at hl 4 rfl) ?_
            refine lv_iload hx hb dX4_believedOn_65 (lv_at hl 0 rfl) ?_
            refine lv_iload hx hb dX4_believedOn_67 (lv_at hl 7 rfl) ?_
            obtain ⟨r_69, hc_69, hm⟩ := ob_s hm
            refine q_ci (q_rv (rest := [.int x5, .int x7]) ⟨hx, hb, hml, hown, hts⟩ hK hN hP hD (c_X4_toldBy l D cI cZ H.size AT AT_sl AT_fl AT_ro AT_nt AT_mk AT_mo AT_fl_c vT_ng vT_fl_n fT_fl_c x8 p4 r_69 hc_69) mb_X4_toldBy mv_X4_toldBy wl_X4_82 [0, 3, 4] rfl rfl rfl (Nat.le_of_ble_eq_true rfl) (Nat.le_of_ble_eq_true rfl) rfl hl.1 rfl (Nat.le_of_ble_eq_true rfl) ⟨Nat.le_refl 0, Nat.le_refl 0⟩ dX4_believedOn_69) hP hD hS hA [0, 3, 4] rfl rfl (fun H locs hP hD hS => ?_)
            have hP : va_P D vwCl (wd_X4_believedOn cI cZ AT AT_sl AT_fl AT_ro AT_nt AT_mk AT_mo AT_sl_c AT_fl_c vT_ng vT_sl_n fT_sl_c vT_fl_n fT_fl_c) H := hP
            have hD : va_D A (wd_X4_believedOn cI cZ AT AT_sl AT_fl AT_ro AT_nt AT_mk AT_mo AT_sl_c AT_fl_c vT_ng vT_sl_n fT_sl_c vT_fl_n fT_fl_c) := hD
            refine lv_iload hx hb dX4_believedOn_72 (lv_at hl 2 rfl) ?_
            obtain ⟨r_74, hc_74, hm⟩ := ob_s hm
            refine q_ci (q_rn (rest := [.int x7]) ⟨hx, hb, hml, hown, hts⟩ hK hN hP hD (c_X7_belief l D cI cZ H.size x5 r_69 x6 r_74 hc_74) mb_X7_belief wt_X7_belief (nl_X4_85 hN) [] rfl rfl (Nat.le_of_ble_eq_true rfl) (Nat.le_of_ble_eq_true rfl) rfl hl.1 rfl (Nat.le_of_ble_eq_true rfl) ⟨Nat.le_refl 0, Nat.le_refl 0⟩ dX4_believedOn_74) hP hD hS hA [] rfl rfl (fun H locs hP hD hS => ?_)
            have hP : va_P D vwCl (wd_X4_believedOn cI cZ AT AT_sl AT_fl AT_ro AT_nt AT_mk AT_mo AT_sl_c AT_fl_c vT_ng vT_sl_n fT_sl_c vT_fl_n fT_fl_c) H := hP
            have hD : va_D A (wd_X4_believedOn cI cZ AT AT_sl AT_fl AT_ro AT_nt AT_mk AT_mo AT_sl_c AT_fl_c vT_ng vT_sl_n fT_sl_c vT_fl_n fT_fl_c) := hD
            refine lv_iadd hx hb dX4_believedOn_77 ?_
            refine lv_istore (lv' := [(7, .int (x7 + r_74)), (8, .int x8), (6, .int x6), (5, .int x5), (0, .ref AT), (1, .int p1), (3, .int p3), (4, .int p4)]) hx hb dX4_believedOn_78 hl (by decide) rfl (fun ls hl => ?_)
            refine lv_iinc (v := (x8 + 1)) (lv' := [(8, .int (x8 + 1)), (7, .int (x7 + r_74)), (6, .int x6), (5, .int x5), (0, .ref AT), (1, .int p1), (3, .int p3), (4, .int p4)]) hx hb dX4_believedOn_80 hl (k := 1) rfl rfl (by decide) rfl (fun ls hl => ?_)
            refine lv_goto (tgt := 28) hx hb dX4_believedOn_83 (by decide) ?_
            exact ih_28 (x8 + 1) (x7 + r_74) x6 x5 H locs ls hm hP hD hS (lv_sub hl [0, 1, 2, 3, 4, 5, 6, 7] rfl)
  unfold fm_X4_believedOn at hm
  refine q_gen hS hP ?_
  intro H locs hP hS
  refine lv_aload_n hx hb dX4_believedOn_0 rfl (lv_at hl 0 rfl) ?_
  refine gf_X4_14 (v := .ref AT_sl) hx hb hts hown hK hN hP 0 rfl rfl dX4_believedOn_1 ?_
  refine lv_iload_n hx hb dX4_believedOn_4 rfl (lv_at hl 2 rfl) ?_
  refine lv_iconst (v := 0) hx hb dX4_believedOn_5 (by decide) ?_
  obtain ⟨r_6, hc_6, hm⟩ := ob_s hm
  refine q_ci (q_rv (rest := []) ⟨hx, hb, hml, hown, hts⟩ hK hN hP hD (c_X3_cell l D cI cZ H.size AT_sl AT_sl_c 4 24 vT_sl_n fT_sl_c p2 0 r_6 hc_6) mb_X3_cell mv_X3_cell wl_X4_58 [1, 2] rfl rfl rfl (Nat.le_of_ble_eq_true rfl) (Nat.le_of_ble_eq_true rfl) rfl hl.1 rfl (Nat.le_of_ble_eq_true rfl) ⟨Nat.le_refl 0, Nat.le_refl 0⟩ dX4_believedOn_6) hP hD hS hA [1, 2] rfl rfl (fun H locs hP hD hS => ?_)
  have hP : va_P D vwCl (wd_X4_believedOn cI cZ AT AT_sl AT_fl AT_ro AT_nt AT_mk AT_mo AT_sl_c AT_fl_c vT_ng vT_sl_n fT_sl_c vT_fl_n fT_fl_c) H := hP
  have hD : va_D A (wd_X4_believedOn cI cZ AT AT_sl AT_fl AT_ro AT_nt AT_mk AT_mo AT_sl_c AT_fl_c vT_ng vT_sl_n fT_sl_c vT_fl_n fT_fl_c) := hD
  refine lv_istore (lv' := [(5, .int r_6), (0, .ref AT), (1, .int p1), (2, .int p2), (3, .int p3), (4, .int p4)]) hx hb dX4_believedOn_9 hl (by decide) rfl (fun ls hl => ?_)
  refine lv_aload_n hx hb dX4_believedOn_11 rfl (lv_at hl 1 rfl) ?_
  refine gf_X4_14 (v := .ref AT_sl) hx hb hts hown hK hN hP 0 rfl rfl dX4_believedOn_12 ?_
  refine lv_iload_n hx hb dX4_believedOn_15 rfl (lv_at hl 3 rfl) ?_
  refine lv_iconst (v := 2) hx hb dX4_believedOn_16 (by decide) ?_
  obtain ⟨r_17, hc_17, hm⟩ := ob_s hm
  refine q_ci (q_rv (rest := []) ⟨hx, hb, hml, hown, hts⟩ hK hN hP hD (c_X3_cell l D cI cZ H.size AT_sl AT_sl_c 4 24 vT_sl_n fT_sl_c p2 2 r_17 hc_17) mb_X3_cell mv_X3_cell wl_X4_58 [1, 2] rfl rfl rfl (Nat.le_of_ble_eq_true rfl) (Nat.le_of_ble_eq_true rfl) rfl hl.1 rfl (Nat.le_of_ble_eq_true rfl) ⟨Nat.le_refl 0, Nat.le_refl 0⟩ dX4_believedOn_17) hP hD hS hA [1, 2] rfl rfl (fun H locs hP hD hS => ?_)
  have hP : va_P D vwCl (wd_X4_believedOn cI cZ AT AT_sl AT_fl AT_ro AT_nt AT_mk AT_mo AT_sl_c AT_fl_c vT_ng vT_sl_n fT_sl_c vT_fl_n fT_fl_c) H := hP
  have hD : va_D A (wd_X4_believedOn cI cZ AT AT_sl AT_fl AT_ro AT_nt AT_mk AT_mo AT_sl_c AT_fl_c vT_ng vT_sl_n fT_sl_c vT_fl_n fT_fl_c) := hD
  refine lv_istore (lv' := [(6, .int r_17), (5, .int r_6), (0, .ref AT), (1, .int p1), (2, .int p2), (3, .int p3), (4, .int p4)]) hx hb dX4_believedOn_20 hl (by decide) rfl (fun ls hl => ?_)
  refine lv_iconst (v := 0) hx hb dX4_believedOn_22 (by decide) ?_
  refine lv_istore (lv' := [(7, .int 0), (6, .int r_17), (5, .int r_6), (0, .ref AT), (1, .int p1), (2, .int p2), (3, .int p3), (4, .int p4)]) hx hb dX4_believedOn_23 hl (by decide) rfl (fun ls hl => ?_)
  refine lv_iconst (v := 0) hx hb dX4_believedOn_25 (by decide) ?_
  refine lv_istore (lv' := [(8, .int 0), (7, .int 0), (6, .int r_17), (5, .int r_6), (0, .ref AT), (1, .int p1), (2, .int p2), (3, .int p3), (4, .int p4)]) hx hb dX4_believedOn_26 hl (by decide) rfl (fun ls hl => ?_)
  exact hL_28 FU 0 0 r_17 r_6 H locs ls hm hP hD hS (lv_sub hl [0, 1, 2, 3, 4, 5, 7, 8] rfl)
theorem mb_X4_sleeperOn : q_mb yX4_sleeperOn cX4_sleeperOn 3 (some .int) 1 := ⟨wc_X4_sleeperOn, wn_X4, by decide, by decide, by decide +kernel⟩
theorem mv_X4_sleeperOn : q_mv yX4_sleeperOn 4 := ⟨wi_X4_sleeperOn, ws_X4_sleeperOn, _, rfl, rfl⟩
def wd_X4_sleeperOn (cI cZ : ClassId) (AT AT_sl AT_fl AT_ro AT_nt AT_mk AT_mo AT_sl_c : Nat) (vT_ng : Int32) (vT_sl_n : Int32) (fT_sl_c : Nat → Int32) : va_W := [(AT, .inr (4, [.ref AT_sl, .ref AT_fl, .ref AT_ro, .ref AT_nt, .ref AT_mk, .ref AT_mo, .int vT_ng])), (AT_sl, .inr (3, [.int 4, .ref AT_sl_c, .int vT_sl_n])), (AT_sl_c, .inl (cI, 24, .inl fT_sl_c))]
def fL_X4_sleeperOn_2 (p1 : Int32) (vT_sl_n : Int32) (fT_sl_c : Nat → Int32) : Nat → Int32 → Option (Int32)
  | 0, _ => none
  | fu + 1, x2 => Option.bind (fm_X3_size vT_sl_n) (fun r_7 => if r_7 ≤ x2 then (some ((-1))) else (Option.bind (fm_X3_cell 4 24 x2 1 vT_sl_n fT_sl_c) (fun r_19 => if r_19 = p1 then (some (x2)) else (fL_X4_sleeperOn_2 p1 vT_sl_n fT_sl_c fu (x2 + 1)))))
def fm_X4_sleeperOn (p1 : Int32) (vT_sl_n : Int32) (fT_sl_c : Nat → Int32) : Option (Int32) := fL_X4_sleeperOn_2 p1 vT_sl_n fT_sl_c FU 0
set_option maxHeartbeats 4000000 in
set_option maxRecDepth 100000 in
theorem c_X4_sleeperOn (l : Launch) (D : va_G) (cI cZ : ClassId) (sz : Nat) (AT AT_sl AT_fl AT_ro AT_nt AT_mk AT_mo AT_sl_c : Nat) (vT_ng : Int32) (vT_sl_n : Int32) (fT_sl_c : Nat → Int32) (p1 : Int32) (out : (Int32)) (hm : fm_X4_sleeperOn p1 vT_sl_n fT_sl_c = some out) : Met l yX4_sleeperOn (Cond.code yX4_sleeperOn cX4_sleeperOn 3 (some .int) :: bg) { frames := 1, cells := 0, slots := 0, locals := 24 } (va_Pc [.ref AT, .int p1] (q_pre D cI cZ sz (wd_X4_sleeperOn cI cZ AT AT_sl AT_fl AT_ro AT_nt AT_mk AT_mo AT_sl_c vT_ng vT_sl_n fT_sl_c))) (q_Qi D (wd_X4_sleeperOn cI cZ AT AT_sl AT_fl AT_ro AT_nt AT_mk AT_mo AT_sl_c vT_ng vT_sl_n fT_sl_c) out (va_A (wd_X4_sleeperOn cI cZ AT AT_sl AT_fl AT_ro AT_nt AT_mk AT_mo AT_sl_c vT_ng vT_sl_n fT_sl_c) sz)) 0 0 (va_A (wd_X4_sleeperOn cI cZ AT AT_sl AT_fl AT_ro AT_nt AT_mk AT_mo AT_sl_c vT_ng vT_sl_n fT_sl_c) sz) := by
  refine q_met (fun A => q_Qi D (wd_X4_sleeperOn cI cZ AT AT_sl AT_fl AT_ro AT_nt AT_mk AT_mo AT_sl_c vT_ng vT_sl_n fT_sl_c) out A) (by decide) (Nat.le_of_ble_eq_true rfl) ?_
  intro p e s m below meth c ls A hx hb hr hml hown hts hlocks _ hA hS hP hD hK hN hl
  have hown : s.vm.findClass RX4 = some m.cls := hown
  have hl : lv_has ls 3 [(0, .ref AT), (1, .int p1)] := hl
  have hL_2 : ∀ (fu_2 : Nat) (x2 : Int32) (H : Heap) (locs : List Loc) (ls : Array Slot), fL_X4_sleeperOn_2 p1 vT_sl_n fT_sl_c fu_2 x2 = some out → va_P D vwCl (wd_X4_sleeperOn cI cZ AT AT_sl AT_fl AT_ro AT_nt AT_mk AT_mo AT_sl_c vT_ng vT_sl_n fT_sl_c) H → va_D A (wd_X4_sleeperOn cI cZ AT AT_sl AT_fl AT_ro AT_nt AT_mk AT_mo AT_sl_c vT_ng vT_sl_n fT_sl_c) → va_S A s.heap H locs → lv_has ls 3 [(2, .int x2), (0, .ref AT), (1, .int p1)] → W p l e { frames := 1, cells := 0, slots := 0, locals := 24 } s m ([.ref AT, .int p1] : List Value).toArray below meth c H locs 0 0 (MQ below (q_Qi D (wd_X4_sleeperOn cI cZ AT AT_sl AT_fl AT_ro AT_nt AT_mk AT_mo AT_sl_c vT_ng vT_sl_n fT_sl_c) out A) ([.ref AT, .int p1] : List Value).toArray s 0 0 A) (F0 m 2 ls []) := by
    intro fu_2
    induction fu_2 with
    | zero => intro x2 H locs ls hm hP hD hS hl; exact absurd (show (none : Option (Int32)) = some out from hm) (fun h => nomatch h)
    | succ fu_2 ih_2 =>
      intro x2 H locs ls hm hP hD hS hl
      rw [fL_X4_sleeperOn_2] at hm
      refine lv_iload_n hx hb dX4_sleeperOn_2 rfl (lv_at hl 0 rfl) ?_
      refine lv_aload_n hx hb dX4_sleeperOn_3 rfl (lv_at hl 1 rfl) ?_
      refine gf_X4_14 (v := .ref AT_sl) hx hb hts hown hK hN hP 0 rfl rfl dX4_sleeperOn_4 ?_
      obtain ⟨r_7, hc_7, hm⟩ := ob_s hm
      refine q_ci (q_rv (rest := [.int x2]) ⟨hx, hb, hml, hown, hts⟩ hK hN hP hD (c_X3_size l D cI cZ H.size AT_sl AT_sl_c 4 vT_sl_n r_7 hc_7) mb_X3_size mv_X3_size wl_X4_54 [1] rfl rfl rfl (Nat.le_of_ble_eq_true rfl) (Nat.le_of_ble_eq_true rfl) rfl hl.1 rfl (Nat.le_of_ble_eq_true rfl) ⟨Nat.le_refl 0, Nat.le_refl 0⟩ dX4_sleeperOn_7) hP hD hS hA [1] rfl rfl (fun H locs hP hD hS => ?_)
      have hP : va_P D vwCl (wd_X4_sleeperOn cI cZ AT AT_sl AT_fl AT_ro AT_nt AT_mk AT_mo AT_sl_c vT_ng vT_sl_n fT_sl_c) H := hP
      have hD : va_D A (wd_X4_sleeperOn cI cZ AT AT_sl AT_fl AT_ro AT_nt AT_mk AT_mo AT_sl_c vT_ng vT_sl_n fT_sl_c) := hD
      refine lv_icmp_ge (tgt := 34) hx hb dX4_sleeperOn_10 (by decide) (fun c_10 => ?_) (fun c_10 => ?_)
      · have hm := it_s c_10 hm
        refine lv_iconst (v := (-1)) hx hb dX4_sleeperOn_34 (by decide) ?_
        have hm := Option.some.inj hm
        subst hm
        exact q_iret (v := (-1)) hx hb hr hlocks hP hS dX4_sleeperOn_35
      · have hm := it_n c_10 hm
        refine lv_aload_n hx hb dX4_sleeperOn_13 rfl (lv_at hl 1 rfl) ?_
        refine gf_X4_14 (v := .ref AT_sl) hx hb hts hown hK hN hP 0 rfl rfl dX4_sleeperOn_14 ?_
        refine lv_iload_n hx hb dX4_sleeperOn_17 rfl (lv_at hl 0 rfl) ?_
        refine lv_iconst (v := 1) hx hb dX4_sleeperOn_18 (by decide) ?_
        obtain ⟨r_19, hc_19, hm⟩ := ob_s hm
        refine q_ci (q_rv (rest := []) ⟨hx, hb, hml, hown, hts⟩ hK hN hP hD (c_X3_cell l D cI cZ H.size AT_sl AT_sl_c 4 24 vT_sl_n fT_sl_c x2 1 r_19 hc_19) mb_X3_cell mv_X3_cell wl_X4_58 [1, 2] rfl rfl rfl (Nat.le_of_ble_eq_true rfl) (Nat.le_of_ble_eq_true rfl) rfl hl.1 rfl (Nat.le_of_ble_eq_true rfl) ⟨Nat.le_refl 0, Nat.le_refl 0⟩ dX4_sleeperOn_19) hP hD hS hA [1, 2] rfl rfl (fun H locs hP hD hS => ?_)
        have hP : va_P D vwCl (wd_X4_sleeperOn cI cZ AT AT_sl AT_fl AT_ro AT_nt AT_mk AT_mo AT_sl_c vT_ng vT_sl_n fT_sl_c) H := hP
        have hD : va_D A (wd_X4_sleeperOn cI cZ AT AT_sl AT_fl AT_ro AT_nt AT_mk AT_mo AT_sl_c vT_ng vT_sl_n fT_sl_c) := hD
        refine lv_iload_n hx hb dX4_sleeperOn_22 rfl (lv_at hl 2 rfl) ?_
        refine lv_icmp_ne (tgt := 28) hx hb dX4_sleeperOn_23 (by decide) (fun c_23 => ?_) (fun c_23 => ?_)
        · have hm := it_n c_23 hm
          refine lv_iinc (v := (x2 + 1)) (lv' := [(2, .int (x2 + 1)), (0, .ref AT), (1, .int p1)]) hx hb dX4_sleeperOn_28 hl (k := 0) rfl rfl (by decide) rfl (fun ls hl => ?_)
          refine lv_goto (tgt := 2) hx hb dX4_sleeperOn_31 (by decide) ?_
          exact ih_2 (x2 + 1) H locs ls hm hP hD hS (lv_sub hl [0, 1, 2] rfl)
        · have hm := it_s c_23 hm
          refine lv_iload_n hx hb dX4_sleeperOn_26 rfl (lv_at hl 0 rfl) ?_
          have hm := Option.some.inj hm
          subst hm
          exact q_iret (v := x2) hx hb hr hlocks hP hS dX4_sleeperOn_27
  unfold fm_X4_sleeperOn at hm
  refine q_gen hS hP ?_
  intro H locs hP hS
  refine lv_iconst (v := 0) hx hb dX4_sleeperOn_0 (by decide) ?_
  refine lv_istore_n (lv' := [(2, .int 0), (0, .ref AT), (1, .int p1)]) hx hb dX4_sleeperOn_1 rfl hl (by decide) rfl (fun ls hl => ?_)
  exact hL_2 FU 0 H locs ls hm hP hD hS (lv_sub hl [0, 1, 2] rfl)
theorem mb_X4_doing : q_mb yX4_doing cX4_doing 3 (some .int) 0 := ⟨wc_X4_doing, wn_X4, by decide, by decide, by decide +kernel⟩
theorem mv_X4_doing : q_mv yX4_doing 4 := ⟨wi_X4_doing, ws_X4_doing, _, rfl, rfl⟩
def wd_X4_doing (cI cZ : ClassId) (AT AT_sl AT_fl AT_ro AT_nt AT_mk AT_mo AT_sl_c : Nat) (vT_ng : Int32) (vT_sl_n : Int32) (fT_sl_c : Nat → Int32) : va_W := [(AT, .inr (4, [.ref AT_sl, .ref AT_fl, .ref AT_ro, .ref AT_nt, .ref AT_mk, .ref AT_mo, .int vT_ng])), (AT_sl, .inr (3, [.int 4, .ref AT_sl_c, .int vT_sl_n])), (AT_sl_c, .inl (cI, 24, .inl fT_sl_c))]
def fL_X4_doing_4 (vT_sl_n : Int32) (fT_sl_c : Nat → Int32) : Nat → Int32 → Int32 → Option (Int32)
  | 0, _, _ => none
  | fu + 1, x2, x1 => Option.bind (fm_X3_size vT_sl_n) (fun r_9 => if r_9 ≤ x2 then (some (x1)) else (Option.bind (fm_X3_cell 4 24 x2 3 vT_sl_n fT_sl_c) (fun r_21 => if r_21 < 20 then (fL_X4_doing_4 vT_sl_n fT_sl_c fu (x2 + 1) x1) else (fL_X4_doing_4 vT_sl_n fT_sl_c fu (x2 + 1) (x1 + 1)))))
def fm_X4_doing (vT_sl_n : Int32) (fT_sl_c : Nat → Int32) : Option (Int32) := fL_X4_doing_4 vT_sl_n fT_sl_c FU 0 0
set_option maxHeartbeats 4000000 in
set_option maxRecDepth 100000 in
theorem c_X4_doing (l : Launch) (D : va_G) (cI cZ : ClassId) (sz : Nat) (AT AT_sl AT_fl AT_ro AT_nt AT_mk AT_mo AT_sl_c : Nat) (vT_ng : Int32) (vT_sl_n : Int32) (fT_sl_c : Nat → Int32) (out : (Int32)) (hm : fm_X4_doing vT_sl_n fT_sl_c = some out) : Met l yX4_doing (Cond.code yX4_doing cX4_doing 3 (some .int) :: bg) { frames := 1, cells := 0, slots := 0, locals := 24 } (va_Pc [.ref AT] (q_pre D cI cZ sz (wd_X4_doing cI cZ AT AT_sl AT_fl AT_ro AT_nt AT_mk AT_mo AT_sl_c vT_ng vT_sl_n fT_sl_c))) (q_Qi D (wd_X4_doing cI cZ AT AT_sl AT_fl AT_ro AT_nt AT_mk AT_mo AT_sl_c vT_ng vT_sl_n fT_sl_c) out (va_A (wd_X4_doing cI cZ AT AT_sl AT_fl AT_ro AT_nt AT_mk AT_mo AT_sl_c vT_ng vT_sl_n fT_sl_c) sz)) 0 0 (va_A (wd_X4_doing cI cZ AT AT_sl AT_fl AT_ro AT_nt AT_mk AT_mo AT_sl_c vT_ng vT_sl_n fT_sl_c) sz) := by
  refine q_met (fun A => q_Qi D (wd_X4_doing cI cZ AT AT_sl AT_fl AT_ro AT_nt AT_mk AT_mo AT_sl_c vT_ng vT_sl_n fT_sl_c) out A) (by decide) (Nat.le_of_ble_eq_true rfl) ?_
  intro p e s m below meth c ls A hx hb hr hml hown hts hlocks _ hA hS hP hD hK hN hl
  have hown : s.vm.findClass RX4 = some m.cls := hown
  have hl : lv_has ls 3 [(0, .ref AT)] := hl
  have hL_4 : ∀ (fu_4 : Nat) (x2 : Int32) (x1 : Int32) (H : Heap) (locs : List Loc) (ls : Array Slot), fL_X4_doing_4 vT_sl_n fT_sl_c fu_4 x2 x1 = some out → va_P D vwCl (wd_X4_doing cI cZ AT AT_sl AT_fl AT_ro AT_nt AT_mk AT_mo AT_sl_c vT_ng vT_sl_n fT_sl_c) H → va_D A (wd_X4_doing cI cZ AT AT_sl AT_fl AT_ro AT_nt AT_mk AT_mo AT_sl_c vT_ng vT_sl_n fT_sl_c) → va_S A s.heap H locs → lv_has ls 3 [(2, .int x2), (1, .int x1), (0, .ref AT)] → W p l e { frames := 1, cells := 0, slots := 0, locals := 24 } s m ([.ref AT] : List Value).toArray below meth c H locs 0 0 (MQ below (q_Qi D (wd_X4_doing cI cZ AT AT_sl AT_fl AT_ro AT_nt AT_mk AT_mo AT_sl_c vT_ng vT_sl_n fT_sl_c) out A) ([.ref AT] : List Value).toArray s 0 0 A) (F0 m 4 ls []) := by
    intro fu_4
    induction fu_4 with
    | zero => intro x2 x1 H locs ls hm hP hD hS hl; exact absurd (show (none : Option (Int32)) = some out from hm) (fun h => nomatch h)
    | succ fu_4 ih_4 =>
      intro x2 x1 H locs ls hm hP hD hS hl
      rw [fL_X4_doing_4] at hm
      refine lv_iload_n hx hb dX4_doing_4 rfl (lv_at hl 0 rfl) ?_
      refine lv_aload_n hx hb dX4_doing_5 rfl (lv_at hl 2 rfl) ?_
      refine gf_X4_14 (v := .ref AT_sl) hx hb hts hown hK hN hP 0 rfl rfl dX4_doing_6 ?_
      obtain ⟨r_9, hc_9, hm⟩ := ob_s hm
      refine q_ci (q_rv (rest := [.int x2]) ⟨hx, hb, hml, hown, hts⟩ hK hN hP hD (c_X3_size l D cI cZ H.size AT_sl AT_sl_c 4 vT_sl_n r_9 hc_9) mb_X3_size mv_X3_size wl_X4_54 [1] rfl rfl rfl (Nat.le_of_ble_eq_true rfl) (Nat.le_of_ble_eq_true rfl) rfl hl.1 rfl (Nat.le_of_ble_eq_true rfl) ⟨Nat.le_refl 0, Nat.le_refl 0⟩ dX4_doing_9) hP hD hS hA [1] rfl rfl (fun H locs hP hD hS => ?_)
      have hP : va_P D vwCl (wd_X4_doing cI cZ AT AT_sl AT_fl AT_ro AT_nt AT_mk AT_mo AT_sl_c vT_ng vT_sl_n fT_sl_c) H := hP
      have hD : va_D A (wd_X4_doing cI cZ AT AT_sl AT_fl AT_ro AT_nt AT_mk AT_mo AT_sl_c vT_ng vT_sl_n fT_sl_c) := hD
      refine lv_icmp_ge (tgt := 38) hx hb dX4_doing_12 (by decide) (fun c_12 => ?_) (fun c_12 => ?_)
      · have hm := it_s c_12 hm
        refine lv_iload_n hx hb dX4_doing_38 rfl (lv_at hl 1 rfl) ?_
        have hm := Option.some.inj hm
        subst hm
        exact q_iret (v := x1) hx hb hr hlocks hP hS dX4_doing_39
      · have hm := it_n c_12 hm
        refine lv_aload_n hx hb dX4_doing_15 rfl (lv_at hl 2 rfl) ?_
        refine gf_X4_14 (v := .ref AT_sl) hx hb hts hown hK hN hP 0 rfl rfl dX4_doing_16 ?_
        refine lv_iload_n hx hb dX4_doing_19 rfl (lv_at hl 0 rfl) ?_
        refine lv_iconst (v := 3) hx hb dX4_doing_20 (by decide) ?_
        obtain ⟨r_21, hc_21, hm⟩ := ob_s hm
        refine q_ci (q_rv (rest := []) ⟨hx, hb, hml, hown, hts⟩ hK hN hP hD (c_X3_cell l D cI cZ H.size AT_sl AT_sl_c 4 24 vT_sl_n fT_sl_c x2 3 r_21 hc_21) mb_X3_cell mv_X3_cell wl_X4_58 [1, 2] rfl rfl rfl (Nat.le_of_ble_eq_true rfl) (Nat.le_of_ble_eq_true rfl) rfl hl.1 rfl (Nat.le_of_ble_eq_true rfl) ⟨Nat.le_refl 0, Nat.le_refl 0⟩ dX4_doing_21) hP hD hS hA [1, 2] rfl rfl (fun H locs hP hD hS => ?_)
        have hP : va_P D vwCl (wd_X4_doing cI cZ AT AT_sl AT_fl AT_ro AT_nt AT_mk AT_mo AT_sl_c vT_ng vT_sl_n fT_sl_c) H := hP
        have hD : va_D A (wd_X4_doing cI cZ AT AT_sl AT_fl AT_ro AT_nt AT_mk AT_mo AT_sl_c vT_ng vT_sl_n fT_sl_c) := hD
        refine lv_bipush (v := 20) hx hb dX4_doing_24 (by decide) ?_
        refine lv_icmp_lt (tgt := 32) hx hb dX4_doing_26 (by decide) (fun c_26 => ?_) (fun c_26 => ?_)
        · have hm := it_s c_26 hm
          refine lv_iinc (v := (x2 + 1)) (lv' := [(2, .int (x2 + 1)), (1, .int x1), (0, .ref AT)]) hx hb dX4_doing_32 hl (k := 0) rfl rfl (by decide) rfl (fun ls hl => ?_)
          refine lv_goto (tgt := 4) hx hb dX4_doing_35 (by decide) ?_
          exact ih_4 (x2 + 1) x1 H locs ls hm hP hD hS (lv_sub hl [0, 1, 2] rfl)
        · have hm := it_n c_26 hm
          refine lv_iinc (v := (x1 + 1)) (lv' := [(1, .int (x1 + 1)), (2, .int x2), (0, .ref AT)]) hx hb dX4_doing_29 hl (k := 1) rfl rfl (by decide) rfl (fun ls hl => ?_)
          refine lv_iinc (v := (x2 + 1)) (lv' := [(2, .int (x2 + 1)), (1, .int (x1 + 1)), (0, .ref AT)]) hx hb dX4_doing_32 hl (k := 1) rfl rfl (by decide) rfl (fun ls hl => ?_)
          refine lv_goto (tgt := 4) hx hb dX4_doing_35 (by decide) ?_
          exact ih_4 (x2 + 1) (x1 + 1) H locs ls hm hP hD hS (lv_sub hl [0, 1, 2] rfl)
  unfold fm_X4_doing at hm
  refine q_gen hS hP ?_
  intro H locs hP hS
  refine lv_iconst (v := 0) hx hb dX4_doing_0 (by decide) ?_
  refine lv_istore_n (lv' := [(1, .int 0), (0, .ref AT)]) hx hb dX4_doing_1 rfl hl (by decide) rfl (fun ls hl => ?_)
  refine lv_iconst (v := 0) hx hb dX4_doing_2 (by decide) ?_
  refine lv_istore_n (lv' := [(2, .int 0), (1, .int 0), (0, .ref AT)]) hx hb dX4_doing_3 rfl hl (by decide) rfl (fun ls hl => ?_)
  exact hL_4 FU 0 0 H locs ls hm hP hD hS (lv_sub hl [0, 1, 2] rfl)
theorem gf_X4_38 {p : Program} {l : Launch} {e : Env} {R : Room} {s : State} {m : MethodId} {args : Array Value} {below : List Frame} {meth : Method} {c : Code} {H : Heap} {locs : List Loc} {cells slots : Nat} {Q : State → Prop} {pc : Nat} {ls : Array Slot} {cc : ByteArray} {D : va_G} {cI cZ : ClassId} {ws : va_W} {a : Nat} {rest fs : List Value} (hx : p.tables.exec = Jvm.exec) (hb : c.code = cc) (hts : ∀ w ∈ bg, w.before args s = true) (hown : s.vm.findClass RX4 = some m.cls) (hK : va_K D vwCl (q_tys cI cZ) s) (hN : q_N s) (hP : va_P D vwCl ws H) (q0 : Nat) (he : ws[q0]? = some (a, .inr (4, fs))) {v : Value} (hv : fs[6]? = some v) (hdg : decode cc pc = .ok (.getfield 38, 3)) (kk : W p l e R s m args below meth c H locs cells slots Q (F0 m (pc + 3) ls (v :: rest))) : W p l e R s m args below meth c H locs cells slots Q (F0 m pc ls (.ref a :: rest)) :=
  va_get (C := RX4) (T := TX4) (N := 7) hx hb hts wu_X4 hown hK hP q0 he rfl 6 (by decide) (hts _ wf_X4_38) (fun _ h9 => h9) hv hdg kk
theorem pf_X4_38 {p : Program} {l : Launch} {e : Env} {R : Room} {s : State} {m : MethodId} {args : Array Value} {below : List Frame} {meth : Method} {c : Code} {H : Heap} {locs : List Loc} {cells slots : Nat} {Q : State → Prop} {pc : Nat} {ls : Array Slot} {cc : ByteArray} {D : va_G} {cI cZ : ClassId} {ws : va_W} {A : Nat → Prop} {a : Nat} {rest fs : List Value} {x : Int32} (hx : p.tables.exec = Jvm.exec) (hb : c.code = cc) (hts : ∀ w ∈ bg, w.before args s = true) (hown : s.vm.findClass RX4 = some m.cls) (hK : va_K D vwCl (q_tys cI cZ) s) (hN : q_N s) (hP : va_P D vwCl ws H) (hD : va_D A ws) (hS : va_S A s.heap H locs) (q0 : Nat) (he : ws[q0]? = some (a, .inr (4, fs))) (hdg : decode cc pc = .ok (.putfield 38, 3)) (kk : ∀ (H1 : Heap) (locs1 : List Loc), va_P D vwCl (ws.set q0 (a, .inr (4, fs.set 6 (.int x)))) H1 → va_D A (ws.set q0 (a, .inr (4, fs.set 6 (.int x)))) → va_S A s.heap H1 locs1 → W p l e R s m args below meth c H1 locs1 cells slots Q (F0 m (pc + 3) ls rest)) (hl : 6 < fs.length := by exact Nat.le_of_ble_eq_true rfl) : W p l e R s m args below meth c H locs cells slots Q (F0 m pc ls (.int x :: .ref a :: rest)) :=
  va_put (C := RX4) (T := TX4) (N := 7) (ty := .int) hx hb hts wu_X4 tyX4 tyX4_ok nmX4 hown hK hP hD hS q0 he rfl 6 (by decide) (hts _ wf_X4_38) (fun _ h9 => h9) rfl (by decide +kernel) rfl rfl hl hdg kk
theorem mb_X4_passNight : q_mb yX4_passNight cX4_passNight 3 none 0 := ⟨wc_X4_passNight, wn_X4, by decide, by decide, by decide +kernel⟩
theorem mv_X4_passNight : q_mv yX4_passNight 4 := ⟨wi_X4_passNight, ws_X4_passNight, _, rfl, rfl⟩
def wd_X4_passNight (cI cZ : ClassId) (AT AT_sl AT_fl AT_ro AT_nt AT_mk AT_mo AT_sl_c AT_fl_c : Nat) (vT_ng : Int32) (vT_sl_n : Int32) (fT_sl_c : Nat → Int32) (vT_fl_n : Int32) (fT_fl_c : Nat → Int32) : va_W := [(AT, .inr (4, [.ref AT_sl, .ref AT_fl, .ref AT_ro, .ref AT_nt, .ref AT_mk, .ref AT_mo, .int vT_ng])), (AT_sl, .inr (3, [.int 4, .ref AT_sl_c, .int vT_sl_n])), (AT_sl_c, .inl (cI, 24, .inl fT_sl_c)), (AT_fl, .inr (3, [.int 3, .ref AT_fl_c, .int vT_fl_n])), (AT_fl_c, .inl (cI, 18, .inl fT_fl_c))]
def fL_X4_passNight_2 (vT_sl_n : Int32) (vT_fl_n : Int32) (fT_fl_c : Nat → Int32) : Nat → Int32 → Int32 → (Nat → Int32) → Option (Int32 × (Nat → Int32))
  | 0, _, _, _ => none
  | fu + 1, x1, vT_ng, fT_sl_c => Option.bind (fm_X3_size vT_sl_n) (fun r_7 => if r_7 ≤ x1 then (some ((vT_ng + 1), fT_sl_c)) else (Option.bind (fm_X3_cell 4 24 x1 3 vT_sl_n fT_sl_c) (fun r_19 => Option.bind (fm_X3_cell 4 24 x1 1 vT_sl_n fT_sl_c) (fun r_29 => Option.bind (fm_X4_believedOn r_29 x1 (-1) vT_ng vT_sl_n fT_sl_c vT_fl_n fT_fl_c) (fun r_38 => Option.bind (fm_X3_write 4 24 x1 3 (if (r_19 + r_38) < 999 then (r_19 + r_38) else 999) vT_sl_n fT_sl_c) (fun r_56 => fL_X4_passNight_2 vT_sl_n vT_fl_n fT_fl_c fu (x1 + 1) vT_ng r_56))))))
def fm_X4_passNight (vT_ng : Int32) (vT_sl_n : Int32) (fT_sl_c : Nat → Int32) (vT_fl_n : Int32) (fT_fl_c : Nat → Int32) : Option (Int32 × (Nat → Int32)) := fL_X4_passNight_2 vT_sl_n vT_fl_n fT_fl_c FU 0 vT_ng fT_sl_c
set_option maxHeartbeats 4000000 in
set_option maxRecDepth 100000 in
theorem c_X4_passNight (l : Launch) (D : va_G) (cI cZ : ClassId) (sz : Nat) (AT AT_sl AT_fl AT_ro AT_nt AT_mk AT_mo AT_sl_c AT_fl_c : Nat) (vT_ng : Int32) (vT_sl_n : Int32) (fT_sl_c : Nat → Int32) (vT_fl_n : Int32) (fT_fl_c : Nat → Int32) (out : (Int32 × (Nat → Int32))) (hm : fm_X4_passNight vT_ng vT_sl_n fT_sl_c vT_fl_n fT_fl_c = some out) : Met l yX4_passNight (Cond.code yX4_passNight cX4_passNight 3 none :: bg) { frames := 3, cells := 0, slots := 0, locals := 75 } (va_Pc [.ref AT] (q_pre D cI cZ sz (wd_X4_passNight cI cZ AT AT_sl AT_fl AT_ro AT_nt AT_mk AT_mo AT_sl_c AT_fl_c vT_ng vT_sl_n fT_sl_c vT_fl_n fT_fl_c))) (q_Qv D (wd_X4_passNight cI cZ AT AT_sl AT_fl AT_ro AT_nt AT_mk AT_mo AT_sl_c AT_fl_c out.1 vT_sl_n out.2 vT_fl_n fT_fl_c) (va_A (wd_X4_passNight cI cZ AT AT_sl AT_fl AT_ro AT_nt AT_mk AT_mo AT_sl_c AT_fl_c vT_ng vT_sl_n fT_sl_c vT_fl_n fT_fl_c) sz)) 0 0 (va_A (wd_X4_passNight cI cZ AT AT_sl AT_fl AT_ro AT_nt AT_mk AT_mo AT_sl_c AT_fl_c vT_ng vT_sl_n fT_sl_c vT_fl_n fT_fl_c) sz) := by
  refine q_met (fun A => q_Qv D (wd_X4_passNight cI cZ AT AT_sl AT_fl AT_ro AT_nt AT_mk AT_mo AT_sl_c AT_fl_c out.1 vT_sl_n out.2 vT_fl_n fT_fl_c) A) (by decide) (Nat.le_of_ble_eq_true rfl) ?_
  intro p e s m below meth c ls A hx hb hr hml hown hts hlocks _ hA hS hP hD hK hN hl
  have hown : s.vm.findClass RX4 = some m.cls := hown
  have hl : lv_has ls 3 [(0, .ref AT)] := hl
  have hL_2 : ∀ (fu_2 : Nat) (x1 : Int32) (vT_ng : Int32) (fT_sl_c : Nat → Int32) (H : Heap) (locs : List Loc) (ls : Array Slot), fL_X4_passNight_2 vT_sl_n vT_fl_n fT_fl_c fu_2 x1 vT_ng fT_sl_c = some out → va_P D vwCl (wd_X4_passNight cI cZ AT AT_sl AT_fl AT_ro AT_nt AT_mk AT_mo AT_sl_c AT_fl_c vT_ng vT_sl_n fT_sl_c vT_fl_n fT_fl_c) H → va_D A (wd_X4_passNight cI cZ AT AT_sl AT_fl AT_ro AT_nt AT_mk AT_mo AT_sl_c AT_fl_c vT_ng vT_sl_n fT_sl_c vT_fl_n fT_fl_c) → va_S A s.heap H locs → lv_has ls 3 [(1, .int x1), (0, .ref AT)] → W p l e { frames := 3, cells := 0, slots := 0, locals := 75 } s m ([.ref AT] : List Value).toArray below meth c H locs 0 0 (MQ below (q_Qv D (wd_X4_passNight cI cZ AT AT_sl AT_fl AT_ro AT_nt AT_mk AT_mo AT_sl_c AT_fl_c out.1 vT_sl_n out.2 vT_fl_n fT_fl_c) A) ([.ref AT] : List Value).toArray s 0 0 A) (F0 m 2 ls []) := by
    intro fu_2
    induction fu_2 with
    | zero => intro x1 vT_ng fT_sl_c H locs ls hm hP hD hS hl; exact absurd (show (none : Option (Int32 × (Nat → Int32))) = some out from hm) (fun h => nomatch h)
    | succ fu_2 ih_2 =>
      intro x1 vT_ng fT_sl_c H locs ls hm hP hD hS hl
      rw [fL_X4_passNight_2] at hm
      refine lv_iload_n hx hb dX4_passNight_2 rfl (lv_at hl 0 rfl) ?_
      refine lv_aload_n hx hb dX4_passNight_3 rfl (lv_at hl 1 rfl) ?_
      refine gf_X4_14 (v := .ref AT_sl) hx hb hts hown hK hN hP 0 rfl rfl dX4_passNight_4 ?_
      obtain ⟨r_7, hc_7, hm⟩ := ob_s hm
      refine q_ci (q_rv (rest := [.int x1]) ⟨hx, hb, hml, hown, hts⟩ hK hN hP hD (c_X3_size l D cI cZ H.size AT_sl AT_sl_c 4 vT_sl_n r_7 hc_7) mb_X3_size mv_X3_size wl_X4_54 [1] rfl rfl rfl (Nat.le_of_ble_eq_true rfl) (Nat.le_of_ble_eq_true rfl) rfl hl.1 rfl (Nat.le_of_ble_eq_true rfl) ⟨Nat.le_refl 0, Nat.le_refl 0⟩ dX4_passNight_7) hP hD hS hA [1] rfl rfl (fun H locs hP hD hS => ?_)
      have hP : va_P D vwCl (wd_X4_passNight cI cZ AT AT_sl AT_fl AT_ro AT_nt AT_mk AT_mo AT_sl_c AT_fl_c vT_ng vT_sl_n fT_sl_c vT_fl_n fT_fl_c) H := hP
      have hD : va_D A (wd_X4_passNight cI cZ AT AT_sl AT_fl AT_ro AT_nt AT_mk AT_mo AT_sl_c AT_fl_c vT_ng vT_sl_n fT_sl_c vT_fl_n fT_fl_c) := hD
      refine lv_icmp_ge (tgt := 65) hx hb dX4_passNight_10 (by decide) (fun c_10 => ?_) (fun c_10 => ?_)
      · have hm := it_s c_10 hm
        refine lv_aload_n hx hb dX4_passNight_65 rfl (lv_at hl 1 rfl) ?_
        refine lv_dup hx hb dX4_passNight_66 rfl ?_
        refine gf_X4_38 (v := .int vT_ng) hx hb hts hown hK hN hP 0 rfl rfl dX4_passNight_67 ?_
        refine lv_iconst (v := 1) hx hb dX4_passNight_70 (by decide) ?_
        refine lv_iadd hx hb dX4_passNight_71 ?_
        refine pf_X4_38 hx hb hts hown hK hN hP hD hS 0 rfl dX4_passNight_72 (fun H locs hP hD hS => ?_)
        have hP : va_P D vwCl (wd_X4_passNight cI cZ AT AT_sl AT_fl AT_ro AT_nt AT_mk AT_mo AT_sl_c AT_fl_c (vT_ng + 1) vT_sl_n fT_sl_c vT_fl_n fT_fl_c) H := hP
        have hD : va_D A (wd_X4_passNight cI cZ AT AT_sl AT_fl AT_ro AT_nt AT_mk AT_mo AT_sl_c AT_fl_c (vT_ng + 1) vT_sl_n fT_sl_c vT_fl_n fT_fl_c) := hD
        have hm := Option.some.inj hm
        subst hm
        exact q_vret hx hb hr hlocks hP hS dX4_passNight_75
      · have hm := it_n c_10 hm
        refine lv_aload_n hx hb dX4_passNight_13 rfl (lv_at hl 1 rfl) ?_
        refine gf_X4_14 (v := .ref AT_sl) hx hb hts hown hK hN hP 0 rfl rfl dX4_passNight_14 ?_
        refine lv_iload_n hx hb dX4_passNight_17 rfl (lv_at hl 0 rfl) ?_
        refine lv_iconst (v := 3) hx hb dX4_passNight_18 (by decide) ?_
        obtain ⟨r_19, hc_19, hm⟩ := ob_s hm
        refine q_ci (q_rv (rest := []) ⟨hx, hb, hml, hown, hts⟩ hK hN hP hD (c_X3_cell l D cI cZ H.size AT_sl AT_sl_c 4 24 vT_sl_n fT_sl_c x1 3 r_19 hc_19) mb_X3_cell mv_X3_cell wl_X4_58 [1, 2] rfl rfl rfl (Nat.le_of_ble_eq_true rfl) (Nat.le_of_ble_eq_true rfl) rfl hl.1 rfl (Nat.le_of_ble_eq_true rfl) ⟨Nat.le_refl 0, Nat.le_refl 0⟩ dX4_passNight_19) hP hD hS hA [1, 2] rfl rfl (fun H locs hP hD hS => ?_)
        have hP : va_P D vwCl (wd_X4_passNight cI cZ AT AT_sl AT_fl AT_ro AT_nt AT_mk AT_mo AT_sl_c AT_fl_c vT_ng vT_sl_n fT_sl_c vT_fl_n fT_fl_c) H := hP
        have hD : va_D A (wd_X4_passNight cI cZ AT AT_sl AT_fl AT_ro AT_nt AT_mk AT_mo AT_sl_c AT_fl_c vT_ng vT_sl_n fT_sl_c vT_fl_n fT_fl_c) := hD
        refine lv_aload_n hx hb dX4_passNight_22 rfl (lv_at hl 1 rfl) ?_
        refine lv_aload_n hx hb dX4_passNight_23 rfl (lv_at hl 1 rfl) ?_
        refine gf_X4_14 (v := .ref AT_sl) hx hb hts hown hK hN hP 0 rfl rfl dX4_passNight_24 ?_
        refine lv_iload_n hx hb dX4_passNight_27 rfl (lv_at hl 0 rfl) ?_
        refine lv_iconst (v := 1) hx hb dX4_passNight_28 (by decide) ?_
        obtain ⟨r_29, hc_29, hm⟩ := ob_s hm
        refine q_ci (q_rv (rest := [.ref AT, .int r_19]) ⟨hx, hb, hml, hown, hts⟩ hK hN hP hD (c_X3_cell l D cI cZ H.size AT_sl AT_sl_c 4 24 vT_sl_n fT_sl_c x1 1 r_29 hc_29) mb_X3_cell mv_X3_cell wl_X4_58 [1, 2] rfl rfl rfl (Nat.le_of_ble_eq_true rfl) (Nat.le_of_ble_eq_true rfl) rfl hl.1 rfl (Nat.le_of_ble_eq_true rfl) ⟨Nat.le_refl 0, Nat.le_refl 0⟩ dX4_passNight_29) hP hD hS hA [1, 2] rfl rfl (fun H locs hP hD hS => ?_)
        have hP : va_P D vwCl (wd_X4_passNight cI cZ AT AT_sl AT_fl AT_ro AT_nt AT_mk AT_mo AT_sl_c AT_fl_c vT_ng vT_sl_n fT_sl_c vT_fl_n fT_fl_c) H := hP
        have hD : va_D A (wd_X4_passNight cI cZ AT AT_sl AT_fl AT_ro AT_nt AT_mk AT_mo AT_sl_c AT_fl_c vT_ng vT_sl_n fT_sl_c vT_fl_n fT_fl_c) := hD
        refine lv_iload_n hx hb dX4_passNight_32 rfl (lv_at hl 0 rfl) ?_
        refine lv_iconst (v := (-1)) hx hb dX4_passNight_33 (by decide) ?_
        refine lv_aload_n hx hb dX4_passNight_34 rfl (lv_at hl 1 rfl) ?_
        refine gf_X4_38 (v := .int vT_ng) hx hb hts hown hK hN hP 0 rfl rfl dX4_passNight_35 ?_
        obtain ⟨r_38, hc_38, hm⟩ := ob_s hm
        refine q_ci (q_rv (rest := [.int r_19]) ⟨hx, hb, hml, hown, hts⟩ hK hN hP hD (c_X4_believedOn l D cI cZ H.size AT AT_sl AT_fl AT_ro AT_nt AT_mk AT_mo AT_sl_c AT_fl_c vT_ng vT_sl_n fT_sl_c vT_fl_n fT_fl_c r_29 x1 (-1) vT_ng r_38 hc_38) mb_X4_believedOn mv_X4_believedOn wl_X4_69 [0, 1, 2, 3, 4] rfl rfl rfl (Nat.le_of_ble_eq_true rfl) (Nat.le_of_ble_eq_true rfl) rfl hl.1 rfl (Nat.le_of_ble_eq_true rfl) ⟨Nat.le_refl 0, Nat.le_refl 0⟩ dX4_passNight_38) hP hD hS hA [0, 1, 2, 3, 4] rfl rfl (fun H locs hP hD hS => ?_)
        have hP : va_P D vwCl (wd_X4_passNight cI cZ AT AT_sl AT_fl AT_ro AT_nt AT_mk AT_mo AT_sl_c AT_fl_c vT_ng vT_sl_n fT_sl_c vT_fl_n fT_fl_c) H := hP
        have hD : va_D A (wd_X4_passNight cI cZ AT AT_sl AT_fl AT_ro AT_nt AT_mk AT_mo AT_sl_c AT_fl_c vT_ng vT_sl_n fT_sl_c vT_fl_n fT_fl_c) := hD
        refine lv_iadd hx hb dX4_passNight_41 ?_
        refine lv_istore_n (lv' := [(2, .int (r_19 + r_38)), (1, .int x1), (0, .ref AT)]) hx hb dX4_passNight_42 rfl hl (by decide) rfl (fun ls hl => ?_)
        refine lv_aload_n hx hb dX4_passNight_43 rfl (lv_at hl 2 rfl) ?_
        refine gf_X4_14 (v := .ref AT_sl) hx hb hts hown hK hN hP 0 rfl rfl dX4_passNight_44 ?_
        refine lv_iload_n hx hb dX4_passNight_47 rfl (lv_at hl 1 rfl) ?_
        refine lv_iconst (v := 3) hx hb dX4_passNight_48 (by decide) ?_
        refine lv_sipush (v := 999) hx hb dX4_passNight_49 (by decide) ?_
        refine lv_iload_n hx hb dX4_passNight_52 rfl (lv_at hl 0 rfl) ?_
        refine va_mmin hx hb (hml.trans hl.1.symm) hown (hts _ wl_X4_73) (hts _ wt_math_min) (hts _ wn_math) (hts _ wc_math_min) (Nat.le_of_ble_eq_true rfl) (Nat.le_of_ble_eq_true rfl) (Nat.le_refl 0) (Nat.le_refl 0) dX4_passNight_53 ?_
        obtain ⟨r_56, hc_56, hm⟩ := ob_s hm
        refine q_cv (q_rv (rest := []) ⟨hx, hb, hml, hown, hts⟩ hK hN hP hD (c_X3_write l D cI cZ H.size AT_sl AT_sl_c 4 24 vT_sl_n fT_sl_c x1 3 (if (r_19 + r_38) < 999 then (r_19 + r_38) else 999) r_56 hc_56) mb_X3_write mv_X3_write wl_X4_62 [1, 2] rfl rfl rfl (Nat.le_of_ble_eq_true rfl) (Nat.le_of_ble_eq_true rfl) rfl hl.1 rfl (Nat.le_of_ble_eq_true rfl) ⟨Nat.le_refl 0, Nat.le_refl 0⟩ dX4_passNight_56) hP hD hS hA [1, 2] rfl rfl (fun H locs hP hD hS => ?_)
        have hP : va_P D vwCl (wd_X4_passNight cI cZ AT AT_sl AT_fl AT_ro AT_nt AT_mk AT_mo AT_sl_c AT_fl_c vT_ng vT_sl_n r_56 vT_fl_n fT_fl_c) H := hP
        have hD : va_D A (wd_X4_passNight cI cZ AT AT_sl AT_fl AT_ro AT_nt AT_mk AT_mo AT_sl_c AT_fl_c vT_ng vT_sl_n r_56 vT_fl_n fT_fl_c) := hD
        refine lv_iinc (v := (x1 + 1)) (lv' := [(1, .int (x1 + 1)), (2, .int (r_19 + r_38)), (0, .ref AT)]) hx hb dX4_passNight_59 hl (k := 1) rfl rfl (by decide) rfl (fun ls hl => ?_)
        refine lv_goto (tgt := 2) hx hb dX4_passNight_62 (by decide) ?_
        exact ih_2 (x1 + 1) vT_ng r_56 H locs ls hm hP hD hS (lv_sub hl [0, 2] rfl)
  unfold fm_X4_passNight at hm
  refine q_gen hS hP ?_
  intro H locs hP hS
  refine lv_iconst (v := 0) hx hb dX4_passNight_0 (by decide) ?_
  refine lv_istore_n (lv' := [(1, .int 0), (0, .ref AT)]) hx hb dX4_passNight_1 rfl hl (by decide) rfl (fun ls hl => ?_)
  exact hL_2 FU 0 vT_ng fT_sl_c H locs ls hm hP hD hS (lv_sub hl [0, 1] rfl)
theorem gf_X4_23 {p : Program} {l : Launch} {e : Env} {R : Room} {s : State} {m : MethodId} {args : Array Value} {below : List Frame} {meth : Method} {c : Code} {H : Heap} {locs : List Loc} {cells slots : Nat} {Q : State → Prop} {pc : Nat} {ls : Array Slot} {cc : ByteArray} {D : va_G} {cI cZ : ClassId} {ws : va_W} {a : Nat} {rest fs : List Value} (hx : p.tables.exec = Jvm.exec) (hb : c.code = cc) (hts : ∀ w ∈ bg, w.before args s = true) (hown : s.vm.findClass RX4 = some m.cls) (hK : va_K D vwCl (q_tys cI cZ) s) (hN : q_N s) (hP : va_P D vwCl ws H) (q0 : Nat) (he : ws[q0]? = some (a, .inr (4, fs))) {v : Value} (hv : fs[2]? = some v) (hdg : decode cc pc = .ok (.getfield 23, 3)) (kk : W p l e R s m args below meth c H locs cells slots Q (F0 m (pc + 3) ls (v :: rest))) : W p l e R s m args below meth c H locs cells slots Q (F0 m pc ls (.ref a :: rest)) :=
  va_get (C := RX4) (T := TX4) (N := 7) hx hb hts wu_X4 hown hK hP q0 he rfl 2 (by decide) (hts _ wf_X4_23) (fun _ h9 => h9) hv hdg kk
theorem gf_X4_26 {p : Program} {l : Launch} {e : Env} {R : Room} {s : State} {m : MethodId} {args : Array Value} {below : List Frame} {meth : Method} {c : Code} {H : Heap} {locs : List Loc} {cells slots : Nat} {Q : State → Prop} {pc : Nat} {ls : Array Slot} {cc : ByteArray} {D : va_G} {cI cZ : ClassId} {ws : va_W} {a : Nat} {rest fs : List Value} (hx : p.tables.exec = Jvm.exec) (hb : c.code = cc) (hts : ∀ w ∈ bg, w.before args s = true) (hown : s.vm.findClass RX4 = some m.cls) (hK : va_K D vwCl (q_tys cI cZ) s) (hN : q_N s) (hP : va_P D vwCl ws H) (q0 : Nat) (he : ws[q0]? = some (a, .inr (4, fs))) {v : Value} (hv : fs[3]? = some v) (hdg : decode cc pc = .ok (.getfield 26, 3)) (kk : W p l e R s m args below meth c H locs cells slots Q (F0 m (pc + 3) ls (v :: rest))) : W p l e R s m args below meth c H locs cells slots Q (F0 m pc ls (.ref a :: rest)) :=
  va_get (C := RX4) (T := TX4) (N := 7) hx hb hts wu_X4 hown hK hP q0 he rfl 3 (by decide) (hts _ wf_X4_26) (fun _ h9 => h9) hv hdg kk
theorem gf_X4_29 {p : Program} {l : Launch} {e : Env} {R : Room} {s : State} {m : MethodId} {args : Array Value} {below : List Frame} {meth : Method} {c : Code} {H : Heap} {locs : List Loc} {cells slots : Nat} {Q : State → Prop} {pc : Nat} {ls : Array Slot} {cc : ByteArray} {D : va_G} {cI cZ : ClassId} {ws : va_W} {a : Nat} {rest fs : List Value} (hx : p.tables.exec = Jvm.exec) (hb : c.code = cc) (hts : ∀ w ∈ bg, w.before args s = true) (hown : s.vm.findClass RX4 = some m.cls) (hK : va_K D vwCl (q_tys cI cZ) s) (hN : q_N s) (hP : va_P D vwCl ws H) (q0 : Nat) (he : ws[q0]? = some (a, .inr (4, fs))) {v : Value} (hv : fs[4]? = some v) (hdg : decode cc pc = .ok (.getfield 29, 3)) (kk : W p l e R s m args below meth c H locs cells slots Q (F0 m (pc + 3) ls (v :: rest))) : W p l e R s m args below meth c H locs cells slots Q (F0 m pc ls (.ref a :: rest)) :=
  va_get (C := RX4) (T := TX4) (N := 7) hx hb hts wu_X4 hown hK hP q0 he rfl 4 (by decide) (hts _ wf_X4_29) (fun _ h9 => h9) hv hdg kk
theorem gf_X4_32 {p : Program} {l : Launch} {e : Env} {R : Room} {s : State} {m : MethodId} {args : Array Value} {below : List Frame} {meth : Method} {c : Code} {H : Heap} {locs : List Loc} {cells slots : Nat} {Q : State → Prop} {pc : Nat} {ls : Array Slot} {cc : ByteArray} {D : va_G} {cI cZ : ClassId} {ws : va_W} {a : Nat} {rest fs : List Value} (hx : p.tables.exec = Jvm.exec) (hb : c.code = cc) (hts : ∀ w ∈ bg, w.before args s = true) (hown : s.vm.findClass RX4 = some m.cls) (hK : va_K D vwCl (q_tys cI cZ) s) (hN : q_N s) (hP : va_P D vwCl ws H) (q0 : Nat) (he : ws[q0]? = some (a, .inr (4, fs))) {v : Value} (hv : fs[5]? = some v) (hdg : decode cc pc = .ok (.getfield 32, 3)) (kk : W p l e R s m args below meth c H locs cells slots Q (F0 m (pc + 3) ls (v :: rest))) : W p l e R s m args below meth c H locs cells slots Q (F0 m pc ls (.ref a :: rest)) :=
  va_get (C := RX4) (T := TX4) (N := 7) hx hb hts wu_X4 hown hK hP q0 he rfl 5 (by decide) (hts _ wf_X4_32) (fun _ h9 => h9) hv hdg kk
theorem mb_X4_takeFrom : q_mb yX4_takeFrom cX4_takeFrom 2 none 1 := ⟨wc_X4_takeFrom, wn_X4, by decide, by decide, by decide +kernel⟩
theorem mv_X4_takeFrom : q_mv yX4_takeFrom 4 := ⟨wi_X4_takeFrom, ws_X4_takeFrom, _, rfl, rfl⟩
def wd_X4_takeFrom (cI cZ : ClassId) (AT A1 AT_sl AT_fl AT_ro AT_nt AT_mk AT_mo A1_sl A1_fl A1_ro A1_nt A1_mk A1_mo AT_sl_c A1_sl_c AT_fl_c A1_fl_c AT_ro_c A1_ro_c AT_nt_c A1_nt_c AT_mk_c A1_mk_c AT_mo_c A1_mo_c : Nat) (vT_ng : Int32) (v1_ng : Int32) (vT_sl_n : Int32) (v1_sl_n : Int32) (f1_sl_c : Nat → Int32) (fT_sl_c : Nat → Int32) (vT_fl_n : Int32) (v1_fl_n : Int32) (f1_fl_c : Nat → Int32) (fT_fl_c : Nat → Int32) (vT_ro_n : Int32) (v1_ro_n : Int32) (f1_ro_c : Nat → Int32) (fT_ro_c : Nat → Int32) (vT_nt_n : Int32) (v1_nt_n : Int32) (f1_nt_c : Nat → Int32) (fT_nt_c : Nat → Int32) (vT_mk_n : Int32) (v1_mk_n : Int32) (f1_mk_c : Nat → Int32) (fT_mk_c : Nat → Int32) (vT_mo_n : Int32) (v1_mo_n : Int32) (f1_mo_c : Nat → Int32) (fT_mo_c : Nat → Int32) : va_W := [(AT, .inr (4, [.ref AT_sl, .ref AT_fl, .ref AT_ro, .ref AT_nt, .ref AT_mk, .ref AT_mo, .int vT_ng])), (A1, .inr (4, [.ref A1_sl, .ref A1_fl, .ref A1_ro, .ref A1_nt, .ref A1_mk, .ref A1_mo, .int v1_ng])), (AT_sl, .inr (3, [.int 4, .ref AT_sl_c, .int vT_sl_n])), (A1_sl, .inr (3, [.int 4, .ref A1_sl_c, .int v1_sl_n])), (A1_sl_c, .inl (cI, 24, .inl f1_sl_c)), (AT_sl_c, .inl (cI, 24, .inl fT_sl_c)), (AT_fl, .inr (3, [.int 3, .ref AT_fl_c, .int vT_fl_n])), (A1_fl, .inr (3, [.int 3, .ref A1_fl_c, .int v1_fl_n])), (A1_fl_c, .inl (cI, 18, .inl f1_fl_c)), (AT_fl_c, .inl (cI, 18, .inl fT_fl_c)), (AT_ro, .inr (3, [.int 3, .ref AT_ro_c, .int vT_ro_n])), (A1_ro, .inr (3, [.int 3, .ref A1_ro_c, .int v1_ro_n])), (A1_ro_c, .inl (cI, 15, .inl f1_ro_c)), (AT_ro_c, .inl (cI, 15, .inl fT_ro_c)), (AT_nt, .inr (3, [.int 4, .ref AT_nt_c, .int vT_nt_n])), (A1_nt, .inr (3, [.int 4, .ref A1_nt_c, .int v1_nt_n])), (A1_nt_c, .inl (cI, 24, .inl f1_nt_c)), (AT_nt_c, .inl (cI, 24, .inl fT_nt_c)), (AT_mk, .inr (3, [.int 4, .ref AT_mk_c, .int vT_mk_n])), (A1_mk, .inr (3, [.int 4, .ref A1_mk_c, .int v1_mk_n])), (A1_mk_c, .inl (cI, 24, .inl f1_mk_c)), (AT_mk_c, .inl (cI, 24, .inl fT_mk_c)), (AT_mo, .inr (3, [.int 25, .ref AT_mo_c, .int vT_mo_n])), (A1_mo, .inr (3, [.int 25, .ref A1_mo_c, .int v1_mo_n])), (A1_mo_c, .inl (cI, 200, .inl f1_mo_c)), (AT_mo_c, .inl (cI, 200, .inl fT_mo_c))]
def fm_X4_takeFrom (vT_ng : Int32) (v1_ng : Int32) (vT_sl_n : Int32) (v1_sl_n : Int32) (f1_sl_c : Nat → Int32) (fT_sl_c : Nat → Int32) (vT_fl_n : Int32) (v1_fl_n : Int32) (f1_fl_c : Nat → Int32) (fT_fl_c : Nat → Int32) (vT_ro_n : Int32) (v1_ro_n : Int32) (f1_ro_c : Nat → Int32) (fT_ro_c : Nat → Int32) (vT_nt_n : Int32) (v1_nt_n : Int32) (f1_nt_c : Nat → Int32) (fT_nt_c : Nat → Int32) (vT_mk_n : Int32) (v1_mk_n : Int32) (f1_mk_c : Nat → Int32) (fT_mk_c : Nat → Int32) (vT_mo_n : Int32) (v1_mo_n : Int32) (f1_mo_c : Nat → Int32) (fT_mo_c : Nat → Int32) : Option (Int32 × Int32 × (Nat → Int32) × Int32 × (Nat → Int32) × Int32 × (Nat → Int32) × Int32 × (Nat → Int32) × Int32 × (Nat → Int32) × Int32 × (Nat → Int32)) := Option.bind (fm_X3_takeFrom 4 24 24 vT_sl_n v1_sl_n f1_sl_c fT_sl_c) (fun r_8 => Option.bind (fm_X3_takeFrom 3 18 18 vT_fl_n v1_fl_n f1_fl_c fT_fl_c) (fun r_19 => Option.bind (fm_X3_takeFrom 3 15 15 vT_ro_n v1_ro_n f1_ro_c fT_ro_c) (fun r_30 => Option.bind (fm_X3_takeFrom 4 24 24 vT_nt_n v1_nt_n f1_nt_c fT_nt_c) (fun r_41 => Option.bind (fm_X3_takeFrom 4 24 24 vT_mk_n v1_mk_n f1_mk_c fT_mk_c) (fun r_52 => Option.bind (fm_X3_takeFrom 25 200 200 vT_mo_n v1_mo_n f1_mo_c fT_mo_c) (fun r_63 => some (v1_ng, r_8.1, r_8.2, r_19.1, r_19.2, r_30.1, r_30.2, r_41.1, r_41.2, r_52.1, r_52.2, r_63.1, r_63.2)))))))
set_option maxHeartbeats 4000000 in
set_option maxRecDepth 100000 in
theorem c_X4_takeFrom (l : Launch) (D : va_G) (cI cZ : ClassId) (sz : Nat) (AT A1 AT_sl AT_fl AT_ro AT_nt AT_mk AT_mo A1_sl A1_fl A1_ro A1_nt A1_mk A1_mo AT_sl_c A1_sl_c AT_fl_c A1_fl_c AT_ro_c A1_ro_c AT_nt_c A1_nt_c AT_mk_c A1_mk_c AT_mo_c A1_mo_c : Nat) (vT_ng : Int32) (v1_ng : Int32) (vT_sl_n : Int32) (v1_sl_n : Int32) (f1_sl_c : Nat → Int32) (fT_sl_c : Nat → Int32) (vT_fl_n : Int32) (v1_fl_n : Int32) (f1_fl_c : Nat → Int32) (fT_fl_c : Nat → Int32) (vT_ro_n : Int32) (v1_ro_n : Int32) (f1_ro_c : Nat → Int32) (fT_ro_c : Nat → Int32) (vT_nt_n : Int32) (v1_nt_n : Int32) (f1_nt_c : Nat → Int32) (fT_nt_c : Nat → Int32) (vT_mk_n : Int32) (v1_mk_n : Int32) (f1_mk_c : Nat → Int32) (fT_mk_c : Nat → Int32) (vT_mo_n : Int32) (v1_mo_n : Int32) (f1_mo_c : Nat → Int32) (fT_mo_c : Nat → Int32) (out : (Int32 × Int32 × (Nat → Int32) × Int32 × (Nat → Int32) × Int32 × (Nat → Int32) × Int32 × (Nat → Int32) × Int32 × (Nat → Int32) × Int32 × (Nat → Int32))) (hm : fm_X4_takeFrom vT_ng v1_ng vT_sl_n v1_sl_n f1_sl_c fT_sl_c vT_fl_n v1_fl_n f1_fl_c fT_fl_c vT_ro_n v1_ro_n f1_ro_c fT_ro_c vT_nt_n v1_nt_n f1_nt_c fT_nt_c vT_mk_n v1_mk_n f1_mk_c fT_mk_c vT_mo_n v1_mo_n f1_mo_c fT_mo_c = some out) : Met l yX4_takeFrom (Cond.code yX4_takeFrom cX4_takeFrom 2 none :: bg) { frames := 2, cells := 0, slots := 0, locals := 44 } (va_Pc [.ref AT, .ref A1] (q_pre D cI cZ sz (wd_X4_takeFrom cI cZ AT A1 AT_sl AT_fl AT_ro AT_nt AT_mk AT_mo A1_sl A1_fl A1_ro A1_nt A1_mk A1_mo AT_sl_c A1_sl_c AT_fl_c A1_fl_c AT_ro_c A1_ro_c AT_nt_c A1_nt_c AT_mk_c A1_mk_c AT_mo_c A1_mo_c vT_ng v1_ng vT_sl_n v1_sl_n f1_sl_c fT_sl_c vT_fl_n v1_fl_n f1_fl_c fT_fl_c vT_ro_n v1_ro_n f1_ro_c fT_ro_c vT_nt_n v1_nt_n f1_nt_c fT_nt_c vT_mk_n v1_mk_n f1_mk_c fT_mk_c vT_mo_n v1_mo_n f1_mo_c fT_mo_c))) (q_Qv D (wd_X4_takeFrom cI cZ AT A1 AT_sl AT_fl AT_ro AT_nt AT_mk AT_mo A1_sl A1_fl A1_ro A1_nt A1_mk A1_mo AT_sl_c A1_sl_c AT_fl_c A1_fl_c AT_ro_c A1_ro_c AT_nt_c A1_nt_c AT_mk_c A1_mk_c AT_mo_c A1_mo_c out.1 v1_ng out.2.1 v1_sl_n f1_sl_c out.2.2.1 out.2.2.2.1 v1_fl_n f1_fl_c out.2.2.2.2.1 out.2.2.2.2.2.1 v1_ro_n f1_ro_c out.2.2.2.2.2.2.1 out.2.2.2.2.2.2.2.1 v1_nt_n f1_nt_c out.2.2.2.2.2.2.2.2.1 out.2.2.2.2.2.2.2.2.2.1 v1_mk_n f1_mk_c out.2.2.2.2.2.2.2.2.2.2.1 out.2.2.2.2.2.2.2.2.2.2.2.1 v1_mo_n f1_mo_c out.2.2.2.2.2.2.2.2.2.2.2.2) (va_A (wd_X4_takeFrom cI cZ AT A1 AT_sl AT_fl AT_ro AT_nt AT_mk AT_mo A1_sl A1_fl A1_ro A1_nt A1_mk A1_mo AT_sl_c A1_sl_c AT_fl_c A1_fl_c AT_ro_c A1_ro_c AT_nt_c A1_nt_c AT_mk_c A1_mk_c AT_mo_c A1_mo_c vT_ng v1_ng vT_sl_n v1_sl_n f1_sl_c fT_sl_c vT_fl_n v1_fl_n f1_fl_c fT_fl_c vT_ro_n v1_ro_n f1_ro_c fT_ro_c vT_nt_n v1_nt_n f1_nt_c fT_nt_c vT_mk_n v1_mk_n f1_mk_c fT_mk_c vT_mo_n v1_mo_n f1_mo_c fT_mo_c) sz)) 0 0 (va_A (wd_X4_takeFrom cI cZ AT A1 AT_sl AT_fl AT_ro AT_nt AT_mk AT_mo A1_sl A1_fl A1_ro A1_nt A1_mk A1_mo AT_sl_c A1_sl_c AT_fl_c A1_fl_c AT_ro_c A1_ro_c AT_nt_c A1_nt_c AT_mk_c A1_mk_c AT_mo_c A1_mo_c vT_ng v1_ng vT_sl_n v1_sl_n f1_sl_c fT_sl_c vT_fl_n v1_fl_n f1_fl_c fT_fl_c vT_ro_n v1_ro_n f1_ro_c fT_ro_c vT_nt_n v1_nt_n f1_nt_c fT_nt_c vT_mk_n v1_mk_n f1_mk_c fT_mk_c vT_mo_n v1_mo_n f1_mo_c fT_mo_c) sz) := by
  refine q_met (fun A => q_Qv D (wd_X4_takeFrom cI cZ AT A1 AT_sl AT_fl AT_ro AT_nt AT_mk AT_mo A1_sl A1_fl A1_ro A1_nt A1_mk A1_mo AT_sl_c A1_sl_c AT_fl_c A1_fl_c AT_ro_c A1_ro_c AT_nt_c A1_nt_c AT_mk_c A1_mk_c AT_mo_c A1_mo_c out.1 v1_ng out.2.1 v1_sl_n f1_sl_c out.2.2.1 out.2.2.2.1 v1_fl_n f1_fl_c out.2.2.2.2.1 out.2.2.2.2.2.1 v1_ro_n f1_ro_c out.2.2.2.2.2.2.1 out.2.2.2.2.2.2.2.1 v1_nt_n f1_nt_c out.2.2.2.2.2.2.2.2.1 out.2.2.2.2.2.2.2.2.2.1 v1_mk_n f1_mk_c out.2.2.2.2.2.2.2.2.2.2.1 out.2.2.2.2.2.2.2.2.2.2.2.1 v1_mo_n f1_mo_c out.2.2.2.2.2.2.2.2.2.2.2.2) A) (by decide) (Nat.le_of_ble_eq_true rfl) ?_
  intro p e s m below meth c ls A hx hb hr hml hown hts hlocks _ hA hS hP hD hK hN hl
  have hown : s.vm.findClass RX4 = some m.cls := hown
  have hl : lv_has ls 2 [(0, .ref AT), (1, .ref A1)] := hl
  unfold fm_X4_takeFrom at hm
  refine q_gen hS hP ?_
  intro H locs hP hS
  refine lv_aload_n hx hb dX4_takeFrom_0 rfl (lv_at hl 0 rfl) ?_
  refine gf_X4_14 (v := .ref AT_sl) hx hb hts hown hK hN hP 0 rfl rfl dX4_takeFrom_1 ?_
  refine lv_aload_n hx hb dX4_takeFrom_4 rfl (lv_at hl 1 rfl) ?_
  refine gf_X4_14 (v := .ref A1_sl) hx hb hts hown hK hN hP 1 rfl rfl dX4_takeFrom_5 ?_
  obtain ⟨r_8, hc_8, hm⟩ := ob_s hm
  refine q_cv (q_rv (rest := []) ⟨hx, hb, hml, hown, hts⟩ hK hN hP hD (c_X3_takeFrom l D cI cZ H.size AT_sl A1_sl AT_sl_c A1_sl_c 4 4 24 24 vT_sl_n v1_sl_n f1_sl_c fT_sl_c r_8 hc_8) mb_X3_takeFrom mv_X3_takeFrom wl_X4_42 [2, 3, 4, 5] rfl rfl rfl (Nat.le_of_ble_eq_true rfl) (Nat.le_of_ble_eq_true rfl) rfl hl.1 rfl (Nat.le_of_ble_eq_true rfl) ⟨Nat.le_refl 0, Nat.le_refl 0⟩ dX4_takeFrom_8) hP hD hS hA [2, 3, 4, 5] rfl rfl (fun H locs hP hD hS => ?_)
  have hP : va_P D vwCl (wd_X4_takeFrom cI cZ AT A1 AT_sl AT_fl AT_ro AT_nt AT_mk AT_mo A1_sl A1_fl A1_ro A1_nt A1_mk A1_mo AT_sl_c A1_sl_c AT_fl_c A1_fl_c AT_ro_c A1_ro_c AT_nt_c A1_nt_c AT_mk_c A1_mk_c AT_mo_c A1_mo_c vT_ng v1_ng r_8.1 v1_sl_n f1_sl_c r_8.2 vT_fl_n v1_fl_n f1_fl_c fT_fl_c vT_ro_n v1_ro_n f1_ro_c fT_ro_c vT_nt_n v1_nt_n f1_nt_c fT_nt_c vT_mk_n v1_mk_n f1_mk_c fT_mk_c vT_mo_n v1_mo_n f1_mo_c fT_mo_c) H := hP
  have hD : va_D A (wd_X4_takeFrom cI cZ AT A1 AT_sl AT_fl AT_ro AT_nt AT_mk AT_mo A1_sl A1_fl A1_ro A1_nt A1_mk A1_mo AT_sl_c A1_sl_c AT_fl_c A1_fl_c AT_ro_c A1_ro_c AT_nt_c A1_nt_c AT_mk_c A1_mk_c AT_mo_c A1_mo_c vT_ng v1_ng r_8.1 v1_sl_n f1_sl_c r_8.2 vT_fl_n v1_fl_n f1_fl_c fT_fl_c vT_ro_n v1_ro_n f1_ro_c fT_ro_c vT_nt_n v1_nt_n f1_nt_c fT_nt_c vT_mk_n v1_mk_n f1_mk_c fT_mk_c vT_mo_n v1_mo_n f1_mo_c fT_mo_c) := hD
  refine lv_aload_n hx hb dX4_takeFrom_11 rfl (lv_at hl 0 rfl) ?_
  refine gf_X4_20 (v := .ref AT_fl) hx hb hts hown hK hN hP 0 rfl rfl dX4_takeFrom_12 ?_
  refine lv_aload_n hx hb dX4_takeFrom_15 rfl (lv_at hl 1 rfl) ?_
  refine gf_X4_20 (v := .ref A1_fl) hx hb hts hown hK hN hP 1 rfl rfl dX4_takeFrom_16 ?_
  obtain ⟨r_19, hc_19, hm⟩ := ob_s hm
  refine q_cv (q_rv (rest := []) ⟨hx, hb, hml, hown, hts⟩ hK hN hP hD (c_X3_takeFrom l D cI cZ H.size AT_fl A1_fl AT_fl_c A1_fl_c 3 3 18 18 vT_fl_n v1_fl_n f1_fl_c fT_fl_c r_19 hc_19) mb_X3_takeFrom mv_X3_takeFrom wl_X4_42 [6, 7, 8, 9] rfl rfl rfl (Nat.le_of_ble_eq_true rfl) (Nat.le_of_ble_eq_true rfl) rfl hl.1 rfl (Nat.le_of_ble_eq_true rfl) ⟨Nat.le_refl 0, Nat.le_refl 0⟩ dX4_takeFrom_19) hP hD hS hA [6, 7, 8, 9] rfl rfl (fun H locs hP hD hS => ?_)
  have hP : va_P D vwCl (wd_X4_takeFrom cI cZ AT A1 AT_sl AT_fl AT_ro AT_nt AT_mk AT_mo A1_sl A1_fl A1_ro A1_nt A1_mk A1_mo AT_sl_c A1_sl_c AT_fl_c A1_fl_c AT_ro_c A1_ro_c AT_nt_c A1_nt_c AT_mk_c A1_mk_c AT_mo_c A1_mo_c vT_ng v1_ng r_8.1 v1_sl_n f1_sl_c r_8.2 r_19.1 v1_fl_n f1_fl_c r_19.2 vT_ro_n v1_ro_n f1_ro_c fT_ro_c vT_nt_n v1_nt_n f1_nt_c fT_nt_c vT_mk_n v1_mk_n f1_mk_c fT_mk_c vT_mo_n v1_mo_n f1_mo_c fT_mo_c) H := hP
  have hD : va_D A (wd_X4_takeFrom cI cZ AT A1 AT_sl AT_fl AT_ro AT_nt AT_mk AT_mo A1_sl A1_fl A1_ro A1_nt A1_mk A1_mo AT_sl_c A1_sl_c AT_fl_c A1_fl_c AT_ro_c A1_ro_c AT_nt_c A1_nt_c AT_mk_c A1_mk_c AT_mo_c A1_mo_c vT_ng v1_ng r_8.1 v1_sl_n f1_sl_c r_8.2 r_19.1 v1_fl_n f1_fl_c r_19.2 vT_ro_n v1_ro_n f1_ro_c fT_ro_c vT_nt_n v1_nt_n f1_nt_c fT_nt_c vT_mk_n v1_mk_n f1_mk_c fT_mk_c vT_mo_n v1_mo_n f1_mo_c fT_mo_c) := hD
  refine lv_aload_n hx hb dX4_takeFrom_22 rfl (lv_at hl 0 rfl) ?_
  refine gf_X4_23 (v := .ref AT_ro) hx hb hts hown hK hN hP 0 rfl rfl dX4_takeFrom_23 ?_
  refine lv_aload_n hx hb dX4_takeFrom_26 rfl (lv_at hl 1 rfl) ?_
  refine gf_X4_23 (v := .ref A1_ro) hx hb hts hown hK hN hP 1 rfl rfl dX4_takeFrom_27 ?_
  obtain ⟨r_30, hc_30, hm⟩ := ob_s hm
  refine q_cv (q_rv (rest := []) ⟨hx, hb, hml, hown, hts⟩ hK hN hP hD (c_X3_takeFrom l D cI cZ H.size AT_ro A1_ro AT_ro_c A1_ro_c 3 3 15 15 vT_ro_n v1_ro_n f1_ro_c fT_ro_c r_30 hc_30) mb_X3_takeFrom mv_X3_takeFrom wl_X4_42 [10, 11, 12, 13] rfl rfl rfl (Nat.le_of_ble_eq_true rfl) (Nat.le_of_ble_eq_true rfl) rfl hl.1 rfl (Nat.le_of_ble_eq_true rfl) ⟨Nat.le_refl 0, Nat.le_refl 0⟩ dX4_takeFrom_30) hP hD hS hA [10, 11, 12, 13] rfl rfl (fun H locs hP hD hS => ?_)
  have hP : va_P D vwCl (wd_X4_takeFrom cI cZ AT A1 AT_sl AT_fl AT_ro AT_nt AT_mk AT_mo A1_sl A1_fl A1_ro A1_nt A1_mk A1_mo AT_sl_c A1_sl_c AT_fl_c A1_fl_c AT_ro_c A1_ro_c AT_nt_c A1_nt_c AT_mk_c A1_mk_c AT_mo_c A1_mo_c vT_ng v1_ng r_8.1 v1_sl_n f1_sl_c r_8.2 r_19.1 v1_fl_n f1_fl_c r_19.2 r_30.1 v1_ro_n f1_ro_c r_30.2 vT_nt_n v1_nt_n f1_nt_c fT_nt_c vT_mk_n v1_mk_n f1_mk_c fT_mk_c vT_mo_n v1_mo_n f1_mo_c fT_mo_c) H := hP
  have hD : va_D A (wd_X4_takeFrom cI cZ AT A1 AT_sl AT_fl AT_ro AT_nt AT_mk AT_mo A1_sl A1_fl A1_ro A1_nt A1_mk A1_mo AT_sl_c A1_sl_c AT_fl_c A1_fl_c AT_ro_c A1_ro_c AT_nt_c A1_nt_c AT_mk_c A1_mk_c AT_mo_c A1_mo_c vT_ng v1_ng r_8.1 v1_sl_n f1_sl_c r_8.2 r_19.1 v1_fl_n f1_fl_c r_19.2 r_30.1 v1_ro_n f1_ro_c r_30.2 vT_nt_n v1_nt_n f1_nt_c fT_nt_c vT_mk_n v1_mk_n f1_mk_c fT_mk_c vT_mo_n v1_mo_n f1_mo_c fT_mo_c) := hD
  refine lv_aload_n hx hb dX4_takeFrom_33 rfl (lv_at hl 0 rfl) ?_
  refine gf_X4_26 (v := .ref AT_nt) hx hb hts hown hK hN hP 0 rfl rfl dX4_takeFrom_34 ?_
  refine lv_aload_n hx hb dX4_takeFrom_37 rfl (lv_at hl 1 rfl) ?_
  refine gf_X4_26 (v := .ref A1_nt) hx hb hts hown hK hN hP 1 rfl rfl dX4_takeFrom_38 ?_
  obtain ⟨r_41, hc_41, hm⟩ := ob_s hm
  refine q_cv (q_rv (rest := []) ⟨hx, hb, hml, hown, hts⟩ hK hN hP hD (c_X3_takeFrom l D cI cZ H.size AT_nt A1_nt AT_nt_c A1_nt_c 4 4 24 24 vT_nt_n v1_nt_n f1_nt_c fT_nt_c r_41 hc_41) mb_X3_takeFrom mv_X3_takeFrom wl_X4_42 [14, 15, 16, 17] rfl rfl rfl (Nat.le_of_ble_eq_true rfl) (Nat.le_of_ble_eq_true rfl) rfl hl.1 rfl (Nat.le_of_ble_eq_true rfl) ⟨Nat.le_refl 0, Nat.le_refl 0⟩ dX4_takeFrom_41) hP hD hS hA [14, 15, 16, 17] rfl rfl (fun H locs hP hD hS => ?_)
  have hP : va_P D vwCl (wd_X4_takeFrom cI cZ AT A1 AT_sl AT_fl AT_ro AT_nt AT_mk AT_mo A1_sl A1_fl A1_ro A1_nt A1_mk A1_mo AT_sl_c A1_sl_c AT_fl_c A1_fl_c AT_ro_c A1_ro_c AT_nt_c A1_nt_c AT_mk_c A1_mk_c AT_mo_c A1_mo_c vT_ng v1_ng r_8.1 v1_sl_n f1_sl_c r_8.2 r_19.1 v1_fl_n f1_fl_c r_19.2 r_30.1 v1_ro_n f1_ro_c r_30.2 r_41.1 v1_nt_n f1_nt_c r_41.2 vT_mk_n v1_mk_n f1_mk_c fT_mk_c vT_mo_n v1_mo_n f1_mo_c fT_mo_c) H := hP
  have hD : va_D A (wd_X4_takeFrom cI cZ AT A1 AT_sl AT_fl AT_ro AT_nt AT_mk AT_mo A1_sl A1_fl A1_ro A1_nt A1_mk A1_mo AT_sl_c A1_sl_c AT_fl_c A1_fl_c AT_ro_c A1_ro_c AT_nt_c A1_nt_c AT_mk_c A1_mk_c AT_mo_c A1_mo_c vT_ng v1_ng r_8.1 v1_sl_n f1_sl_c r_8.2 r_19.1 v1_fl_n f1_fl_c r_19.2 r_30.1 v1_ro_n f1_ro_c r_30.2 r_41.1 v1_nt_n f1_nt_c r_41.2 vT_mk_n v1_mk_n f1_mk_c fT_mk_c vT_mo_n v1_mo_n f1_mo_c fT_mo_c) := hD
  refine lv_aload_n hx hb dX4_takeFrom_44 rfl (lv_at hl 0 rfl) ?_
  refine gf_X4_29 (v := .ref AT_mk) hx hb hts hown hK hN hP 0 rfl rfl dX4_takeFrom_45 ?_
  refine lv_aload_n hx hb dX4_takeFrom_48 rfl (lv_at hl 1 rfl) ?_
  refine gf_X4_29 (v := .ref A1_mk) hx hb hts hown hK hN hP 1 rfl rfl dX4_takeFrom_49 ?_
  obtain ⟨r_52, hc_52, hm⟩ := ob_s hm
  refine q_cv (q_rv (rest := []) ⟨hx, hb, hml, hown, hts⟩ hK hN hP hD (c_X3_takeFrom l D cI cZ H.size AT_mk A1_mk AT_mk_c A1_mk_c 4 4 24 24 vT_mk_n v1_mk_n f1_mk_c fT_mk_c r_52 hc_52) mb_X3_takeFrom mv_X3_takeFrom wl_X4_42 [18, 19, 20, 21] rfl rfl rfl (Nat.le_of_ble_eq_true rfl) (Nat.le_of_ble_eq_true rfl) rfl hl.1 rfl (Nat.le_of_ble_eq_true rfl) ⟨Nat.le_refl 0, Nat.le_refl 0⟩ dX4_takeFrom_52) hP hD hS hA [18, 19, 20, 21] rfl rfl (fun H locs hP hD hS => ?_)
  have hP : va_P D vwCl (wd_X4_takeFrom cI cZ AT A1 AT_sl AT_fl AT_ro AT_nt AT_mk AT_mo A1_sl A1_fl A1_ro A1_nt A1_mk A1_mo AT_sl_c A1_sl_c AT_fl_c A1_fl_c AT_ro_c A1_ro_c AT_nt_c A1_nt_c AT_mk_c A1_mk_c AT_mo_c A1_mo_c vT_ng v1_ng r_8.1 v1_sl_n f1_sl_c r_8.2 r_19.1 v1_fl_n f1_fl_c r_19.2 r_30.1 v1_ro_n f1_ro_c r_30.2 r_41.1 v1_nt_n f1_nt_c r_41.2 r_52.1 v1_mk_n f1_mk_c r_52.2 vT_mo_n v1_mo_n f1_mo_c fT_mo_c) H := hP
  have hD : va_D A (wd_X4_takeFrom cI cZ AT A1 AT_sl AT_fl AT_ro AT_nt AT_mk AT_mo A1_sl A1_fl A1_ro A1_nt A1_mk A1_mo AT_sl_c A1_sl_c AT_fl_c A1_fl_c AT_ro_c A1_ro_c AT_nt_c A1_nt_c AT_mk_c A1_mk_c AT_mo_c A1_mo_c vT_ng v1_ng r_8.1 v1_sl_n f1_sl_c r_8.2 r_19.1 v1_fl_n f1_fl_c r_19.2 r_30.1 v1_ro_n f1_ro_c r_30.2 r_41.1 v1_nt_n f1_nt_c r_41.2 r_52.1 v1_mk_n f1_mk_c r_52.2 vT_mo_n v1_mo_n f1_mo_c fT_mo_c) := hD
  refine lv_aload_n hx hb dX4_takeFrom_55 rfl (lv_at hl 0 rfl) ?_
  refine gf_X4_32 (v := .ref AT_mo) hx hb hts hown hK hN hP 0 rfl rfl dX4_takeFrom_56 ?_
  refine lv_aload_n hx hb dX4_takeFrom_59 rfl (lv_at hl 1 rfl) ?_
  refine gf_X4_32 (v := .ref A1_mo) hx hb hts hown hK hN hP 1 rfl rfl dX4_takeFrom_60 ?_
  obtain ⟨r_63, hc_63, hm⟩ := ob_s hm
  refine q_cv (q_rv (rest := []) ⟨hx, hb, hml, hown, hts⟩ hK hN hP hD (c_X3_takeFrom l D cI cZ H.size AT_mo A1_mo AT_mo_c A1_mo_c 25 25 200 200 vT_mo_n v1_mo_n f1_mo_c fT_mo_c r_63 hc_63) mb_X3_takeFrom mv_X3_takeFrom wl_X4_42 [22, 23, 24, 25] rfl rfl rfl (Nat.le_of_ble_eq_true rfl) (Nat.le_of_ble_eq_true rfl) rfl hl.1 rfl (Nat.le_of_ble_eq_true rfl) ⟨Nat.le_refl 0, Nat.le_refl 0⟩ dX4_takeFrom_63) hP hD hS hA [22, 23, 24, 25] rfl rfl (fun H locs hP hD hS => ?_)
  have hP : va_P D vwCl (wd_X4_takeFrom cI cZ AT A1 AT_sl AT_fl AT_ro AT_nt AT_mk AT_mo A1_sl A1_fl A1_ro A1_nt A1_mk A1_mo AT_sl_c A1_sl_c AT_fl_c A1_fl_c AT_ro_c A1_ro_c AT_nt_c A1_nt_c AT_mk_c A1_mk_c AT_mo_c A1_mo_c vT_ng v1_ng r_8.1 v1_sl_n f1_sl_c r_8.2 r_19.1 v1_fl_n f1_fl_c r_19.2 r_30.1 v1_ro_n f1_ro_c r_30.2 r_41.1 v1_nt_n f1_nt_c r_41.2 r_52.1 v1_mk_n f1_mk_c r_52.2 r_63.1 v1_mo_n f1_mo_c r_63.2) H := hP
  have hD : va_D A (wd_X4_takeFrom cI cZ AT A1 AT_sl AT_fl AT_ro AT_nt AT_mk AT_mo A1_sl A1_fl A1_ro A1_nt A1_mk A1_mo AT_sl_c A1_sl_c AT_fl_c A1_fl_c AT_ro_c A1_ro_c AT_nt_c A1_nt_c AT_mk_c A1_mk_c AT_mo_c A1_mo_c vT_ng v1_ng r_8.1 v1_sl_n f1_sl_c r_8.2 r_19.1 v1_fl_n f1_fl_c r_19.2 r_30.1 v1_ro_n f1_ro_c r_30.2 r_41.1 v1_nt_n f1_nt_c r_41.2 r_52.1 v1_mk_n f1_mk_c r_52.2 r_63.1 v1_mo_n f1_mo_c r_63.2) := hD
  refine lv_aload_n hx hb dX4_takeFrom_66 rfl (lv_at hl 0 rfl) ?_
  refine lv_aload_n hx hb dX4_takeFrom_67 rfl (lv_at hl 1 rfl) ?_
  refine gf_X4_38 (v := .int v1_ng) hx hb hts hown hK hN hP 1 rfl rfl dX4_takeFrom_68 ?_
  refine pf_X4_38 hx hb hts hown hK hN hP hD hS 0 rfl dX4_takeFrom_71 (fun H locs hP hD hS => ?_)
  have hP : va_P D vwCl (wd_X4_takeFrom cI cZ AT A1 AT_sl AT_fl AT_ro AT_nt AT_mk AT_mo A1_sl A1_fl A1_ro A1_nt A1_mk A1_mo AT_sl_c A1_sl_c AT_fl_c A1_fl_c AT_ro_c A1_ro_c AT_nt_c A1_nt_c AT_mk_c A1_mk_c AT_mo_c A1_mo_c v1_ng v1_ng r_8.1 v1_sl_n f1_sl_c r_8.2 r_19.1 v1_fl_n f1_fl_c r_19.2 r_30.1 v1_ro_n f1_ro_c r_30.2 r_41.1 v1_nt_n f1_nt_c r_41.2 r_52.1 v1_mk_n f1_mk_c r_52.2 r_63.1 v1_mo_n f1_mo_c r_63.2) H := hP
  have hD : va_D A (wd_X4_takeFrom cI cZ AT A1 AT_sl AT_fl AT_ro AT_nt AT_mk AT_mo A1_sl A1_fl A1_ro A1_nt A1_mk A1_mo AT_sl_c A1_sl_c AT_fl_c A1_fl_c AT_ro_c A1_ro_c AT_nt_c A1_nt_c AT_mk_c A1_mk_c AT_mo_c A1_mo_c v1_ng v1_ng r_8.1 v1_sl_n f1_sl_c r_8.2 r_19.1 v1_fl_n f1_fl_c r_19.2 r_30.1 v1_ro_n f1_ro_c r_30.2 r_41.1 v1_nt_n f1_nt_c r_41.2 r_52.1 v1_mk_n f1_mk_c r_52.2 r_63.1 v1_mo_n f1_mo_c r_63.2) := hD
  have hm := Option.some.inj hm
  subst hm
  exact q_vret hx hb hr hlocks hP hS dX4_takeFrom_74
theorem mb_X4_startAnew : q_mb yX4_startAnew cX4_startAnew 1 none 0 := ⟨wc_X4_startAnew, wn_X4, by decide, by decide, by decide +kernel⟩
theorem mv_X4_startAnew : q_mv yX4_startAnew 4 := ⟨wi_X4_startAnew, ws_X4_startAnew, _, rfl, rfl⟩
def wd_X4_startAnew (cI cZ : ClassId) (AT AT_sl AT_fl AT_ro AT_nt AT_mk AT_mo AT_sl_c AT_fl_c AT_ro_c AT_nt_c AT_mk_c AT_mo_c : Nat) (vT_ng : Int32) (vT_sl_n : Int32) (vT_fl_n : Int32) (vT_ro_n : Int32) (vT_nt_n : Int32) (vT_mk_n : Int32) (vT_mo_n : Int32) : va_W := [(AT, .inr (4, [.ref AT_sl, .ref AT_fl, .ref AT_ro, .ref AT_nt, .ref AT_mk, .ref AT_mo, .int vT_ng])), (AT_sl, .inr (3, [.int 4, .ref AT_sl_c, .int vT_sl_n])), (AT_fl, .inr (3, [.int 3, .ref AT_fl_c, .int vT_fl_n])), (AT_ro, .inr (3, [.int 3, .ref AT_ro_c, .int vT_ro_n])), (AT_nt, .inr (3, [.int 4, .ref AT_nt_c, .int vT_nt_n])), (AT_mk, .inr (3, [.int 4, .ref AT_mk_c, .int vT_mk_n])), (AT_mo, .inr (3, [.int 25, .ref AT_mo_c, .int vT_mo_n]))]
def fm_X4_startAnew (vT_ng : Int32) (vT_sl_n : Int32) (vT_fl_n : Int32) (vT_ro_n : Int32) (vT_nt_n : Int32) (vT_mk_n : Int32) (vT_mo_n : Int32) : Option (Int32 × Int32 × Int32 × Int32 × Int32 × Int32 × Int32) := Option.bind (fm_X3_empty vT_sl_n) (fun r_4 => Option.bind (fm_X3_empty vT_fl_n) (fun r_11 => Option.bind (fm_X3_empty vT_ro_n) (fun r_18 => Option.bind (fm_X3_empty vT_nt_n) (fun r_25 => Option.bind (fm_X3_empty vT_mk_n) (fun r_32 => Option.bind (fm_X3_empty vT_mo_n) (fun r_39 => some (0, r_4, r_11, r_18, r_25, r_32, r_39)))))))
set_option maxHeartbeats 4000000 in
set_option maxRecDepth 100000 in
theorem c_X4_startAnew (l : Launch) (D : va_G) (cI cZ : ClassId) (sz : Nat) (AT AT_sl AT_fl AT_ro AT_nt AT_mk AT_mo AT_sl_c AT_fl_c AT_ro_c AT_nt_c AT_mk_c AT_mo_c : Nat) (vT_ng : Int32) (vT_sl_n : Int32) (vT_fl_n : Int32) (vT_ro_n : Int32) (vT_nt_n : Int32) (vT_mk_n : Int32) (vT_mo_n : Int32) (out : (Int32 × Int32 × Int32 × Int32 × Int32 × Int32 × Int32)) (hm : fm_X4_startAnew vT_ng vT_sl_n vT_fl_n vT_ro_n vT_nt_n vT_mk_n vT_mo_n = some out) : Met l yX4_startAnew (Cond.code yX4_startAnew cX4_startAnew 1 none :: bg) { frames := 1, cells := 0, slots := 0, locals := 20 } (va_Pc [.ref AT] (q_pre D cI cZ sz (wd_X4_startAnew cI cZ AT AT_sl AT_fl AT_ro AT_nt AT_mk AT_mo AT_sl_c AT_fl_c AT_ro_c AT_nt_c AT_mk_c AT_mo_c vT_ng vT_sl_n vT_fl_n vT_ro_n vT_nt_n vT_mk_n vT_mo_n))) (q_Qv D (wd_X4_startAnew cI cZ AT AT_sl AT_fl AT_ro AT_nt AT_mk AT_mo AT_sl_c AT_fl_c AT_ro_c AT_nt_c AT_mk_c AT_mo_c out.1 out.2.1 out.2.2.1 out.2.2.2.1 out.2.2.2.2.1 out.2.2.2.2.2.1 out.2.2.2.2.2.2) (va_A (wd_X4_startAnew cI cZ AT AT_sl AT_fl AT_ro AT_nt AT_mk AT_mo AT_sl_c AT_fl_c AT_ro_c AT_nt_c AT_mk_c AT_mo_c vT_ng vT_sl_n vT_fl_n vT_ro_n vT_nt_n vT_mk_n vT_mo_n) sz)) 0 0 (va_A (wd_X4_startAnew cI cZ AT AT_sl AT_fl AT_ro AT_nt AT_mk AT_mo AT_sl_c AT_fl_c AT_ro_c AT_nt_c AT_mk_c AT_mo_c vT_ng vT_sl_n vT_fl_n vT_ro_n vT_nt_n vT_mk_n vT_mo_n) sz) := by
  refine q_met (fun A => q_Qv D (wd_X4_startAnew cI cZ AT AT_sl AT_fl AT_ro AT_nt AT_mk AT_mo AT_sl_c AT_fl_c AT_ro_c AT_nt_c AT_mk_c AT_mo_c out.1 out.2.1 out.2.2.1 out.2.2.2.1 out.2.2.2.2.1 out.2.2.2.2.2.1 out.2.2.2.2.2.2) A) (by decide) (Nat.le_of_ble_eq_true rfl) ?_
  intro p e s m below meth c ls A hx hb hr hml hown hts hlocks _ hA hS hP hD hK hN hl
  have hown : s.vm.findClass RX4 = some m.cls := hown
  have hl : lv_has ls 1 [(0, .ref AT)] := hl
  unfold fm_X4_startAnew at hm
  refine q_gen hS hP ?_
  intro H locs hP hS
  refine lv_aload_n hx hb dX4_startAnew_0 rfl (lv_at hl 0 rfl) ?_
  refine gf_X4_14 (v := .ref AT_sl) hx hb hts hown hK hN hP 0 rfl rfl dX4_startAnew_1 ?_
  obtain ⟨r_4, hc_4, hm⟩ := ob_s hm
  refine q_cv (q_rv (rest := []) ⟨hx, hb, hml, hown, hts⟩ hK hN hP hD (c_X3_empty l D cI cZ H.size AT_sl AT_sl_c 4 vT_sl_n r_4 hc_4) mb_X3_empty mv_X3_empty wl_X4_35 [1] rfl rfl rfl (Nat.le_of_ble_eq_true rfl) (Nat.le_of_ble_eq_true rfl) rfl hl.1 rfl (Nat.le_of_ble_eq_true rfl) ⟨Nat.le_refl 0, Nat.le_refl 0⟩ dX4_startAnew_4) hP hD hS hA [1] rfl rfl (fun H locs hP hD hS => ?_)
  have hP : va_P D vwCl (wd_X4_startAnew cI cZ AT AT_sl AT_fl AT_ro AT_nt AT_mk AT_mo AT_sl_c AT_fl_c AT_ro_c AT_nt_c AT_mk_c AT_mo_c vT_ng r_4 vT_fl_n vT_ro_n vT_nt_n vT_mk_n vT_mo_n) H := hP
  have hD : va_D A (wd_X4_startAnew cI cZ AT AT_sl AT_fl AT_ro AT_nt AT_mk AT_mo AT_sl_c AT_fl_c AT_ro_c AT_nt_c AT_mk_c AT_mo_c vT_ng r_4 vT_fl_n vT_ro_n vT_nt_n vT_mk_n vT_mo_n) := hD
  refine lv_aload_n hx hb dX4_startAnew_7 rfl (lv_at hl 0 rfl) ?_
  refine gf_X4_20 (v := .ref AT_fl) hx hb hts hown hK hN hP 0 rfl rfl dX4_startAnew_8 ?_
  obtain ⟨r_11, hc_11, hm⟩ := ob_s hm
  refine q_cv (q_rv (rest := []) ⟨hx, hb, hml, hown, hts⟩ hK hN hP hD (c_X3_empty l D cI cZ H.size AT_fl AT_fl_c 3 vT_fl_n r_11 hc_11) mb_X3_empty mv_X3_empty wl_X4_35 [2] rfl rfl rfl (Nat.le_of_ble_eq_true rfl) (Nat.le_of_ble_eq_true rfl) rfl hl.1 rfl (Nat.le_of_ble_eq_true rfl) ⟨Nat.le_refl 0, Nat.le_refl 0⟩ dX4_startAnew_11) hP hD hS hA [2] rfl rfl (fun H locs hP hD hS => ?_)
  have hP : va_P D vwCl (wd_X4_startAnew cI cZ AT AT_sl AT_fl AT_ro AT_nt AT_mk AT_mo AT_sl_c AT_fl_c AT_ro_c AT_nt_c AT_mk_c AT_mo_c vT_ng r_4 r_11 vT_ro_n vT_nt_n vT_mk_n vT_mo_n) H := hP
  have hD : va_D A (wd_X4_startAnew cI cZ AT AT_sl AT_fl AT_ro AT_nt AT_mk AT_mo AT_sl_c AT_fl_c AT_ro_c AT_nt_c AT_mk_c AT_mo_c vT_ng r_4 r_11 vT_ro_n vT_nt_n vT_mk_n vT_mo_n) := hD
  refine lv_aload_n hx hb dX4_startAnew_14 rfl (lv_at hl 0 rfl) ?_
  refine gf_X4_23 (v := .ref AT_ro) hx hb hts hown hK hN hP 0 rfl rfl dX4_startAnew_15 ?_
  obtain ⟨r_18, hc_18, hm⟩ := ob_s hm
  refine q_cv (q_rv (rest := []) ⟨hx, hb, hml, hown, hts⟩ hK hN hP hD (c_X3_empty l D cI cZ H.size AT_ro AT_ro_c 3 vT_ro_n r_18 hc_18) mb_X3_empty mv_X3_empty wl_X4_35 [3] rfl rfl rfl (Nat.le_of_ble_eq_true rfl) (Nat.le_of_ble_eq_true rfl) rfl hl.1 rfl (Nat.le_of_ble_eq_true rfl) ⟨Nat.le_refl 0, Nat.le_refl 0⟩ dX4_startAnew_18) hP hD hS hA [3] rfl rfl (fun H locs hP hD hS => ?_)
  have hP : va_P D vwCl (wd_X4_startAnew cI cZ AT AT_sl AT_fl AT_ro AT_nt AT_mk AT_mo AT_sl_c AT_fl_c AT_ro_c AT_nt_c AT_mk_c AT_mo_c vT_ng r_4 r_11 r_18 vT_nt_n vT_mk_n vT_mo_n) H := hP
  have hD : va_D A (wd_X4_startAnew cI cZ AT AT_sl AT_fl AT_ro AT_nt AT_mk AT_mo AT_sl_c AT_fl_c AT_ro_c AT_nt_c AT_mk_c AT_mo_c vT_ng r_4 r_11 r_18 vT_nt_n vT_mk_n vT_mo_n) := hD
  refine lv_aload_n hx hb dX4_startAnew_21 rfl (lv_at hl 0 rfl) ?_
  refine gf_X4_26 (v := .ref AT_nt) hx hb hts hown hK hN hP 0 rfl rfl dX4_startAnew_22 ?_
  obtain ⟨r_25, hc_25, hm⟩ := ob_s hm
  refine q_cv (q_rv (rest := []) ⟨hx, hb, hml, hown, hts⟩ hK hN hP hD (c_X3_empty l D cI cZ H.size AT_nt AT_nt_c 4 vT_nt_n r_25 hc_25) mb_X3_empty mv_X3_empty wl_X4_35 [4] rfl rfl rfl (Nat.le_of_ble_eq_true rfl) (Nat.le_of_ble_eq_true rfl) rfl hl.1 rfl (Nat.le_of_ble_eq_true rfl) ⟨Nat.le_refl 0, Nat.le_refl 0⟩ dX4_startAnew_25) hP hD hS hA [4] rfl rfl (fun H locs hP hD hS => ?_)
  have hP : va_P D vwCl (wd_X4_startAnew cI cZ AT AT_sl AT_fl AT_ro AT_nt AT_mk AT_mo AT_sl_c AT_fl_c AT_ro_c AT_nt_c AT_mk_c AT_mo_c vT_ng r_4 r_11 r_18 r_25 vT_mk_n vT_mo_n) H := hP
  have hD : va_D A (wd_X4_startAnew cI cZ AT AT_sl AT_fl AT_ro AT_nt AT_mk AT_mo AT_sl_c AT_fl_c AT_ro_c AT_nt_c AT_mk_c AT_mo_c vT_ng r_4 r_11 r_18 r_25 vT_mk_n vT_mo_n) := hD
  refine lv_aload_n hx hb dX4_startAnew_28 rfl (lv_at hl 0 rfl) ?_
  refine gf_X4_29 (v := .ref AT_mk) hx hb hts hown hK hN hP 0 rfl rfl dX4_startAnew_29 ?_
  obtain ⟨r_32, hc_32, hm⟩ := ob_s hm
  refine q_cv (q_rv (rest := []) ⟨hx, hb, hml, hown, hts⟩ hK hN hP hD (c_X3_empty l D cI cZ H.size AT_mk AT_mk_c 4 vT_mk_n r_32 hc_32) mb_X3_empty mv_X3_empty wl_X4_35 [5] rfl rfl rfl (Nat.le_of_ble_eq_true rfl) (Nat.le_of_ble_eq_true rfl) rfl hl.1 rfl (Nat.le_of_ble_eq_true rfl) ⟨Nat.le_refl 0, Nat.le_refl 0⟩ dX4_startAnew_32) hP hD hS hA [5] rfl rfl (fun H locs hP hD hS => ?_)
  have hP : va_P D vwCl (wd_X4_startAnew cI cZ AT AT_sl AT_fl AT_ro AT_nt AT_mk AT_mo AT_sl_c AT_fl_c AT_ro_c AT_nt_c AT_mk_c AT_mo_c vT_ng r_4 r_11 r_18 r_25 r_32 vT_mo_n) H := hP
  have hD : va_D A (wd_X4_startAnew cI cZ AT AT_sl AT_fl AT_ro AT_nt AT_mk AT_mo AT_sl_c AT_fl_c AT_ro_c AT_nt_c AT_mk_c AT_mo_c vT_ng r_4 r_11 r_18 r_25 r_32 vT_mo_n) := hD
  refine lv_aload_n hx hb dX4_startAnew_35 rfl (lv_at hl 0 rfl) ?_
  refine gf_X4_32 (v := .ref AT_mo) hx hb hts hown hK hN hP 0 rfl rfl dX4_startAnew_36 ?_
  obtain ⟨r_39, hc_39, hm⟩ := ob_s hm
  refine q_cv (q_rv (rest := []) ⟨hx, hb, hml, hown, hts⟩ hK hN hP hD (c_X3_empty l D cI cZ H.size AT_mo AT_mo_c 25 vT_mo_n r_39 hc_39) mb_X3_empty mv_X3_empty wl_X4_35 [6] rfl rfl rfl (Nat.le_of_ble_eq_true rfl) (Nat.le_of_ble_eq_true rfl) rfl hl.1 rfl (Nat.le_of_ble_eq_true rfl) ⟨Nat.le_refl 0, Nat.le_refl 0⟩ dX4_startAnew_39) hP hD hS hA [6] rfl rfl (fun H locs hP hD hS => ?_)
  have hP : va_P D vwCl (wd_X4_startAnew cI cZ AT AT_sl AT_fl AT_ro AT_nt AT_mk AT_mo AT_sl_c AT_fl_c AT_ro_c AT_nt_c AT_mk_c AT_mo_c vT_ng r_4 r_11 r_18 r_25 r_32 r_39) H := hP
  have hD : va_D A (wd_X4_startAnew cI cZ AT AT_sl AT_fl AT_ro AT_nt AT_mk AT_mo AT_sl_c AT_fl_c AT_ro_c AT_nt_c AT_mk_c AT_mo_c vT_ng r_4 r_11 r_18 r_25 r_32 r_39) := hD
  refine lv_aload_n hx hb dX4_startAnew_42 rfl (lv_at hl 0 rfl) ?_
  refine lv_iconst (v := 0) hx hb dX4_startAnew_43 (by decide) ?_
  refine pf_X4_38 hx hb hts hown hK hN hP hD hS 0 rfl dX4_startAnew_44 (fun H locs hP hD hS => ?_)
  have hP : va_P D vwCl (wd_X4_startAnew cI cZ AT AT_sl AT_fl AT_ro AT_nt AT_mk AT_mo AT_sl_c AT_fl_c AT_ro_c AT_nt_c AT_mk_c AT_mo_c 0 r_4 r_11 r_18 r_25 r_32 r_39) H := hP
  have hD : va_D A (wd_X4_startAnew cI cZ AT AT_sl AT_fl AT_ro AT_nt AT_mk AT_mo AT_sl_c AT_fl_c AT_ro_c AT_nt_c AT_mk_c AT_mo_c 0 r_4 r_11 r_18 r_25 r_32 r_39) := hD
  have hm := Option.some.inj hm
  subst hm
  exact q_vret hx hb hr hlocks hP hS dX4_startAnew_47
theorem mb_X4_addSleeper : q_mb yX4_addSleeper cX4_addSleeper 4 none 2 := ⟨wc_X4_addSleeper, wn_X4, by decide, by decide, by decide +kernel⟩
theorem mv_X4_addSleeper : q_mv yX4_addSleeper 4 := ⟨wi_X4_addSleeper, ws_X4_addSleeper, _, rfl, rfl⟩
def wd_X4_addSleeper (cI cZ : ClassId) (AT AT_sl AT_fl AT_ro AT_nt AT_mk AT_mo AT_sl_c AT_mo_c : Nat) (vT_ng : Int32) (vT_sl_n : Int32) (fT_sl_c : Nat → Int32) (vT_mo_n : Int32) : va_W := [(AT, .inr (4, [.ref AT_sl, .ref AT_fl, .ref AT_ro, .ref AT_nt, .ref AT_mk, .ref AT_mo, .int vT_ng])), (AT_sl, .inr (3, [.int 4, .ref AT_sl_c, .int vT_sl_n])), (AT_sl_c, .inl (cI, 24, .inl fT_sl_c)), (AT_mo, .inr (3, [.int 25, .ref AT_mo_c, .int vT_mo_n]))]
def fL_X4_addSleeper_2 (p1 : Int32) (p2 : Int32) : Nat → Int32 → Int32 → (Nat → Int32) → Int32 → Option (Int32 × (Nat → Int32) × Int32)
  | 0, _, _, _, _ => none
  | fu + 1, x3, vT_sl_n, fT_sl_c, vT_mo_n => if 5 ≤ x3 then (Option.bind (fm_X3_add 4 24 p1 x3 p2 0 vT_sl_n fT_sl_c) (fun r_30 => Option.bind (fm_X3_empty vT_mo_n) (fun r_37 => some (r_30.1, r_30.2, r_37)))) else (Option.bind (fm_X4_sleeperOn x3 vT_sl_n fT_sl_c) (fun r_9 => if r_9 = (-1) then (Option.bind (fm_X3_add 4 24 p1 x3 p2 0 vT_sl_n fT_sl_c) (fun r_30 => Option.bind (fm_X3_empty vT_mo_n) (fun r_37 => some (r_30.1, r_30.2, r_37)))) else (fL_X4_addSleeper_2 p1 p2 fu (x3 + 1) vT_sl_n fT_sl_c vT_mo_n)))
def fm_X4_addSleeper (p1 : Int32) (p2 : Int32) (vT_sl_n : Int32) (fT_sl_c : Nat → Int32) (vT_mo_n : Int32) : Option (Int32 × (Nat → Int32) × Int32) := fL_X4_addSleeper_2 p1 p2 FU 0 vT_sl_n fT_sl_c vT_mo_n
set_option maxHeartbeats 4000000 in
set_option maxRecDepth 100000 in
theorem c_X4_addSleeper (l : Launch) (D : va_G) (cI cZ : ClassId) (sz : Nat) (AT AT_sl AT_fl AT_ro AT_nt AT_mk AT_mo AT_sl_c AT_mo_c : Nat) (vT_ng : Int32) (vT_sl_n : Int32) (fT_sl_c : Nat → Int32) (vT_mo_n : Int32) (p1 : Int32) (p2 : Int32) (out : (Int32 × (Nat → Int32) × Int32)) (hm : fm_X4_addSleeper p1 p2 vT_sl_n fT_sl_c vT_mo_n = some out) : Met l yX4_addSleeper (Cond.code yX4_addSleeper cX4_addSleeper 4 none :: bg) { frames := 2, cells := 0, slots := 0, locals := 49 } (va_Pc [.ref AT, .int p1, .int p2] (q_pre D cI cZ sz (wd_X4_addSleeper cI cZ AT AT_sl AT_fl AT_ro AT_nt AT_mk AT_mo AT_sl_c AT_mo_c vT_ng vT_sl_n fT_sl_c vT_mo_n))) (q_Qv D (wd_X4_addSleeper cI cZ AT AT_sl AT_fl AT_ro AT_nt AT_mk AT_mo AT_sl_c AT_mo_c vT_ng out.1 out.2.1 out.2.2) (va_A (wd_X4_addSleeper cI cZ AT AT_sl AT_fl AT_ro AT_nt AT_mk AT_mo AT_sl_c AT_mo_c vT_ng vT_sl_n fT_sl_c vT_mo_n) sz)) 0 0 (va_A (wd_X4_addSleeper cI cZ AT AT_sl AT_fl AT_ro AT_nt AT_mk AT_mo AT_sl_c AT_mo_c vT_ng vT_sl_n fT_sl_c vT_mo_n) sz) := by
  refine q_met (fun A => q_Qv D (wd_X4_addSleeper cI cZ AT AT_sl AT_fl AT_ro AT_nt AT_mk AT_mo AT_sl_c AT_mo_c vT_ng out.1 out.2.1 out.2.2) A) (by decide) (Nat.le_of_ble_eq_true rfl) ?_
  intro p e s m below meth c ls A hx hb hr hml hown hts hlocks _ hA hS hP hD hK hN hl
  have hown : s.vm.findClass RX4 = some m.cls := hown
  have hl : lv_has ls 4 [(0, .ref AT), (1, .int p1), (2, .int p2)] := hl
  have hL_2 : ∀ (fu_2 : Nat) (x3 : Int32) (vT_sl_n : Int32) (fT_sl_c : Nat → Int32) (vT_mo_n : Int32) (H : Heap) (locs : List Loc) (ls : Array Slot), fL_X4_addSleeper_2 p1 p2 fu_2 x3 vT_sl_n fT_sl_c vT_mo_n = some out → va_P D vwCl (wd_X4_addSleeper cI cZ AT AT_sl AT_fl AT_ro AT_nt AT_mk AT_mo AT_sl_c AT_mo_c vT_ng vT_sl_n fT_sl_c vT_mo_n) H → va_D A (wd_X4_addSleeper cI cZ AT AT_sl AT_fl AT_ro AT_nt AT_mk AT_mo AT_sl_c AT_mo_c vT_ng vT_sl_n fT_sl_c vT_mo_n) → va_S A s.heap H locs → lv_has ls 4 [(3, .int x3), (0, .ref AT), (1, .int p1), (2, .int p2)] → W p l e { frames := 2, cells := 0, slots := 0, locals := 49 } s m ([.ref AT, .int p1, .int p2] : List Value).toArray below meth c H locs 0 0 (MQ below (q_Qv D (wd_X4_addSleeper cI cZ AT AT_sl AT_fl AT_ro AT_nt AT_mk AT_mo AT_sl_c AT_mo_c vT_ng out.1 out.2.1 out.2.2) A) ([.ref AT, .int p1, .int p2] : List Value).toArray s 0 0 A) (F0 m 2 ls []) := by
    intro fu_2
    induction fu_2 with
    | zero => intro x3 vT_sl_n fT_sl_c vT_mo_n H locs ls hm hP hD hS hl; exact absurd (show (none : Option (Int32 × (Nat → Int32) × Int32)) = some out from hm) (fun h => nomatch h)
    | succ fu_2 ih_2 =>
      intro x3 vT_sl_n fT_sl_c vT_mo_n H locs ls hm hP hD hS hl
      rw [fL_X4_addSleeper_2] at hm
      refine lv_iload_n hx hb dX4_addSleeper_2 rfl (lv_at hl 0 rfl) ?_
      refine lv_iconst (v := 5) hx hb dX4_addSleeper_3 (by decide) ?_
      refine lv_icmp_ge (tgt := 22) hx hb dX4_addSleeper_4 (by decide) (fun c_4 => ?_) (fun c_4 => ?_)
      · have hm := it_s c_4 hm
        refine lv_aload_n hx hb dX4_addSleeper_22 rfl (lv_at hl 1 rfl) ?_
        refine gf_X4_14 (v := .ref AT_sl) hx hb hts hown hK hN hP 0 rfl rfl dX4_addSleeper_23 ?_
        refine lv_iload_n hx hb dX4_addSleeper_26 rfl (lv_at hl 2 rfl) ?_
        refine lv_iload_n hx hb dX4_addSleeper_27 rfl (lv_at hl 0 rfl) ?_
        refine lv_iload_n hx hb dX4_addSleeper_28 rfl (lv_at hl 3 rfl) ?_
        refine lv_iconst (v := 0) hx hb dX4_addSleeper_29 (by decide) ?_
        obtain ⟨r_30, hc_30, hm⟩ := ob_s hm
        refine q_cv (q_rv (rest := []) ⟨hx, hb, hml, hown, hts⟩ hK hN hP hD (c_X3_add l D cI cZ H.size AT_sl AT_sl_c 4 24 vT_sl_n fT_sl_c p1 x3 p2 0 r_30 hc_30) mb_X3_add mv_X3_add wl_X4_50 [1, 2] rfl rfl rfl (Nat.le_of_ble_eq_true rfl) (Nat.le_of_ble_eq_true rfl) rfl hl.1 rfl (Nat.le_of_ble_eq_true rfl) ⟨Nat.le_refl 0, Nat.le_refl 0⟩ dX4_addSleeper_30) hP hD hS hA [1, 2] rfl rfl (fun H locs hP hD hS => ?_)
        have hP : va_P D vwCl (wd_X4_addSleeper cI cZ AT AT_sl AT_fl AT_ro AT_nt AT_mk AT_mo AT_sl_c AT_mo_c vT_ng r_30.1 r_30.2 vT_mo_n) H := hP
        have hD : va_D A (wd_X4_addSleeper cI cZ AT AT_sl AT_fl AT_ro AT_nt AT_mk AT_mo AT_sl_c AT_mo_c vT_ng r_30.1 r_30.2 vT_mo_n) := hD
        refine lv_aload_n hx hb dX4_addSleeper_33 rfl (lv_at hl 1 rfl) ?_
        refine gf_X4_32 (v := .ref AT_mo) hx hb hts hown hK hN hP 0 rfl rfl dX4_addSleeper_34 ?_
        obtain ⟨r_37, hc_37, hm⟩ := ob_s hm
        refine q_cv (q_rv (rest := []) ⟨hx, hb, hml, hown, hts⟩ hK hN hP hD (c_X3_empty l D cI cZ H.size AT_mo AT_mo_c 25 vT_mo_n r_37 hc_37) mb_X3_empty mv_X3_empty wl_X4_35 [3] rfl rfl rfl (Nat.le_of_ble_eq_true rfl) (Nat.le_of_ble_eq_true rfl) rfl hl.1 rfl (Nat.le_of_ble_eq_true rfl) ⟨Nat.le_refl 0, Nat.le_refl 0⟩ dX4_addSleeper_37) hP hD hS hA [3] rfl rfl (fun H locs hP hD hS => ?_)
        have hP : va_P D vwCl (wd_X4_addSleeper cI cZ AT AT_sl AT_fl AT_ro AT_nt AT_mk AT_mo AT_sl_c AT_mo_c vT_ng r_30.1 r_30.2 r_37) H := hP
        have hD : va_D A (wd_X4_addSleeper cI cZ AT AT_sl AT_fl AT_ro AT_nt AT_mk AT_mo AT_sl_c AT_mo_c vT_ng r_30.1 r_30.2 r_37) := hD
        have hm := Option.some.inj hm
        subst hm
        exact q_vret hx hb hr hlocks hP hS dX4_addSleeper_40
      · have hm := it_n c_4 hm
        refine lv_aload_n hx hb dX4_addSleeper_7 rfl (lv_at hl 1 rfl) ?_
        refine lv_iload_n hx hb dX4_addSleeper_8 rfl (lv_at hl 0 rfl) ?_
        obtain ⟨r_9, hc_9, hm⟩ := ob_s hm
        refine q_ci (q_rv (rest := []) ⟨hx, hb, hml, hown, hts⟩ hK hN hP hD (c_X4_sleeperOn l D cI cZ H.size AT AT_sl AT_fl AT_ro AT_nt AT_mk AT_mo AT_sl_c vT_ng vT_sl_n fT_sl_c x3 r_9 hc_9) mb_X4_sleeperOn mv_X4_sleeperOn wl_X4_46 [0, 1, 2] rfl rfl rfl (Nat.le_of_ble_eq_true rfl) (Nat.le_of_ble_eq_true rfl) rfl hl.1 rfl (Nat.le_of_ble_eq_true rfl) ⟨Nat.le_refl 0, Nat.le_refl 0⟩ dX4_addSleeper_9) hP hD hS hA [0, 1, 2] rfl rfl (fun H locs hP hD hS => ?_)
        have hP : va_P D vwCl (wd_X4_addSleeper cI cZ AT AT_sl AT_fl AT_ro AT_nt AT_mk AT_mo AT_sl_c AT_mo_c vT_ng vT_sl_n fT_sl_c vT_mo_n) H := hP
        have hD : va_D A (wd_X4_addSleeper cI cZ AT AT_sl AT_fl AT_ro AT_nt AT_mk AT_mo AT_sl_c AT_mo_c vT_ng vT_sl_n fT_sl_c vT_mo_n) := hD
        refine lv_iconst (v := (-1)) hx hb dX4_addSleeper_12 (by decide) ?_
        refine lv_icmp_eq (tgt := 22) hx hb dX4_addSleeper_13 (by decide) (fun c_13 => ?_) (fun c_13 => ?_)
        · have hm := it_s c_13 hm
          refine lv_aload_n hx hb dX4_addSleeper_22 rfl (lv_at hl 1 rfl) ?_
          refine gf_X4_14 (v := .ref AT_sl) hx hb hts hown hK hN hP 0 rfl rfl dX4_addSleeper_23 ?_
          refine lv_iload_n hx hb dX4_addSleeper_26 rfl (lv_at hl 2 rfl) ?_
          refine lv_iload_n hx hb dX4_addSleeper_27 rfl (lv_at hl 0 rfl) ?_
          refine lv_iload_n hx hb dX4_addSleeper_28 rfl (lv_at hl 3 rfl) ?_
          refine lv_iconst (v := 0) hx hb dX4_addSleeper_29 (by decide) ?_
          obtain ⟨r_30, hc_30, hm⟩ := ob_s hm
          refine q_cv (q_rv (rest := []) ⟨hx, hb, hml, hown, hts⟩ hK hN hP hD (c_X3_add l D cI cZ H.size AT_sl AT_sl_c 4 24 vT_sl_n fT_sl_c p1 x3 p2 0 r_30 hc_30) mb_X3_add mv_X3_add wl_X4_50 [1, 2] rfl rfl rfl (Nat.le_of_ble_eq_true rfl) (Nat.le_of_ble_eq_true rfl) rfl hl.1 rfl (Nat.le_of_ble_eq_true rfl) ⟨Nat.le_refl 0, Nat.le_refl 0⟩ dX4_addSleeper_30) hP hD hS hA [1, 2] rfl rfl (fun H locs hP hD hS => ?_)
          have hP : va_P D vwCl (wd_X4_addSleeper cI cZ AT AT_sl AT_fl AT_ro AT_nt AT_mk AT_mo AT_sl_c AT_mo_c vT_ng r_30.1 r_30.2 vT_mo_n) H := hP
          have hD : va_D A (wd_X4_addSleeper cI cZ AT AT_sl AT_fl AT_ro AT_nt AT_mk AT_mo AT_sl_c AT_mo_c vT_ng r_30.1 r_30.2 vT_mo_n) := hD
          refine lv_aload_n hx hb dX4_addSleeper_33 rfl (lv_at hl 1 rfl) ?_
          refine gf_X4_32 (v := .ref AT_mo) hx hb hts hown hK hN hP 0 rfl rfl dX4_addSleeper_34 ?_
          obtain ⟨r_37, hc_37, hm⟩ := ob_s hm
          refine q_cv (q_rv (rest := []) ⟨hx, hb, hml, hown, hts⟩ hK hN hP hD (c_X3_empty l D cI cZ H.size AT_mo AT_mo_c 25 vT_mo_n r_37 hc_37) mb_X3_empty mv_X3_empty wl_X4_35 [3] rfl rfl rfl (Nat.le_of_ble_eq_true rfl) (Nat.le_of_ble_eq_true rfl) rfl hl.1 rfl (Nat.le_of_ble_eq_true rfl) ⟨Nat.le_refl 0, Nat.le_refl 0⟩ dX4_addSleeper_37) hP hD hS hA [3] rfl rfl (fun H locs hP hD hS => ?_)
          have hP : va_P D vwCl (wd_X4_addSleeper cI cZ AT AT_sl AT_fl AT_ro AT_nt AT_mk AT_mo AT_sl_c AT_mo_c vT_ng r_30.1 r_30.2 r_37) H := hP
          have hD : va_D A (wd_X4_addSleeper cI cZ AT AT_sl AT_fl AT_ro AT_nt AT_mk AT_mo AT_sl_c AT_mo_c vT_ng r_30.1 r_30.2 r_37) := hD
          have hm := Option.some.inj hm
          subst hm
          exact q_vret hx hb hr hlocks hP hS dX4_addSleeper_40
        · have hm := it_n c_13 hm
          refine lv_iinc (v := (x3 + 1)) (lv' := [(3, .int (x3 + 1)), (0, .ref AT), (1, .int p1), (2, .int p2)]) hx hb dX4_addSleeper_16 hl (k := 0) rfl rfl (by decide) rfl (fun ls hl => ?_)
          refine lv_goto (tgt := 2) hx hb dX4_addSleeper_19 (by decide) ?_
          exact ih_2 (x3 + 1) vT_sl_n fT_sl_c vT_mo_n H locs ls hm hP hD hS (lv_sub hl [0, 1, 2, 3] rfl)
  unfold fm_X4_addSleeper at hm
  refine q_gen hS hP ?_
  intro H locs hP hS
  refine lv_iconst (v := 0) hx hb dX4_addSleeper_0 (by decide) ?_
  refine lv_istore_n (lv' := [(3, .int 0), (0, .ref AT), (1, .int p1), (2, .int p2)]) hx hb dX4_addSleeper_1 rfl hl (by decide) rfl (fun ls hl => ?_)
  exact hL_2 FU 0 vT_sl_n fT_sl_c vT_mo_n H locs ls hm hP hD hS (lv_sub hl [0, 1, 2, 3] rfl)
theorem mb_X4_addFlower : q_mb yX4_addFlower cX4_addFlower 4 none 3 := ⟨wc_X4_addFlower, wn_X4, by decide, by decide, by decide +kernel⟩
theorem mv_X4_addFlower : q_mv yX4_addFlower 4 := ⟨wi_X4_addFlower, ws_X4_addFlower, _, rfl, rfl⟩
def wd_X4_addFlower (cI cZ : ClassId) (AT AT_sl AT_fl AT_ro AT_nt AT_mk AT_mo AT_fl_c AT_mo_c : Nat) (vT_ng : Int32) (vT_fl_n : Int32) (fT_fl_c : Nat → Int32) (vT_mo_n : Int32) : va_W := [(AT, .inr (4, [.ref AT_sl, .ref AT_fl, .ref AT_ro, .ref AT_nt, .ref AT_mk, .ref AT_mo, .int vT_ng])), (AT_fl, .inr (3, [.int 3, .ref AT_fl_c, .int vT_fl_n])), (AT_fl_c, .inl (cI, 18, .inl fT_fl_c)), (AT_mo, .inr (3, [.int 25, .ref AT_mo_c, .int vT_mo_n]))]
def fm_X4_addFlower (p1 : Int32) (p2 : Int32) (p3 : Int32) (vT_fl_n : Int32) (fT_fl_c : Nat → Int32) (vT_mo_n : Int32) : Option (Int32 × (Nat → Int32) × Int32) := Option.bind (fm_X3_add 3 18 p1 p2 p3 0 vT_fl_n fT_fl_c) (fun r_8 => Option.bind (fm_X3_empty vT_mo_n) (fun r_15 => some (r_8.1, r_8.2, r_15)))
set_option maxHeartbeats 4000000 in
set_option maxRecDepth 100000 in
theorem c_X4_addFlower (l : Launch) (D : va_G) (cI cZ : ClassId) (sz : Nat) (AT AT_sl AT_fl AT_ro AT_nt AT_mk AT_mo AT_fl_c AT_mo_c : Nat) (vT_ng : Int32) (vT_fl_n : Int32) (fT_fl_c : Nat → Int32) (vT_mo_n : Int32) (p1 : Int32) (p2 : Int32) (p3 : Int32) (out : (Int32 × (Nat → Int32) × Int32)) (hm : fm_X4_addFlower p1 p2 p3 vT_fl_n fT_fl_c vT_mo_n = some out) : Met l yX4_addFlower (Cond.code yX4_addFlower cX4_addFlower 4 none :: bg) { frames := 2, cells := 0, slots := 0, locals := 49 } (va_Pc [.ref AT, .int p1, .int p2, .int p3] (q_pre D cI cZ sz (wd_X4_addFlower cI cZ AT AT_sl AT_fl AT_ro AT_nt AT_mk AT_mo AT_fl_c AT_mo_c vT_ng vT_fl_n fT_fl_c vT_mo_n))) (q_Qv D (wd_X4_addFlower cI cZ AT AT_sl AT_fl AT_ro AT_nt AT_mk AT_mo AT_fl_c AT_mo_c vT_ng out.1 out.2.1 out.2.2) (va_A (wd_X4_addFlower cI cZ AT AT_sl AT_fl AT_ro AT_nt AT_mk AT_mo AT_fl_c AT_mo_c vT_ng vT_fl_n fT_fl_c vT_mo_n) sz)) 0 0 (va_A (wd_X4_addFlower cI cZ AT AT_sl AT_fl AT_ro AT_nt AT_mk AT_mo AT_fl_c AT_mo_c vT_ng vT_fl_n fT_fl_c vT_mo_n) sz) := by
  refine q_met (fun A => q_Qv D (wd_X4_addFlower cI cZ AT AT_sl AT_fl AT_ro AT_nt AT_mk AT_mo AT_fl_c AT_mo_c vT_ng out.1 out.2.1 out.2.2) A) (by decide) (Nat.le_of_ble_eq_true rfl) ?_
  intro p e s m below meth c ls A hx hb hr hml hown hts hlocks _ hA hS hP hD hK hN hl
  have hown : s.vm.findClass RX4 = some m.cls := hown
  have hl : lv_has ls 4 [(0, .ref AT), (1, .int p1), (2, .int p2), (3, .int p3)] := hl
  unfold fm_X4_addFlower at hm
  refine q_gen hS hP ?_
  intro H locs hP hS
  refine lv_aload_n hx hb dX4_addFlower_0 rfl (lv_at hl 0 rfl) ?_
  refine gf_X4_20 (v := .ref AT_fl) hx hb hts hown hK hN hP 0 rfl rfl dX4_addFlower_1 ?_
  refine lv_iload_n hx hb dX4_addFlower_4 rfl (lv_at hl 1 rfl) ?_
  refine lv_iload_n hx hb dX4_addFlower_5 rfl (lv_at hl 2 rfl) ?_
  refine lv_iload_n hx hb dX4_addFlower_6 rfl (lv_at hl 3 rfl) ?_
  refine lv_iconst (v := 0) hx hb dX4_addFlower_7 (by decide) ?_
  obtain ⟨r_8, hc_8, hm⟩ := ob_s hm
  refine q_cv (q_rv (rest := []) ⟨hx, hb, hml, hown, hts⟩ hK hN hP hD (c_X3_add l D cI cZ H.size AT_fl AT_fl_c 3 18 vT_fl_n fT_fl_c p1 p2 p3 0 r_8 hc_8) mb_X3_add mv_X3_add wl_X4_50 [1, 2] rfl rfl rfl (Nat.le_of_ble_eq_true rfl) (Nat.le_of_ble_eq_true rfl) rfl hl.1 rfl (Nat.le_of_ble_eq_true rfl) ⟨Nat.le_refl 0, Nat.le_refl 0⟩ dX4_addFlower_8) hP hD hS hA [1, 2] rfl rfl (fun H locs hP hD hS => ?_)
  have hP : va_P D vwCl (wd_X4_addFlower cI cZ AT AT_sl AT_fl AT_ro AT_nt AT_mk AT_mo AT_fl_c AT_mo_c vT_ng r_8.1 r_8.2 vT_mo_n) H := hP
  have hD : va_D A (wd_X4_addFlower cI cZ AT AT_sl AT_fl AT_ro AT_nt AT_mk AT_mo AT_fl_c AT_mo_c vT_ng r_8.1 r_8.2 vT_mo_n) := hD
  refine lv_aload_n hx hb dX4_addFlower_11 rfl (lv_at hl 0 rfl) ?_
  refine gf_X4_32 (v := .ref AT_mo) hx hb hts hown hK hN hP 0 rfl rfl dX4_addFlower_12 ?_
  obtain ⟨r_15, hc_15, hm⟩ := ob_s hm
  refine q_cv (q_rv (rest := []) ⟨hx, hb, hml, hown, hts⟩ hK hN hP hD (c_X3_empty l D cI cZ H.size AT_mo AT_mo_c 25 vT_mo_n r_15 hc_15) mb_X3_empty mv_X3_empty wl_X4_35 [3] rfl rfl rfl (Nat.le_of_ble_eq_true rfl) (Nat.le_of_ble_eq_true rfl) rfl hl.1 rfl (Nat.le_of_ble_eq_true rfl) ⟨Nat.le_refl 0, Nat.le_refl 0⟩ dX4_addFlower_15) hP hD hS hA [3] rfl rfl (fun H locs hP hD hS => ?_)
  have hP : va_P D vwCl (wd_X4_addFlower cI cZ AT AT_sl AT_fl AT_ro AT_nt AT_mk AT_mo AT_fl_c AT_mo_c vT_ng r_8.1 r_8.2 r_15) H := hP
  have hD : va_D A (wd_X4_addFlower cI cZ AT AT_sl AT_fl AT_ro AT_nt AT_mk AT_mo AT_fl_c AT_mo_c vT_ng r_8.1 r_8.2 r_15) := hD
  have hm := Option.some.inj hm
  subst hm
  exact q_vret hx hb hr hlocks hP hS dX4_addFlower_18
theorem mb_X4_changePillows : q_mb yX4_changePillows cX4_changePillows 5 none 2 := ⟨wc_X4_changePillows, wn_X4, by decide, by decide, by decide +kernel⟩
theorem mv_X4_changePillows : q_mv yX4_changePillows 4 := ⟨wi_X4_changePillows, ws_X4_changePillows, _, rfl, rfl⟩
def wd_X4_changePillows (cI cZ : ClassId) (AT AT_sl AT_fl AT_ro AT_nt AT_mk AT_mo AT_sl_c : Nat) (vT_ng : Int32) (vT_sl_n : Int32) (fT_sl_c : Nat → Int32) : va_W := [(AT, .inr (4, [.ref AT_sl, .ref AT_fl, .ref AT_ro, .ref AT_nt, .ref AT_mk, .ref AT_mo, .int vT_ng])), (AT_sl, .inr (3, [.int 4, .ref AT_sl_c, .int vT_sl_n])), (AT_sl_c, .inl (cI, 24, .inl fT_sl_c))]
def fm_X4_changePillows (p1 : Int32) (p2 : Int32) (vT_sl_n : Int32) (fT_sl_c : Nat → Int32) : Option ((Nat → Int32)) := Option.bind (fm_X4_sleeperOn p1 vT_sl_n fT_sl_c) (fun r_2 => Option.bind (fm_X4_sleeperOn p2 vT_sl_n fT_sl_c) (fun r_8 => Option.bind (fm_X3_write 4 24 r_2 1 p2 vT_sl_n fT_sl_c) (fun r_20 => Option.bind (fm_X3_write 4 24 r_8 1 p1 vT_sl_n r_20) (fun r_31 => some (r_31)))))
set_option maxHeartbeats 4000000 in
set_option maxRecDepth 100000 in
theorem c_X4_changePillows (l : Launch) (D : va_G) (cI cZ : ClassId) (sz : Nat) (AT AT_sl AT_fl AT_ro AT_nt AT_mk AT_mo AT_sl_c : Nat) (vT_ng : Int32) (vT_sl_n : Int32) (fT_sl_c : Nat → Int32) (p1 : Int32) (p2 : Int32) (out : ((Nat → Int32))) (hm : fm_X4_changePillows p1 p2 vT_sl_n fT_sl_c = some out) : Met l yX4_changePillows (Cond.code yX4_changePillows cX4_changePillows 5 none :: bg) { frames := 2, cells := 0, slots := 0, locals := 46 } (va_Pc [.ref AT, .int p1, .int p2] (q_pre D cI cZ sz (wd_X4_changePillows cI cZ AT AT_sl AT_fl AT_ro AT_nt AT_mk AT_mo AT_sl_c vT_ng vT_sl_n fT_sl_c))) (q_Qv D (wd_X4_changePillows cI cZ AT AT_sl AT_fl AT_ro AT_nt AT_mk AT_mo AT_sl_c vT_ng vT_sl_n out) (va_A (wd_X4_changePillows cI cZ AT AT_sl AT_fl AT_ro AT_nt AT_mk AT_mo AT_sl_c vT_ng vT_sl_n fT_sl_c) sz)) 0 0 (va_A (wd_X4_changePillows cI cZ AT AT_sl AT_fl AT_ro AT_nt AT_mk AT_mo AT_sl_c vT_ng vT_sl_n fT_sl_c) sz) := by
  refine q_met (fun A => q_Qv D (wd_X4_changePillows cI cZ AT AT_sl AT_fl AT_ro AT_nt AT_mk AT_mo AT_sl_c vT_ng vT_sl_n out) A) (by decide) (Nat.le_of_ble_eq_true rfl) ?_
  intro p e s m below meth c ls A hx hb hr hml hown hts hlocks _ hA hS hP hD hK hN hl
  have hown : s.vm.findClass RX4 = some m.cls := hown
  have hl : lv_has ls 5 [(0, .ref AT), (1, .int p1), (2, .int p2)] := hl
  unfold fm_X4_changePillows at hm
  refine q_gen hS hP ?_
  intro H locs hP hS
  refine lv_aload_n hx hb dX4_changePillows_0 rfl (lv_at hl 0 rfl) ?_
  refine lv_iload_n hx hb dX4_changePillows_1 rfl (lv_at hl 1 rfl) ?_
  obtain ⟨r_2, hc_2, hm⟩ := ob_s hm
  refine q_ci (q_rv (rest := []) ⟨hx, hb, hml, hown, hts⟩ hK hN hP hD (c_X4_sleeperOn l D cI cZ H.size AT AT_sl AT_fl AT_ro AT_nt AT_mk AT_mo AT_sl_c vT_ng vT_sl_n fT_sl_c p1 r_2 hc_2) mb_X4_sleeperOn mv_X4_sleeperOn wl_X4_46 [0, 1, 2] rfl rfl rfl (Nat.le_of_ble_eq_true rfl) (Nat.le_of_ble_eq_true rfl) rfl hl.1 rfl (Nat.le_of_ble_eq_true rfl) ⟨Nat.le_refl 0, Nat.le_refl 0⟩ dX4_changePillows_2) hP hD hS hA [0, 1, 2] rfl rfl (fun H locs hP hD hS => ?_)
  have hP : va_P D vwCl (wd_X4_changePillows cI cZ AT AT_sl AT_fl AT_ro AT_nt AT_mk AT_mo AT_sl_c vT_ng vT_sl_n fT_sl_c) H := hP
  have hD : va_D A (wd_X4_changePillows cI cZ AT AT_sl AT_fl AT_ro AT_nt AT_mk AT_mo AT_sl_c vT_ng vT_sl_n fT_sl_c) := hD
  refine lv_istore_n (lv' := [(3, .int r_2), (0, .ref AT), (1, .int p1), (2, .int p2)]) hx hb dX4_changePillows_5 rfl hl (by decide) rfl (fun ls hl => ?_)
  refine lv_aload_n hx hb dX4_changePillows_6 rfl (lv_at hl 1 rfl) ?_
  refine lv_iload_n hx hb dX4_changePillows_7 rfl (lv_at hl 3 rfl) ?_
  obtain ⟨r_8, hc_8, hm⟩ := ob_s hm
  refine q_ci (q_rv (rest := []) ⟨hx, hb, hml, hown, hts⟩ hK hN hP hD (c_X4_sleeperOn l D cI cZ H.size AT AT_sl AT_fl AT_ro AT_nt AT_mk AT_mo AT_sl_c vT_ng vT_sl_n fT_sl_c p2 r_8 hc_8) mb_X4_sleeperOn mv_X4_sleeperOn wl_X4_46 [0, 1, 2] rfl rfl rfl (Nat.le_of_ble_eq_true rfl) (Nat.le_of_ble_eq_true rfl) rfl hl.1 rfl (Nat.le_of_ble_eq_true rfl) ⟨Nat.le_refl 0, Nat.le_refl 0⟩ dX4_changePillows_8) hP hD hS hA [0, 1, 2] rfl rfl (fun H locs hP hD hS => ?_)
  have hP : va_P D vwCl (wd_X4_changePillows cI cZ AT AT_sl AT_fl AT_ro AT_nt AT_mk AT_mo AT_sl_c vT_ng vT_sl_n fT_sl_c) H := hP
  have hD : va_D A (wd_X4_changePillows cI cZ AT AT_sl AT_fl AT_ro AT_nt AT_mk AT_mo AT_sl_c vT_ng vT_sl_n fT_sl_c) := hD
  refine lv_istore (lv' := [(4, .int r_8), (3, .int r_2), (0, .ref AT), (1, .int p1), (2, .int p2)]) hx hb dX4_changePillows_11 hl (by decide) rfl (fun ls hl => ?_)
  refine lv_aload_n hx hb dX4_changePillows_13 rfl (lv_at hl 2 rfl) ?_
  refine gf_X4_14 (v := .ref AT_sl) hx hb hts hown hK hN hP 0 rfl rfl dX4_changePillows_14 ?_
  refine lv_iload_n hx hb dX4_changePillows_17 rfl (lv_at hl 1 rfl) ?_
  refine lv_iconst (v := 1) hx hb dX4_changePillows_18 (by decide) ?_
  refine lv_iload_n hx hb dX4_changePillows_19 rfl (lv_at hl 4 rfl) ?_
  obtain ⟨r_20, hc_20, hm⟩ := ob_s hm
  refine q_cv (q_rv (rest := []) ⟨hx, hb, hml, hown, hts⟩ hK hN hP hD (c_X3_write l D cI cZ H.size AT_sl AT_sl_c 4 24 vT_sl_n fT_sl_c r_2 1 p2 r_20 hc_20) mb_X3_write mv_X3_write wl_X4_62 [1, 2] rfl rfl rfl (Nat.le_of_ble_eq_true rfl) (Nat.le_of_ble_eq_true rfl) rfl hl.1 rfl (Nat.le_of_ble_eq_true rfl) ⟨Nat.le_refl 0, Nat.le_refl 0⟩ dX4_changePillows_20) hP hD hS hA [1, 2] rfl rfl (fun H locs hP hD hS => ?_)
  have hP : va_P D vwCl (wd_X4_changePillows cI cZ AT AT_sl AT_fl AT_ro AT_nt AT_mk AT_mo AT_sl_c vT_ng vT_sl_n r_20) H := hP
  have hD : va_D A (wd_X4_changePillows cI cZ AT AT_sl AT_fl AT_ro AT_nt AT_mk AT_mo AT_sl_c vT_ng vT_sl_n r_20) := hD
  refine lv_aload_n hx hb dX4_changePillows_23 rfl (lv_at hl 2 rfl) ?_
  refine gf_X4_14 (v := .ref AT_sl) hx hb hts hown hK hN hP 0 rfl rfl dX4_changePillows_24 ?_
  refine lv_iload hx hb dX4_changePillows_27 (lv_at hl 0 rfl) ?_
  refine lv_iconst (v := 1) hx hb dX4_changePillows_29 (by decide) ?_
  refine lv_iload_n hx hb dX4_changePillows_30 rfl (lv_at hl 3 rfl) ?_
  obtain ⟨r_31, hc_31, hm⟩ := ob_s hm
  refine q_cv (q_rv (rest := []) ⟨hx, hb, hml, hown, hts⟩ hK hN hP hD (c_X3_write l D cI cZ H.size AT_sl AT_sl_c 4 24 vT_sl_n r_20 r_8 1 p1 r_31 hc_31) mb_X3_write mv_X3_write wl_X4_62 [1, 2] rfl rfl rfl (Nat.le_of_ble_eq_true rfl) (Nat.le_of_ble_eq_true rfl) rfl hl.1 rfl (Nat.le_of_ble_eq_true rfl) ⟨Nat.le_refl 0, Nat.le_refl 0⟩ dX4_changePillows_31) hP hD hS hA [1, 2] rfl rfl (fun H locs hP hD hS => ?_)
  have hP : va_P D vwCl (wd_X4_changePillows cI cZ AT AT_sl AT_fl AT_ro AT_nt AT_mk AT_mo AT_sl_c vT_ng vT_sl_n r_31) H := hP
  have hD : va_D A (wd_X4_changePillows cI cZ AT AT_sl AT_fl AT_ro AT_nt AT_mk AT_mo AT_sl_c vT_ng vT_sl_n r_31) := hD
  have hm := Option.some.inj hm
  subst hm
  exact q_vret hx hb hr hlocks hP hS dX4_changePillows_34
theorem mb_X4_passNights : q_mb yX4_passNights cX4_passNights 3 none 1 := ⟨wc_X4_passNights, wn_X4, by decide, by decide, by decide +kernel⟩
theorem mv_X4_passNights : q_mv yX4_passNights 4 := ⟨wi_X4_passNights, ws_X4_passNights, _, rfl, rfl⟩
def wd_X4_passNights (cI cZ : ClassId) (AT AT_sl AT_fl AT_ro AT_nt AT_mk AT_mo AT_sl_c AT_fl_c : Nat) (vT_ng : Int32) (vT_sl_n : Int32) (fT_sl_c : Nat → Int32) (vT_fl_n : Int32) (fT_fl_c : Nat → Int32) : va_W := [(AT, .inr (4, [.ref AT_sl, .ref AT_fl, .ref AT_ro, .ref AT_nt, .ref AT_mk, .ref AT_mo, .int vT_ng])), (AT_sl, .inr (3, [.int 4, .ref AT_sl_c, .int vT_sl_n])), (AT_sl_c, .inl (cI, 24, .inl fT_sl_c)), (AT_fl, .inr (3, [.int 3, .ref AT_fl_c, .int vT_fl_n])), (AT_fl_c, .inl (cI, 18, .inl fT_fl_c))]
def fL_X4_passNights_2 (p1 : Int32) (vT_sl_n : Int32) (vT_fl_n : Int32) (fT_fl_c : Nat → Int32) : Nat → Int32 → Int32 → (Nat → Int32) → Option (Int32 × (Nat → Int32))
  | 0, _, _, _ => none
  | fu + 1, x2, vT_ng, fT_sl_c => if p1 ≤ x2 then (some (vT_ng, fT_sl_c)) else (if 999 ≤ vT_ng then (some (vT_ng, fT_sl_c)) else (Option.bind (fm_X4_passNight vT_ng vT_sl_n fT_sl_c vT_fl_n fT_fl_c) (fun r_18 => fL_X4_passNights_2 p1 vT_sl_n vT_fl_n fT_fl_c fu (x2 + 1) r_18.1 r_18.2)))
def fm_X4_passNights (p1 : Int32) (vT_ng : Int32) (vT_sl_n : Int32) (fT_sl_c : Nat → Int32) (vT_fl_n : Int32) (fT_fl_c : Nat → Int32) : Option (Int32 × (Nat → Int32)) := fL_X4_passNights_2 p1 vT_sl_n vT_fl_n fT_fl_c FU 0 vT_ng fT_sl_c
set_option maxHeartbeats 4000000 in
set_option maxRecDepth 100000 in
theorem c_X4_passNights (l : Launch) (D : va_G) (cI cZ : ClassId) (sz : Nat) (AT AT_sl AT_fl AT_ro AT_nt AT_mk AT_mo AT_sl_c AT_fl_c : Nat) (vT_ng : Int32) (vT_sl_n : Int32) (fT_sl_c : Nat → Int32) (vT_fl_n : Int32) (fT_fl_c : Nat → Int32) (p1 : Int32) (out : (Int32 × (Nat → Int32))) (hm : fm_X4_passNights p1 vT_ng vT_sl_n fT_sl_c vT_fl_n fT_fl_c = some out) : Met l yX4_passNights (Cond.code yX4_passNights cX4_passNights 3 none :: bg) { frames := 4, cells := 0, slots := 0, locals := 97 } (va_Pc [.ref AT, .int p1] (q_pre D cI cZ sz (wd_X4_passNights cI cZ AT AT_sl AT_fl AT_ro AT_nt AT_mk AT_mo AT_sl_c AT_fl_c vT_ng vT_sl_n fT_sl_c vT_fl_n fT_fl_c))) (q_Qv D (wd_X4_passNights cI cZ AT AT_sl AT_fl AT_ro AT_nt AT_mk AT_mo AT_sl_c AT_fl_c out.1 vT_sl_n out.2 vT_fl_n fT_fl_c) (va_A (wd_X4_passNights cI cZ AT AT_sl AT_fl AT_ro AT_nt AT_mk AT_mo AT_sl_c AT_fl_c vT_ng vT_sl_n fT_sl_c vT_fl_n fT_fl_c) sz)) 0 0 (va_A (wd_X4_passNights cI cZ AT AT_sl AT_fl AT_ro AT_nt AT_mk AT_mo AT_sl_c AT_fl_c vT_ng vT_sl_n fT_sl_c vT_fl_n fT_fl_c) sz) := by
  refine q_met (fun A => q_Qv D (wd_X4_passNights cI cZ AT AT_sl AT_fl AT_ro AT_nt AT_mk AT_mo AT_sl_c AT_fl_c out.1 vT_sl_n out.2 vT_fl_n fT_fl_c) A) (by decide) (Nat.le_of_ble_eq_true rfl) ?_
  intro p e s m below meth c ls A hx hb hr hml hown hts hlocks _ hA hS hP hD hK hN hl
  have hown : s.vm.findClass RX4 = some m.cls := hown
  have hl : lv_has ls 3 [(0, .ref AT), (1, .int p1)] := hl
  have hL_2 : ∀ (fu_2 : Nat) (x2 : Int32) (vT_ng : Int32) (fT_sl_c : Nat → Int32) (H : Heap) (locs : List Loc) (ls : Array Slot), fL_X4_passNights_2 p1 vT_sl_n vT_fl_n fT_fl_c fu_2 x2 vT_ng fT_sl_c = some out → va_P D vwCl (wd_X4_passNights cI cZ AT AT_sl AT_fl AT_ro AT_nt AT_mk AT_mo AT_sl_c AT_fl_c vT_ng vT_sl_n fT_sl_c vT_fl_n fT_fl_c) H → va_D A (wd_X4_passNights cI cZ AT AT_sl AT_fl AT_ro AT_nt AT_mk AT_mo AT_sl_c AT_fl_c vT_ng vT_sl_n fT_sl_c vT_fl_n fT_fl_c) → va_S A s.heap H locs → lv_has ls 3 [(2, .int x2), (0, .ref AT), (1, .int p1)] → W p l e { frames := 4, cells := 0, slots := 0, locals := 97 } s m ([.ref AT, .int p1] : List Value).toArray below meth c H locs 0 0 (MQ below (q_Qv D (wd_X4_passNights cI cZ AT AT_sl AT_fl AT_ro AT_nt AT_mk AT_mo AT_sl_c AT_fl_c out.1 vT_sl_n out.2 vT_fl_n fT_fl_c) A) ([.ref AT, .int p1] : List Value).toArray s 0 0 A) (F0 m 2 ls []) := by
    intro fu_2
    induction fu_2 with
    | zero => intro x2 vT_ng fT_sl_c H locs ls hm hP hD hS hl; exact absurd (show (none : Option (Int32 × (Nat → Int32))) = some out from hm) (fun h => nomatch h)
    | succ fu_2 ih_2 =>
      intro x2 vT_ng fT_sl_c H locs ls hm hP hD hS hl
      rw [fL_X4_passNights_2] at hm
      refine lv_iload_n hx hb dX4_passNights_2 rfl (lv_at hl 0 rfl) ?_
      refine lv_iload_n hx hb dX4_passNights_3 rfl (lv_at hl 2 rfl) ?_
      refine lv_icmp_ge (tgt := 27) hx hb dX4_passNights_4 (by decide) (fun c_4 => ?_) (fun c_4 => ?_)
      · have hm := it_s c_4 hm
        have hm := Option.some.inj hm
        subst hm
        exact q_vret hx hb hr hlocks hP hS dX4_passNights_27
      · have hm := it_n c_4 hm
        refine lv_aload_n hx hb dX4_passNights_7 rfl (lv_at hl 1 rfl) ?_
        refine gf_X4_38 (v := .int vT_ng) hx hb hts hown hK hN hP 0 rfl rfl dX4_passNights_8 ?_
        refine lv_sipush (v := 999) hx hb dX4_passNights_11 (by decide) ?_
        refine lv_icmp_ge (tgt := 27) hx hb dX4_passNights_14 (by decide) (fun c_14 => ?_) (fun c_14 => ?_)
        · have hm := it_s c_14 hm
          have hm := Option.some.inj hm
          subst hm
          exact q_vret hx hb hr hlocks hP hS dX4_passNights_27
        · have hm := it_n c_14 hm
          refine lv_aload_n hx hb dX4_passNights_17 rfl (lv_at hl 1 rfl) ?_
          obtain ⟨r_18, hc_18, hm⟩ := ob_s hm
          refine q_cv (q_rv (rest := []) ⟨hx, hb, hml, hown, hts⟩ hK hN hP hD (c_X4_passNight l D cI cZ H.size AT AT_sl AT_fl AT_ro AT_nt AT_mk AT_mo AT_sl_c AT_fl_c vT_ng vT_sl_n fT_sl_c vT_fl_n fT_fl_c r_18 hc_18) mb_X4_passNight mv_X4_passNight wl_X4_66 [0, 1, 2, 3, 4] rfl rfl rfl (Nat.le_of_ble_eq_true rfl) (Nat.le_of_ble_eq_true rfl) rfl hl.1 rfl (Nat.le_of_ble_eq_true rfl) ⟨Nat.le_refl 0, Nat.le_refl 0⟩ dX4_passNights_18) hP hD hS hA [0, 1, 2, 3, 4] rfl rfl (fun H locs hP hD hS => ?_)
          have hP : va_P D vwCl (wd_X4_passNights cI cZ AT AT_sl AT_fl AT_ro AT_nt AT_mk AT_mo AT_sl_c AT_fl_c r_18.1 vT_sl_n r_18.2 vT_fl_n fT_fl_c) H := hP
          have hD : va_D A (wd_X4_passNights cI cZ AT AT_sl AT_fl AT_ro AT_nt AT_mk AT_mo AT_sl_c AT_fl_c r_18.1 vT_sl_n r_18.2 vT_fl_n fT_fl_c) := hD
          refine lv_iinc (v := (x2 + 1)) (lv' := [(2, .int (x2 + 1)), (0, .ref AT), (1, .int p1)]) hx hb dX4_passNights_21 hl (k := 0) rfl rfl (by decide) rfl (fun ls hl => ?_)
          refine lv_goto (tgt := 2) hx hb dX4_passNights_24 (by decide) ?_
          exact ih_2 (x2 + 1) r_18.1 r_18.2 H locs ls hm hP hD hS (lv_sub hl [0, 1, 2] rfl)
  unfold fm_X4_passNights at hm
  refine q_gen hS hP ?_
  intro H locs hP hS
  refine lv_iconst (v := 0) hx hb dX4_passNights_0 (by decide) ?_
  refine lv_istore_n (lv' := [(2, .int 0), (0, .ref AT), (1, .int p1)]) hx hb dX4_passNights_1 rfl hl (by decide) rfl (fun ls hl => ?_)
  exact hL_2 FU 0 vT_ng fT_sl_c H locs ls hm hP hD hS (lv_sub hl [0, 1, 2] rfl)
theorem mb_X4_mindsTogether : q_mb yX4_mindsTogether cX4_mindsTogether 3 (some .int) 0 := ⟨wc_X4_mindsTogether, wn_X4, by decide, by decide, by decide +kernel⟩
theorem mv_X4_mindsTogether : q_mv yX4_mindsTogether 4 := ⟨wi_X4_mindsTogether, ws_X4_mindsTogether, _, rfl, rfl⟩
def wd_X4_mindsTogether (cI cZ : ClassId) (AT AT_sl AT_fl AT_ro AT_nt AT_mk AT_mo AT_sl_c : Nat) (vT_ng : Int32) (vT_sl_n : Int32) (fT_sl_c : Nat → Int32) : va_W := [(AT, .inr (4, [.ref AT_sl, .ref AT_fl, .ref AT_ro, .ref AT_nt, .ref AT_mk, .ref AT_mo, .int vT_ng])), (AT_sl, .inr (3, [.int 4, .ref AT_sl_c, .int vT_sl_n])), (AT_sl_c, .inl (cI, 24, .inl fT_sl_c))]
def fL_X4_mindsTogether_4 (vT_sl_n : Int32) (fT_sl_c : Nat → Int32) : Nat → Int32 → Int32 → Option (Int32)
  | 0, _, _ => none
  | fu + 1, x2, x1 => Option.bind (fm_X3_size vT_sl_n) (fun r_9 => if r_9 ≤ x2 then (some (x1)) else (Option.bind (fm_X3_cell 4 24 x2 3 vT_sl_n fT_sl_c) (fun r_22 => fL_X4_mindsTogether_4 vT_sl_n fT_sl_c fu (x2 + 1) (x1 + r_22))))
def fm_X4_mindsTogether (vT_sl_n : Int32) (fT_sl_c : Nat → Int32) : Option (Int32) := fL_X4_mindsTogether_4 vT_sl_n fT_sl_c FU 0 0
set_option maxHeartbeats 4000000 in
set_option maxRecDepth 100000 in
theorem c_X4_mindsTogether (l : Launch) (D : va_G) (cI cZ : ClassId) (sz : Nat) (AT AT_sl AT_fl AT_ro AT_nt AT_mk AT_mo AT_sl_c : Nat) (vT_ng : Int32) (vT_sl_n : Int32) (fT_sl_c : Nat → Int32) (out : (Int32)) (hm : fm_X4_mindsTogether vT_sl_n fT_sl_c = some out) : Met l yX4_mindsTogether (Cond.code yX4_mindsTogether cX4_mindsTogether 3 (some .int) :: bg) { frames := 1, cells := 0, slots := 0, locals := 24 } (va_Pc [.ref AT] (q_pre D cI cZ sz (wd_X4_mindsTogether cI cZ AT AT_sl AT_fl AT_ro AT_nt AT_mk AT_mo AT_sl_c vT_ng vT_sl_n fT_sl_c))) (q_Qi D (wd_X4_mindsTogether cI cZ AT AT_sl AT_fl AT_ro AT_nt AT_mk AT_mo AT_sl_c vT_ng vT_sl_n fT_sl_c) out (va_A (wd_X4_mindsTogether cI cZ AT AT_sl AT_fl AT_ro AT_nt AT_mk AT_mo AT_sl_c vT_ng vT_sl_n fT_sl_c) sz)) 0 0 (va_A (wd_X4_mindsTogether cI cZ AT AT_sl AT_fl AT_ro AT_nt AT_mk AT_mo AT_sl_c vT_ng vT_sl_n fT_sl_c) sz) := by
  refine q_met (fun A => q_Qi D (wd_X4_mindsTogether cI cZ AT AT_sl AT_fl AT_ro AT_nt AT_mk AT_mo AT_sl_c vT_ng vT_sl_n fT_sl_c) out A) (by decide) (Nat.le_of_ble_eq_true rfl) ?_
  intro p e s m below meth c ls A hx hb hr hml hown hts hlocks _ hA hS hP hD hK hN hl
  have hown : s.vm.findClass RX4 = some m.cls := hown
  have hl : lv_has ls 3 [(0, .ref AT)] := hl
  have hL_4 : ∀ (fu_4 : Nat) (x2 : Int32) (x1 : Int32) (H : Heap) (locs : List Loc) (ls : Array Slot), fL_X4_mindsTogether_4 vT_sl_n fT_sl_c fu_4 x2 x1 = some out → va_P D vwCl (wd_X4_mindsTogether cI cZ AT AT_sl AT_fl AT_ro AT_nt AT_mk AT_mo AT_sl_c vT_ng vT_sl_n fT_sl_c) H → va_D A (wd_X4_mindsTogether cI cZ AT AT_sl AT_fl AT_ro AT_nt AT_mk AT_mo AT_sl_c vT_ng vT_sl_n fT_sl_c) → va_S A s.heap H locs → lv_has ls 3 [(2, .int x2), (1, .int x1), (0, .ref AT)] → W p l e { frames := 1, cells := 0, slots := 0, locals := 24 } s m ([.ref AT] : List Value).toArray below meth c H locs 0 0 (MQ below (q_Qi D (wd_X4_mindsTogether cI cZ AT AT_sl AT_fl AT_ro AT_nt AT_mk AT_mo AT_sl_c vT_ng vT_sl_n fT_sl_c) out A) ([.ref AT] : List Value).toArray s 0 0 A) (F0 m 4 ls []) := by
    intro fu_4
    induction fu_4 with
    | zero => intro x2 x1 H locs ls hm hP hD hS hl; exact absurd (show (none : Option (Int32)) = some out from hm) (fun h => nomatch h)
    | succ fu_4 ih_4 =>
      intro x2 x1 H locs ls hm hP hD hS hl
      rw [fL_X4_mindsTogether_4] at hm
      refine lv_iload_n hx hb dX4_mindsTogether_4 rfl (lv_at hl 0 rfl) ?_
      refine lv_aload_n hx hb dX4_mindsTogether_5 rfl (lv_at hl 2 rfl) ?_
      refine gf_X4_14 (v := .ref AT_sl) hx hb hts hown hK hN hP 0 rfl rfl dX4_mindsTogether_6 ?_
      obtain ⟨r_9, hc_9, hm⟩ := ob_s hm
      refine q_ci (q_rv (rest := [.int x2]) ⟨hx, hb, hml, hown, hts⟩ hK hN hP hD (c_X3_size l D cI cZ H.size AT_sl AT_sl_c 4 vT_sl_n r_9 hc_9) mb_X3_size mv_X3_size wl_X4_54 [1] rfl rfl rfl (Nat.le_of_ble_eq_true rfl) (Nat.le_of_ble_eq_true rfl) rfl hl.1 rfl (Nat.le_of_ble_eq_true rfl) ⟨Nat.le_refl 0, Nat.le_refl 0⟩ dX4_mindsTogether_9) hP hD hS hA [1] rfl rfl (fun H locs hP hD hS => ?_)
      have hP : va_P D vwCl (wd_X4_mindsTogether cI cZ AT AT_sl AT_fl AT_ro AT_nt AT_mk AT_mo AT_sl_c vT_ng vT_sl_n fT_sl_c) H := hP
      have hD : va_D A (wd_X4_mindsTogether cI cZ AT AT_sl AT_fl AT_ro AT_nt AT_mk AT_mo AT_sl_c vT_ng vT_sl_n fT_sl_c) := hD
      refine lv_icmp_ge (tgt := 33) hx hb dX4_mindsTogether_12 (by decide) (fun c_12 => ?_) (fun c_12 => ?_)
      · have hm := it_s c_12 hm
        refine lv_iload_n hx hb dX4_mindsTogether_33 rfl (lv_at hl 1 rfl) ?_
        have hm := Option.some.inj hm
        subst hm
        exact q_iret (v := x1) hx hb hr hlocks hP hS dX4_mindsTogether_34
      · have hm := it_n c_12 hm
        refine lv_iload_n hx hb dX4_mindsTogether_15 rfl (lv_at hl 1 rfl) ?_
        refine lv_aload_n hx hb dX4_mindsTogether_16 rfl (lv_at hl 2 rfl) ?_
        refine gf_X4_14 (v := .ref AT_sl) hx hb hts hown hK hN hP 0 rfl rfl dX4_mindsTogether_17 ?_
        refine lv_iload_n hx hb dX4_mindsTogether_20 rfl (lv_at hl 0 rfl) ?_
        refine lv_iconst (v := 3) hx hb dX4_mindsTogether_21 (by decide) ?_
        obtain ⟨r_22, hc_22, hm⟩ := ob_s hm
        refine q_ci (q_rv (rest := [.int x1]) ⟨hx, hb, hml, hown, hts⟩ hK hN hP hD (c_X3_cell l D cI cZ H.size AT_sl AT_sl_c 4 24 vT_sl_n fT_sl_c x2 3 r_22 hc_22) mb_X3_cell mv_X3_cell wl_X4_58 [1, 2] rfl rfl rfl (Nat.le_of_ble_eq_true rfl) (Nat.le_of_ble_eq_true rfl) rfl hl.1 rfl (Nat.le_of_ble_eq_true rfl) ⟨Nat.le_refl 0, Nat.le_refl 0⟩ dX4_mindsTogether_22) hP hD hS hA [1, 2] rfl rfl (fun H locs hP hD hS => ?_)
        have hP : va_P D vwCl (wd_X4_mindsTogether cI cZ AT AT_sl AT_fl AT_ro AT_nt AT_mk AT_mo AT_sl_c vT_ng vT_sl_n fT_sl_c) H := hP
        have hD : va_D A (wd_X4_mindsTogether cI cZ AT AT_sl AT_fl AT_ro AT_nt AT_mk AT_mo AT_sl_c vT_ng vT_sl_n fT_sl_c) := hD
        refine lv_iadd hx hb dX4_mindsTogether_25 ?_
        refine lv_istore_n (lv' := [(1, .int (x1 + r_22)), (2, .int x2), (0, .ref AT)]) hx hb dX4_mindsTogether_26 rfl hl (by decide) rfl (fun ls hl => ?_)
        refine lv_iinc (v := (x2 + 1)) (lv' := [(2, .int (x2 + 1)), (1, .int (x1 + r_22)), (0, .ref AT)]) hx hb dX4_mindsTogether_27 hl (k := 1) rfl rfl (by decide) rfl (fun ls hl => ?_)
        refine lv_goto (tgt := 4) hx hb dX4_mindsTogether_30 (by decide) ?_
        exact ih_4 (x2 + 1) (x1 + r_22) H locs ls hm hP hD hS (lv_sub hl [0, 1, 2] rfl)
  unfold fm_X4_mindsTogether at hm
  refine q_gen hS hP ?_
  intro H locs hP hS
  refine lv_iconst (v := 0) hx hb dX4_mindsTogether_0 (by decide) ?_
  refine lv_istore_n (lv' := [(1, .int 0), (0, .ref AT)]) hx hb dX4_mindsTogether_1 rfl hl (by decide) rfl (fun ls hl => ?_)
  refine lv_iconst (v := 0) hx hb dX4_mindsTogether_2 (by decide) ?_
  refine lv_istore_n (lv' := [(2, .int 0), (1, .int 0), (0, .ref AT)]) hx hb dX4_mindsTogether_3 rfl hl (by decide) rfl (fun ls hl => ?_)
  exact hL_4 FU 0 0 H locs ls hm hP hD hS (lv_sub hl [0, 1, 2] rfl)
theorem mb_X4_remember : q_mb yX4_remember cX4_remember 3 none 0 := ⟨wc_X4_remember, wn_X4, by decide, by decide, by decide +kernel⟩
theorem mv_X4_remember : q_mv yX4_remember 4 := ⟨wi_X4_remember, ws_X4_remember, _, rfl, rfl⟩
def wd_X4_remember (cI cZ : ClassId) (AT AT_sl AT_fl AT_ro AT_nt AT_mk AT_mo AT_mo_c AT_sl_c AT_fl_c : Nat) (vT_ng : Int32) (vT_mo_n : Int32) (fT_mo_c : Nat → Int32) (vT_sl_n : Int32) (fT_sl_c : Nat → Int32) (vT_fl_n : Int32) (fT_fl_c : Nat → Int32) : va_W := [(AT, .inr (4, [.ref AT_sl, .ref AT_fl, .ref AT_ro, .ref AT_nt, .ref AT_mk, .ref AT_mo, .int vT_ng])), (AT_mo, .inr (3, [.int 25, .ref AT_mo_c, .int vT_mo_n])), (AT_mo_c, .inl (cI, 200, .inl fT_mo_c)), (AT_sl, .inr (3, [.int 4, .ref AT_sl_c, .int vT_sl_n])), (AT_sl_c, .inl (cI, 24, .inl fT_sl_c)), (AT_fl, .inr (3, [.int 3, .ref AT_fl_c, .int vT_fl_n])), (AT_fl_c, .inl (cI, 18, .inl fT_fl_c))]
def fL_X4_remember_121 (vT_ng : Int32) (vT_sl_n : Int32) (fT_sl_c : Nat → Int32) (vT_fl_n : Int32) (fT_fl_c : Nat → Int32) : Nat → Int32 → Int32 → Int32 → (Nat → Int32) → Option (Int32 × (Nat → Int32))
  | 0, _, _, _, _ => none
  | fu + 1, x2, x1, vT_mo_n, fT_mo_c => Option.bind (fm_X3_size vT_fl_n) (fun r_126 => if r_126 ≤ x2 then (Option.bind (fm_X3_write 25 200 x1 24 vT_ng vT_mo_n fT_mo_c) (fun r_170 => some (vT_mo_n, r_170))) else (Option.bind (fm_X3_cell 3 18 x2 2 vT_fl_n fT_fl_c) (fun r_147 => Option.bind (fm_X3_write 25 200 x1 (18 + x2) r_147 vT_mo_n fT_mo_c) (fun r_150 => fL_X4_remember_121 vT_ng vT_sl_n fT_sl_c vT_fl_n fT_fl_c fu (x2 + 1) x1 vT_mo_n r_150))))
def fL_X4_remember_40 (vT_ng : Int32) (vT_sl_n : Int32) (fT_sl_c : Nat → Int32) (vT_fl_n : Int32) (fT_fl_c : Nat → Int32) : Nat → Int32 → Int32 → Int32 → (Nat → Int32) → Option (Int32 × (Nat → Int32))
  | 0, _, _, _, _ => none
  | fu + 1, x2, x1, vT_mo_n, fT_mo_c => Option.bind (fm_X3_size vT_sl_n) (fun r_45 => if r_45 ≤ x2 then (fL_X4_remember_121 vT_ng vT_sl_n fT_sl_c vT_fl_n fT_fl_c FU 0 x1 vT_mo_n fT_mo_c) else (Option.bind (fm_X3_cell 4 24 x2 1 vT_sl_n fT_sl_c) (fun r_65 => Option.bind (fm_X3_write 25 200 x1 (0 + x2) r_65 vT_mo_n fT_mo_c) (fun r_68 => Option.bind (fm_X3_cell 4 24 x2 2 vT_sl_n fT_sl_c) (fun r_86 => Option.bind (fm_X3_write 25 200 x1 (6 + x2) r_86 vT_mo_n r_68) (fun r_89 => Option.bind (fm_X3_cell 4 24 x2 3 vT_sl_n fT_sl_c) (fun r_107 => Option.bind (fm_X3_write 25 200 x1 (12 + x2) r_107 vT_mo_n r_89) (fun r_110 => fL_X4_remember_40 vT_ng vT_sl_n fT_sl_c vT_fl_n fT_fl_c fu (x2 + 1) x1 vT_mo_n r_110))))))))
def fm_X4_remember (vT_ng : Int32) (vT_mo_n : Int32) (fT_mo_c : Nat → Int32) (vT_sl_n : Int32) (fT_sl_c : Nat → Int32) (vT_fl_n : Int32) (fT_fl_c : Nat → Int32) : Option (Int32 × (Nat → Int32)) := Option.bind (fm_X3_isFull 25 200 vT_mo_n) (fun r_4 => if r_4 = 0 then (Option.bind (fm_X3_add 25 200 0 0 0 0 vT_mo_n fT_mo_c) (fun r_25 => Option.bind (fm_X3_size r_25.1) (fun r_32 => fL_X4_remember_40 vT_ng vT_sl_n fT_sl_c vT_fl_n fT_fl_c FU 0 (r_32 - 1) r_25.1 r_25.2))) else (Option.bind (fm_X3_dropFirst 25 200 vT_mo_n fT_mo_c) (fun r_14 => Option.bind (fm_X3_add 25 200 0 0 0 0 r_14.1 r_14.2) (fun r_25 => Option.bind (fm_X3_size r_25.1) (fun r_32 => fL_X4_remember_40 vT_ng vT_sl_n fT_sl_c vT_fl_n fT_fl_c FU 0 (r_32 - 1) r_25.1 r_25.2)))))
set_option maxHeartbeats 4000000 in
set_option maxRecDepth 100000 in
theorem c_X4_remember (l : Launch) (D : va_G) (cI cZ : ClassId) (sz : Nat) (AT AT_sl AT_fl AT_ro AT_nt AT_mk AT_mo AT_mo_c AT_sl_c AT_fl_c : Nat) (vT_ng : Int32) (vT_mo_n : Int32) (fT_mo_c : Nat → Int32) (vT_sl_n : Int32) (fT_sl_c : Nat → Int32) (vT_fl_n : Int32) (fT_fl_c : Nat → Int32) (out : (Int32 × (Nat → Int32))) (hm : fm_X4_remember vT_ng vT_mo_n fT_mo_c vT_sl_n fT_sl_c vT_fl_n fT_fl_c = some out) : Met l yX4_remember (Cond.code yX4_remember cX4_remember 3 none :: bg) { frames := 2, cells := 0, slots := 0, locals := 49 } (va_Pc [.ref AT] (q_pre D cI cZ sz (wd_X4_remember cI cZ AT AT_sl AT_fl AT_ro AT_nt AT_mk AT_mo AT_mo_c AT_sl_c AT_fl_c vT_ng vT_mo_n fT_mo_c vT_sl_n fT_sl_c vT_fl_n fT_fl_c))) (q_Qv D (wd_X4_remember cI cZ AT AT_sl AT_fl AT_ro AT_nt AT_mk AT_mo AT_mo_c AT_sl_c AT_fl_c vT_ng out.1 out.2 vT_sl_n fT_sl_c vT_fl_n fT_fl_c) (va_A (wd_X4_remember cI cZ AT AT_sl AT_fl AT_ro AT_nt AT_mk AT_mo AT_mo_c AT_sl_c AT_fl_c vT_ng vT_mo_n fT_mo_c vT_sl_n fT_sl_c vT_fl_n fT_fl_c) sz)) 0 0 (va_A (wd_X4_remember cI cZ AT AT_sl AT_fl AT_ro AT_nt AT_mk AT_mo AT_mo_c AT_sl_c AT_fl_c vT_ng vT_mo_n fT_mo_c vT_sl_n fT_sl_c vT_fl_n fT_fl_c) sz) := by
  refine q_met (fun A => q_Qv D (wd_X4_remember cI cZ AT AT_sl AT_fl AT_ro AT_nt AT_mk AT_mo AT_mo_c AT_sl_c AT_fl_c vT_ng out.1 out.2 vT_sl_n fT_sl_c vT_fl_n fT_fl_c) A) (by decide) (Nat.le_of_ble_eq_true rfl) ?_
  intro p e s m below meth c ls A hx hb hr hml hown hts hlocks _ hA hS hP hD hK hN hl
  have hown : s.vm.findClass RX4 = some m.cls := hown
  have hl : lv_has ls 3 [(0, .ref AT)] := hl
  have hL_121 : ∀ (fu_121 : Nat) (x2 : Int32) (x1 : Int32) (vT_mo_n : Int32) (fT_mo_c : Nat → Int32) (H : Heap) (locs : List Loc) (ls : Array Slot), fL_X4_remember_121 vT_ng vT_sl_n fT_sl_c vT_fl_n fT_fl_c fu_121 x2 x1 vT_mo_n fT_mo_c = some out → va_P D vwCl (wd_X4_remember cI cZ AT AT_sl AT_fl AT_ro AT_nt AT_mk AT_mo AT_mo_c AT_sl_c AT_fl_c vT_ng vT_mo_n fT_mo_c vT_sl_n fT_sl_c vT_fl_n fT_fl_c) H → va_D A (wd_X4_remember cI cZ AT AT_sl AT_fl AT_ro AT_nt AT_mk AT_mo AT_mo_c AT_sl_c AT_fl_c vT_ng vT_mo_n fT_mo_c vT_sl_n fT_sl_c vT_fl_n fT_fl_c) → va_S A s.heap H locs → lv_has ls 3 [(2, .int x2), (1, .int x1), (0, .ref AT)] → W p l e { frames := 2, cells := 0, slots := 0, locals := 49 } s m ([.ref AT] : List Value).toArray below meth c H locs 0 0 (MQ below (q_Qv D (wd_X4_remember cI cZ AT AT_sl AT_fl AT_ro AT_nt AT_mk AT_mo AT_mo_c AT_sl_c AT_fl_c vT_ng out.1 out.2 vT_sl_n fT_sl_c vT_fl_n fT_fl_c) A) ([.ref AT] : List Value).toArray s 0 0 A) (F0 m 121 ls []) := by
    intro fu_121
    induction fu_121 with
    | zero => intro x2 x1 vT_mo_n fT_mo_c H locs ls hm hP hD hS hl; exact absurd (show (none : Option (Int32 × (Nat → Int32))) = some out from hm) (fun h => nomatch h)
    | succ fu_121 ih_121 =>
      intro x2 x1 vT_mo_n fT_mo_c H locs ls hm hP hD hS hl
      rw [fL_X4_remember_121] at hm
      refine lv_iload_n hx hb dX4_remember_121 rfl (lv_at hl 0 rfl) ?_
      refine lv_aload_n hx hb dX4_remember_122 rfl (lv_at hl 2 rfl) ?_
      refine gf_X4_20 (v := .ref AT_fl) hx hb hts hown hK hN hP 0 rfl rfl dX4_remember_123 ?_
      obtain ⟨r_126, hc_126, hm⟩ := ob_s hm
      refine q_ci (q_rv (rest := [.int x2]) ⟨hx, hb, hml, hown, hts⟩ hK hN hP hD (c_X3_size l D cI cZ H.size AT_fl AT_fl_c 3 vT_fl_n r_126 hc_126) mb_X3_size mv_X3_size wl_X4_54 [5] rfl rfl rfl (Nat.le_of_ble_eq_true rfl) (Nat.le_of_ble_eq_true rfl) rfl hl.1 rfl (Nat.le_of_ble_eq_true rfl) ⟨Nat.le_refl 0, Nat.le_refl 0⟩ dX4_remember_126) hP hD hS hA [5] rfl rfl (fun H locs hP hD hS => ?_)
      have hP : va_P D vwCl (wd_X4_remember cI cZ AT AT_sl AT_fl AT_ro AT_nt AT_mk AT_mo AT_mo_c AT_sl_c AT_fl_c vT_ng vT_mo_n fT_mo_c vT_sl_n fT_sl_c vT_fl_n fT_fl_c) H := hP
      have hD : va_D A (wd_X4_remember cI cZ AT AT_sl AT_fl AT_ro AT_nt AT_mk AT_mo AT_mo_c AT_sl_c AT_fl_c vT_ng vT_mo_n fT_mo_c vT_sl_n fT_sl_c vT_fl_n fT_fl_c) := hD
      refine lv_icmp_ge (tgt := 159) hx hb dX4_remember_129 (by decide) (fun c_129 => ?_) (fun c_129 => ?_)
      · have hm := it_s c_129 hm
        refine lv_aload_n hx hb dX4_remember_159 rfl (lv_at hl 2 rfl) ?_
        refine gf_X4_32 (v := .ref AT_mo) hx hb hts hown hK hN hP 0 rfl rfl dX4_remember_160 ?_
        refine lv_iload_n hx hb dX4_remember_163 rfl (lv_at hl 1 rfl) ?_
        refine lv_bipush (v := 24) hx hb dX4_remember_164 (by decide) ?_
        refine lv_aload_n hx hb dX4_remember_166 rfl (lv_at hl 2 rfl) ?_
        refine gf_X4_38 (v := .int vT_ng) hx hb hts hown hK hN hP 0 rfl rfl dX4_remember_167 ?_
        obtain ⟨r_170, hc_170, hm⟩ := ob_s hm
        refine q_cv (q_rv (rest := []) ⟨hx, hb, hml, hown, hts⟩ hK hN hP hD (c_X3_write l D cI cZ H.size AT_mo AT_mo_c 25 200 vT_mo_n fT_mo_c x1 24 vT_ng r_170 hc_170) mb_X3_write mv_X3_write wl_X4_62 [1, 2] rfl rfl rfl (Nat.le_of_ble_eq_true rfl) (Nat.le_of_ble_eq_true rfl) rfl hl.1 rfl (Nat.le_of_ble_eq_true rfl) ⟨Nat.le_refl 0, Nat.le_refl 0⟩ dX4_remember_170) hP hD hS hA [1, 2] rfl rfl (fun H locs hP hD hS => ?_)
        have hP : va_P D vwCl (wd_X4_remember cI cZ AT AT_sl AT_fl AT_ro AT_nt AT_mk AT_mo AT_mo_c AT_sl_c AT_fl_c vT_ng vT_mo_n r_170 vT_sl_n fT_sl_c vT_fl_n fT_fl_c) H := hP
        have hD : va_D A (wd_X4_remember cI cZ AT AT_sl AT_fl AT_ro AT_nt AT_mk AT_mo AT_mo_c AT_sl_c AT_fl_c vT_ng vT_mo_n r_170 vT_sl_n fT_sl_c vT_fl_n fT_fl_c) := hD
        have hm := Option.some.inj hm
        subst hm
        exact q_vret hx hb hr hlocks hP hS dX4_remember_173
      · have hm := it_n c_129 hm
        refine lv_aload_n hx hb dX4_remember_132 rfl (lv_at hl 2 rfl) ?_
        refine gf_X4_32 (v := .ref AT_mo) hx hb hts hown hK hN hP 0 rfl rfl dX4_remember_133 ?_
        refine lv_iload_n hx hb dX4_remember_136 rfl (lv_at hl 1 rfl) ?_
        refine lv_bipush (v := 18) hx hb dX4_remember_137 (by decide) ?_
        refine lv_iload_n hx hb dX4_remember_139 rfl (lv_at hl 0 rfl) ?_
        refine lv_iadd hx hb dX4_remember_140 ?_
        refine lv_aload_n hx hb dX4_remember_141 rfl (lv_at hl 2 rfl) ?_
        refine gf_X4_20 (v := .ref AT_fl) hx hb hts hown hK hN hP 0 rfl rfl dX4_remember_142 ?_
        refine lv_iload_n hx hb dX4_remember_145 rfl (lv_at hl 0 rfl) ?_
        refine lv_iconst (v := 2) hx hb dX4_remember_146 (by decide) ?_
        obtain ⟨r_147, hc_147, hm⟩ := ob_s hm
        refine q_ci (q_rv (rest := [.int (18 + x2), .int x1, .ref AT_mo]) ⟨hx, hb, hml, hown, hts⟩ hK hN hP hD (c_X3_cell l D cI cZ H.size AT_fl AT_fl_c 3 18 vT_fl_n fT_fl_c x2 2 r_147 hc_147) mb_X3_cell mv_X3_cell wl_X4_58 [5, 6] rfl rfl rfl (Nat.le_of_ble_eq_true rfl) (Nat.le_of_ble_eq_true rfl) rfl hl.1 rfl (Nat.le_of_ble_eq_true rfl) ⟨Nat.le_refl 0, Nat.le_refl 0⟩ dX4_remember_147) hP hD hS hA [5, 6] rfl rfl (fun H locs hP hD hS => ?_)
        have hP : va_P D vwCl (wd_X4_remember cI cZ AT AT_sl AT_fl AT_ro AT_nt AT_mk AT_mo AT_mo_c AT_sl_c AT_fl_c vT_ng vT_mo_n fT_mo_c vT_sl_n fT_sl_c vT_fl_n fT_fl_c) H := hP
        have hD : va_D A (wd_X4_remember cI cZ AT AT_sl AT_fl AT_ro AT_nt AT_mk AT_mo AT_mo_c AT_sl_c AT_fl_c vT_ng vT_mo_n fT_mo_c vT_sl_n fT_sl_c vT_fl_n fT_fl_c) := hD
        obtain ⟨r_150, hc_150, hm⟩ := ob_s hm
        refine q_cv (q_rv (rest := []) ⟨hx, hb, hml, hown, hts⟩ hK hN hP hD (c_X3_write l D cI cZ H.size AT_mo AT_mo_c 25 200 vT_mo_n fT_mo_c x1 (18 + x2) r_147 r_150 hc_150) mb_X3_write mv_X3_write wl_X4_62 [1, 2] rfl rfl rfl (Nat.le_of_ble_eq_true rfl) (Nat.le_of_ble_eq_true rfl) rfl hl.1 rfl (Nat.le_of_ble_eq_true rfl) ⟨Nat.le_refl 0, Nat.le_refl 0⟩ dX4_remember_150) hP hD hS hA [1, 2] rfl rfl (fun H locs hP hD hS => ?_)
        have hP : va_P D vwCl (wd_X4_remember cI cZ AT AT_sl AT_fl AT_ro AT_nt AT_mk AT_mo AT_mo_c AT_sl_c AT_fl_c vT_ng vT_mo_n r_150 vT_sl_n fT_sl_c vT_fl_n fT_fl_c) H := hP
        have hD : va_D A (wd_X4_remember cI cZ AT AT_sl AT_fl AT_ro AT_nt AT_mk AT_mo AT_mo_c AT_sl_c AT_fl_c vT_ng vT_mo_n r_150 vT_sl_n fT_sl_c vT_fl_n fT_fl_c) := hD
        refine lv_iinc (v := (x2 + 1)) (lv' := [(2, .int (x2 + 1)), (1, .int x1), (0, .ref AT)]) hx hb dX4_remember_153 hl (k := 0) rfl rfl (by decide) rfl (fun ls hl => ?_)
        refine lv_goto (tgt := 121) hx hb dX4_remember_156 (by decide) ?_
        exact ih_121 (x2 + 1) x1 vT_mo_n r_150 H locs ls hm hP hD hS (lv_sub hl [0, 1, 2] rfl)
  have hL_40 : ∀ (fu_40 : Nat) (x2 : Int32) (x1 : Int32) (vT_mo_n : Int32) (fT_mo_c : Nat → Int32) (H : Heap) (locs : List Loc) (ls : Array Slot), fL_X4_remember_40 vT_ng vT_sl_n fT_sl_c vT_fl_n fT_fl_c fu_40 x2 x1 vT_mo_n fT_mo_c = some out → va_P D vwCl (wd_X4_remember cI cZ AT AT_sl AT_fl AT_ro AT_nt AT_mk AT_mo AT_mo_c AT_sl_c AT_fl_c vT_ng vT_mo_n fT_mo_c vT_sl_n fT_sl_c vT_fl_n fT_fl_c) H → va_D A (wd_X4_remember cI cZ AT AT_sl AT_fl AT_ro AT_nt AT_mk AT_mo AT_mo_c AT_sl_c AT_fl_c vT_ng vT_mo_n fT_mo_c vT_sl_n fT_sl_c vT_fl_n fT_fl_c) → va_S A s.heap H locs → lv_has ls 3 [(2, .int x2), (1, .int x1), (0, .ref AT)] → W p l e { frames := 2, cells := 0, slots := 0, locals := 49 } s m ([.ref AT] : List Value).toArray below meth c H locs 0 0 (MQ below (q_Qv D (wd_X4_remember cI cZ AT AT_sl AT_fl AT_ro AT_nt AT_mk AT_mo AT_mo_c AT_sl_c AT_fl_c vT_ng out.1 out.2 vT_sl_n fT_sl_c vT_fl_n fT_fl_c) A) ([.ref AT] : List Value).toArray s 0 0 A) (F0 m 40 ls []) := by
    intro fu_40
    induction fu_40 with
    | zero => intro x2 x1 vT_mo_n fT_mo_c H locs ls hm hP hD hS hl; exact absurd (show (none : Option (Int32 × (Nat → Int32))) = some out from hm) (fun h => nomatch h)
    | succ fu_40 ih_40 =>
      intro x2 x1 vT_mo_n fT_mo_c H locs ls hm hP hD hS hl
      rw [fL_X4_remember_40] at hm
      refine lv_iload_n hx hb dX4_remember_40 rfl (lv_at hl 0 rfl) ?_
      refine lv_aload_n hx hb dX4_remember_41 rfl (lv_at hl 2 rfl) ?_
      refine gf_X4_14 (v := .ref AT_sl) hx hb hts hown hK hN hP 0 rfl rfl dX4_remember_42 ?_
      obtain ⟨r_45, hc_45, hm⟩ := ob_s hm
      refine q_ci (q_rv (rest := [.int x2]) ⟨hx, hb, hml, hown, hts⟩ hK hN hP hD (c_X3_size l D cI cZ H.size AT_sl AT_sl_c 4 vT_sl_n r_45 hc_45) mb_X3_size mv_X3_size wl_X4_54 [3] rfl rfl rfl (Nat.le_of_ble_eq_true rfl) (Nat.le_of_ble_eq_true rfl) rfl hl.1 rfl (Nat.le_of_ble_eq_true rfl) ⟨Nat.le_refl 0, Nat.le_refl 0⟩ dX4_remember_45) hP hD hS hA [3] rfl rfl (fun H locs hP hD hS => ?_)
      have hP : va_P D vwCl (wd_X4_remember cI cZ AT AT_sl AT_fl AT_ro AT_nt AT_mk AT_mo AT_mo_c AT_sl_c AT_fl_c vT_ng vT_mo_n fT_mo_c vT_sl_n fT_sl_c vT_fl_n fT_fl_c) H := hP
      have hD : va_D A (wd_X4_remember cI cZ AT AT_sl AT_fl AT_ro AT_nt AT_mk AT_mo AT_mo_c AT_sl_c AT_fl_c vT_ng vT_mo_n fT_mo_c vT_sl_n fT_sl_c vT_fl_n fT_fl_c) := hD
      refine lv_icmp_ge (tgt := 119) hx hb dX4_remember_48 (by decide) (fun c_48 => ?_) (fun c_48 => ?_)
      · have hm := it_s c_48 hm
        refine lv_iconst (v := 0) hx hb dX4_remember_119 (by decide) ?_
        refine lv_istore_n (lv' := [(2, .int 0), (1, .int x1), (0, .ref AT)]) hx hb dX4_remember_120 rfl hl (by decide) rfl (fun ls hl => ?_)
        exact hL_121 FU 0 x1 vT_mo_n fT_mo_c H locs ls hm hP hD hS (lv_sub hl [0, 1, 2] rfl)
      · have hm := it_n c_48 hm
        refine lv_aload_n hx hb dX4_remember_51 rfl (lv_at hl 2 rfl) ?_
        refine gf_X4_32 (v := .ref AT_mo) hx hb hts hown hK hN hP 0 rfl rfl dX4_remember_52 ?_
        refine lv_iload_n hx hb dX4_remember_55 rfl (lv_at hl 1 rfl) ?_
        refine lv_iconst (v := 0) hx hb dX4_remember_56 (by decide) ?_
        refine lv_iload_n hx hb dX4_remember_57 rfl (lv_at hl 0 rfl) ?_
        refine lv_iadd hx hb dX4_remember_58 ?_
        refine lv_aload_n hx hb dX4_remember_59 rfl (lv_at hl 2 rfl) ?_
        refine gf_X4_14 (v := .ref AT_sl) hx hb hts hown hK hN hP 0 rfl rfl dX4_remember_60 ?_
        refine lv_iload_n hx hb dX4_remember_63 rfl (lv_at hl 0 rfl) ?_
        refine lv_iconst (v := 1) hx hb dX4_remember_64 (by decide) ?_
        obtain ⟨r_65, hc_65, hm⟩ := ob_s hm
        refine q_ci (q_rv (rest := [.int (0 + x2), .int x1, .ref AT_mo]) ⟨hx, hb, hml, hown, hts⟩ hK hN hP hD (c_X3_cell l D cI cZ H.size AT_sl AT_sl_c 4 24 vT_sl_n fT_sl_c x2 1 r_65 hc_65) mb_X3_cell mv_X3_cell wl_X4_58 [3, 4] rfl rfl rfl (Nat.le_of_ble_eq_true rfl) (Nat.le_of_ble_eq_true rfl) rfl hl.1 rfl (Nat.le_of_ble_eq_true rfl) ⟨Nat.le_refl 0, Nat.le_refl 0⟩ dX4_remember_65) hP hD hS hA [3, 4] rfl rfl (fun H locs hP hD hS => ?_)
        have hP : va_P D vwCl (wd_X4_remember cI cZ AT AT_sl AT_fl AT_ro AT_nt AT_mk AT_mo AT_mo_c AT_sl_c AT_fl_c vT_ng vT_mo_n fT_mo_c vT_sl_n fT_sl_c vT_fl_n fT_fl_c) H := hP
        have hD : va_D A (wd_X4_remember cI cZ AT AT_sl AT_fl AT_ro AT_nt AT_mk AT_mo AT_mo_c AT_sl_c AT_fl_c vT_ng vT_mo_n fT_mo_c vT_sl_n fT_sl_c vT_fl_n fT_fl_c) := hD
        obtain ⟨r_68, hc_68, hm⟩ := ob_s hm
        refine q_cv (q_rv (rest := []) ⟨hx, hb, hml, hown, hts⟩ hK hN hP hD (c_X3_write l D cI cZ H.size AT_mo AT_mo_c 25 200 vT_mo_n fT_mo_c x1 (0 + x2) r_65 r_68 hc_68) mb_X3_write mv_X3_write wl_X4_62 [1, 2] rfl rfl rfl (Nat.le_of_ble_eq_true rfl) (Nat.le_of_ble_eq_true rfl) rfl hl.1 rfl (Nat.le_of_ble_eq_true rfl) ⟨Nat.le_refl 0, Nat.le_refl 0⟩ dX4_remember_68) hP hD hS hA [1, 2] rfl rfl (fun H locs hP hD hS => ?_)
        have hP : va_P D vwCl (wd_X4_remember cI cZ AT AT_sl AT_fl AT_ro AT_nt AT_mk AT_mo AT_mo_c AT_sl_c AT_fl_c vT_ng vT_mo_n r_68 vT_sl_n fT_sl_c vT_fl_n fT_fl_c) H := hP
        have hD : va_D A (wd_X4_remember cI cZ AT AT_sl AT_fl AT_ro AT_nt AT_mk AT_mo AT_mo_c AT_sl_c AT_fl_c vT_ng vT_mo_n r_68 vT_sl_n fT_sl_c vT_fl_n fT_fl_c) := hD
        refine lv_aload_n hx hb dX4_remember_71 rfl (lv_at hl 2 rfl) ?_
        refine gf_X4_32 (v := .ref AT_mo) hx hb hts hown hK hN hP 0 rfl rfl dX4_remember_72 ?_
        refine lv_iload_n hx hb dX4_remember_75 rfl (lv_at hl 1 rfl) ?_
        refine lv_bipush (v := 6) hx hb dX4_remember_76 (by decide) ?_
        refine lv_iload_n hx hb dX4_remember_78 rfl (lv_at hl 0 rfl) ?_
        refine lv_iadd hx hb dX4_remember_79 ?_
        refine lv_aload_n hx hb dX4_remember_80 rfl (lv_at hl 2 rfl) ?_
        refine gf_X4_14 (v := .ref AT_sl) hx hb hts hown hK hN hP 0 rfl rfl dX4_remember_81 ?_
        refine lv_iload_n hx hb dX4_remember_84 rfl (lv_at hl 0 rfl) ?_
        refine lv_iconst (v := 2) hx hb dX4_remember_85 (by decide) ?_
        obtain ⟨r_86, hc_86, hm⟩ := ob_s hm
        refine q_ci (q_rv (rest := [.int (6 + x2), .int x1, .ref AT_mo]) ⟨hx, hb, hml, hown, hts⟩ hK hN hP hD (c_X3_cell l D cI cZ H.size AT_sl AT_sl_c 4 24 vT_sl_n fT_sl_c x2 2 r_86 hc_86) mb_X3_cell mv_X3_cell wl_X4_58 [3, 4] rfl rfl rfl (Nat.le_of_ble_eq_true rfl) (Nat.le_of_ble_eq_true rfl) rfl hl.1 rfl (Nat.le_of_ble_eq_true rfl) ⟨Nat.le_refl 0, Nat.le_refl 0⟩ dX4_remember_86) hP hD hS hA [3, 4] rfl rfl (fun H locs hP hD hS => ?_)
        have hP : va_P D vwCl (wd_X4_remember cI cZ AT AT_sl AT_fl AT_ro AT_nt AT_mk AT_mo AT_mo_c AT_sl_c AT_fl_c vT_ng vT_mo_n r_68 vT_sl_n fT_sl_c vT_fl_n fT_fl_c) H := hP
        have hD : va_D A (wd_X4_remember cI cZ AT AT_sl AT_fl AT_ro AT_nt AT_mk AT_mo AT_mo_c AT_sl_c AT_fl_c vT_ng vT_mo_n r_68 vT_sl_n fT_sl_c vT_fl_n fT_fl_c) := hD
        obtain ⟨r_89, hc_89, hm⟩ := ob_s hm
        refine q_cv (q_rv (rest := []) ⟨hx, hb, hml, hown, hts⟩ hK hN hP hD (c_X3_write l D cI cZ H.size AT_mo AT_mo_c 25 200 vT_mo_n r_68 x1 (6 + x2) r_86 r_89 hc_89) mb_X3_write mv_X3_write wl_X4_62 [1, 2] rfl rfl rfl (Nat.le_of_ble_eq_true rfl) (Nat.le_of_ble_eq_true rfl) rfl hl.1 rfl (Nat.le_of_ble_eq_true rfl) ⟨Nat.le_refl 0, Nat.le_refl 0⟩ dX4_remember_89) hP hD hS hA [1, 2] rfl rfl (fun H locs hP hD hS => ?_)
        have hP : va_P D vwCl (wd_X4_remember cI cZ AT AT_sl AT_fl AT_ro AT_nt AT_mk AT_mo AT_mo_c AT_sl_c AT_fl_c vT_ng vT_mo_n r_89 vT_sl_n fT_sl_c vT_fl_n fT_fl_c) H := hP
        have hD : va_D A (wd_X4_remember cI cZ AT AT_sl AT_fl AT_ro AT_nt AT_mk AT_mo AT_mo_c AT_sl_c AT_fl_c vT_ng vT_mo_n r_89 vT_sl_n fT_sl_c vT_fl_n fT_fl_c) := hD
        refine lv_aload_n hx hb dX4_remember_92 rfl (lv_at hl 2 rfl) ?_
        refine gf_X4_32 (v := .ref AT_mo) hx hb hts hown hK hN hP 0 rfl rfl dX4_remember_93 ?_
        refine lv_iload_n hx hb dX4_remember_96 rfl (lv_at hl 1 rfl) ?_
        refine lv_bipush (v := 12) hx hb dX4_remember_97 (by decide) ?_
        refine lv_iload_n hx hb dX4_remember_99 rfl (lv_at hl 0 rfl) ?_
        refine lv_iadd hx hb dX4_remember_100 ?_
        refine lv_aload_n hx hb dX4_remember_101 rfl (lv_at hl 2 rfl) ?_
        refine gf_X4_14 (v := .ref AT_sl) hx hb hts hown hK hN hP 0 rfl rfl dX4_remember_102 ?_
        refine lv_iload_n hx hb dX4_remember_105 rfl (lv_at hl 0 rfl) ?_
        refine lv_iconst (v := 3) hx hb dX4_remember_106 (by decide) ?_
        obtain ⟨r_107, hc_107, hm⟩ := ob_s hm
        refine q_ci (q_rv (rest := [.int (12 + x2), .int x1, .ref AT_mo]) ⟨hx, hb, hml, hown, hts⟩ hK hN hP hD (c_X3_cell l D cI cZ H.size AT_sl AT_sl_c 4 24 vT_sl_n fT_sl_c x2 3 r_107 hc_107) mb_X3_cell mv_X3_cell wl_X4_58 [3, 4] rfl rfl rfl (Nat.le_of_ble_eq_true rfl) (Nat.le_of_ble_eq_true rfl) rfl hl.1 rfl (Nat.le_of_ble_eq_true rfl) ⟨Nat.le_refl 0, Nat.le_refl 0⟩ dX4_remember_107) hP hD hS hA [3, 4] rfl rfl (fun H locs hP hD hS => ?_)
        have hP : va_P D vwCl (wd_X4_remember cI cZ AT AT_sl AT_fl AT_ro AT_nt AT_mk AT_mo AT_mo_c AT_sl_c AT_fl_c vT_ng vT_mo_n r_89 vT_sl_n fT_sl_c vT_fl_n fT_fl_c) H := hP
        have hD : va_D A (wd_X4_remember cI cZ AT AT_sl AT_fl AT_ro AT_nt AT_mk AT_mo AT_mo_c AT_sl_c AT_fl_c vT_ng vT_mo_n r_89 vT_sl_n fT_sl_c vT_fl_n fT_fl_c) := hD
        obtain ⟨r_110, hc_110, hm⟩ := ob_s hm
        refine q_cv (q_rv (rest := []) ⟨hx, hb, hml, hown, hts⟩ hK hN hP hD (c_X3_write l D cI cZ H.size AT_mo AT_mo_c 25 200 vT_mo_n r_89 x1 (12 + x2) r_107 r_110 hc_110) mb_X3_write mv_X3_write wl_X4_62 [1, 2] rfl rfl rfl (Nat.le_of_ble_eq_true rfl) (Nat.le_of_ble_eq_true rfl) rfl hl.1 rfl (Nat.le_of_ble_eq_true rfl) ⟨Nat.le_refl 0, Nat.le_refl 0⟩ dX4_remember_110) hP hD hS hA [1, 2] rfl rfl (fun H locs hP hD hS => ?_)
        have hP : va_P D vwCl (wd_X4_remember cI cZ AT AT_sl AT_fl AT_ro AT_nt AT_mk AT_mo AT_mo_c AT_sl_c AT_fl_c vT_ng vT_mo_n r_110 vT_sl_n fT_sl_c vT_fl_n fT_fl_c) H := hP
        have hD : va_D A (wd_X4_remember cI cZ AT AT_sl AT_fl AT_ro AT_nt AT_mk AT_mo AT_mo_c AT_sl_c AT_fl_c vT_ng vT_mo_n r_110 vT_sl_n fT_sl_c vT_fl_n fT_fl_c) := hD
        refine lv_iinc (v := (x2 + 1)) (lv' := [(2, .int (x2 + 1)), (1, .int x1), (0, .ref AT)]) hx hb dX4_remember_113 hl (k := 0) rfl rfl (by decide) rfl (fun ls hl => ?_)
        refine lv_goto (tgt := 40) hx hb dX4_remember_116 (by decide) ?_
        exact ih_40 (x2 + 1) x1 vT_mo_n r_110 H locs ls hm hP hD hS (lv_sub hl [0, 1, 2] rfl)
  unfold fm_X4_remember at hm
  refine q_gen hS hP ?_
  intro H locs hP hS
  refine lv_aload_n hx hb dX4_remember_0 rfl (lv_at hl 0 rfl) ?_
  refine gf_X4_32 (v := .ref AT_mo) hx hb hts hown hK hN hP 0 rfl rfl dX4_remember_1 ?_
  obtain ⟨r_4, hc_4, hm⟩ := ob_s hm
  refine q_ci (q_rv (rest := []) ⟨hx, hb, hml, hown, hts⟩ hK hN hP hD (c_X3_isFull l D cI cZ H.size AT_mo AT_mo_c 25 200 vT_mo_n fT_mo_c r_4 hc_4) mb_X3_isFull mv_X3_isFull wl_X4_88 [1, 2] rfl rfl rfl (Nat.le_of_ble_eq_true rfl) (Nat.le_of_ble_eq_true rfl) rfl hl.1 rfl (Nat.le_of_ble_eq_true rfl) ⟨Nat.le_refl 0, Nat.le_refl 0⟩ dX4_remember_4) hP hD hS hA [1, 2] rfl rfl (fun H locs hP hD hS => ?_)
  have hP : va_P D vwCl (wd_X4_remember cI cZ AT AT_sl AT_fl AT_ro AT_nt AT_mk AT_mo AT_mo_c AT_sl_c AT_fl_c vT_ng vT_mo_n fT_mo_c vT_sl_n fT_sl_c vT_fl_n fT_fl_c) H := hP
  have hD : va_D A (wd_X4_remember cI cZ AT AT_sl AT_fl AT_ro AT_nt AT_mk AT_mo AT_mo_c AT_sl_c AT_fl_c vT_ng vT_mo_n fT_mo_c vT_sl_n fT_sl_c vT_fl_n fT_fl_c) := hD
  refine lv_if_eq (tgt := 17) hx hb dX4_remember_7 (by decide) (fun c_7 => ?_) (fun c_7 => ?_)
  · have hm := it_s c_7 hm
    refine lv_aload_n hx hb dX4_remember_17 rfl (lv_at hl 0 rfl) ?_
    refine gf_X4_32 (v := .ref AT_mo) hx hb hts hown hK hN hP 0 rfl rfl dX4_remember_18 ?_
    refine lv_iconst (v := 0) hx hb dX4_remember_21 (by decide) ?_
    refine lv_iconst (v := 0) hx hb dX4_remember_22 (by decide) ?_
    refine lv_iconst (v := 0) hx hb dX4_remember_23 (by decide) ?_
    refine lv_iconst (v := 0) hx hb dX4_remember_24 (by decide) ?_
    obtain ⟨r_25, hc_25, hm⟩ := ob_s hm
    refine q_cv (q_rv (rest := []) ⟨hx, hb, hml, hown, hts⟩ hK hN hP hD (c_X3_add l D cI cZ H.size AT_mo AT_mo_c 25 200 vT_mo_n fT_mo_c 0 0 0 0 r_25 hc_25) mb_X3_add mv_X3_add wl_X4_50 [1, 2] rfl rfl rfl (Nat.le_of_ble_eq_true rfl) (Nat.le_of_ble_eq_true rfl) rfl hl.1 rfl (Nat.le_of_ble_eq_true rfl) ⟨Nat.le_refl 0, Nat.le_refl 0⟩ dX4_remember_25) hP hD hS hA [1, 2] rfl rfl (fun H locs hP hD hS => ?_)
    have hP : va_P D vwCl (wd_X4_remember cI cZ AT AT_sl AT_fl AT_ro AT_nt AT_mk AT_mo AT_mo_c AT_sl_c AT_fl_c vT_ng r_25.1 r_25.2 vT_sl_n fT_sl_c vT_fl_n fT_fl_c) H := hP
    have hD : va_D A (wd_X4_remember cI cZ AT AT_sl AT_fl AT_ro AT_nt AT_mk AT_mo AT_mo_c AT_sl_c AT_fl_c vT_ng r_25.1 r_25.2 vT_sl_n fT_sl_c vT_fl_n fT_fl_c) := hD
    refine lv_aload_n hx hb dX4_remember_28 rfl (lv_at hl 0 rfl) ?_
    refine gf_X4_32 (v := .ref AT_mo) hx hb hts hown hK hN hP 0 rfl rfl dX4_remember_29 ?_
    obtain ⟨r_32, hc_32, hm⟩ := ob_s hm
    refine q_ci (q_rv (rest := []) ⟨hx, hb, hml, hown, hts⟩ hK hN hP hD (c_X3_size l D cI cZ H.size AT_mo AT_mo_c 25 r_25.1 r_32 hc_32) mb_X3_size mv_X3_size wl_X4_54 [1] rfl rfl rfl (Nat.le_of_ble_eq_true rfl) (Nat.le_of_ble_eq_true rfl) rfl hl.1 rfl (Nat.le_of_ble_eq_true rfl) ⟨Nat.le_refl 0, Nat.le_refl 0⟩ dX4_remember_32) hP hD hS hA [1] rfl rfl (fun H locs hP hD hS => ?_)
    have hP : va_P D vwCl (wd_X4_remember cI cZ AT AT_sl AT_fl AT_ro AT_nt AT_mk AT_mo AT_mo_c AT_sl_c AT_fl_c vT_ng r_25.1 r_25.2 vT_sl_n fT_sl_c vT_fl_n fT_fl_c) H := hP
    have hD : va_D A (wd_X4_remember cI cZ AT AT_sl AT_fl AT_ro AT_nt AT_mk AT_mo AT_mo_c AT_sl_c AT_fl_c vT_ng r_25.1 r_25.2 vT_sl_n fT_sl_c vT_fl_n fT_fl_c) := hD
    refine lv_iconst (v := 1) hx hb dX4_remember_35 (by decide) ?_
    refine lv_isub hx hb dX4_remember_36 ?_
    refine lv_istore_n (lv' := [(1, .int (r_32 - 1)), (0, .ref AT)]) hx hb dX4_remember_37 rfl hl (by decide) rfl (fun ls hl => ?_)
    refine lv_iconst (v := 0) hx hb dX4_remember_38 (by decide) ?_
    refine lv_istore_n (lv' := [(2, .int 0), (1, .int (r_32 - 1)), (0, .ref AT)]) hx hb dX4_remember_39 rfl hl (by decide) rfl (fun ls hl => ?_)
    exact hL_40 FU 0 (r_32 - 1) r_25.1 r_25.2 H locs ls hm hP hD hS (lv_sub hl [0, 1, 2] rfl)
  · have hm := it_n c_7 hm
    refine lv_aload_n hx hb dX4_remember_10 rfl (lv_at hl 0 rfl) ?_
    refine gf_X4_32 (v := .ref AT_mo) hx hb hts hown hK hN hP 0 rfl rfl dX4_remember_11 ?_
    obtain ⟨r_14, hc_14, hm⟩ := ob_s hm
    refine q_cv (q_rv (rest := []) ⟨hx, hb, hml, hown, hts⟩ hK hN hP hD (c_X3_dropFirst l D cI cZ H.size AT_mo AT_mo_c 25 200 vT_mo_n fT_mo_c r_14 hc_14) mb_X3_dropFirst mv_X3_dropFirst wl_X4_92 [1, 2] rfl rfl rfl (Nat.le_of_ble_eq_true rfl) (Nat.le_of_ble_eq_true rfl) rfl hl.1 rfl (Nat.le_of_ble_eq_true rfl) ⟨Nat.le_refl 0, Nat.le_refl 0⟩ dX4_remember_14) hP hD hS hA [1, 2] rfl rfl (fun H locs hP hD hS => ?_)
    have hP : va_P D vwCl (wd_X4_remember cI cZ AT AT_sl AT_fl AT_ro AT_nt AT_mk AT_mo AT_mo_c AT_sl_c AT_fl_c vT_ng r_14.1 r_14.2 vT_sl_n fT_sl_c vT_fl_n fT_fl_c) H := hP
    have hD : va_D A (wd_X4_remember cI cZ AT AT_sl AT_fl AT_ro AT_nt AT_mk AT_mo AT_mo_c AT_sl_c AT_fl_c vT_ng r_14.1 r_14.2 vT_sl_n fT_sl_c vT_fl_n fT_fl_c) := hD
    refine lv_aload_n hx hb dX4_remember_17 rfl (lv_at hl 0 rfl) ?_
    refine gf_X4_32 (v := .ref AT_mo) hx hb hts hown hK hN hP 0 rfl rfl dX4_remember_18 ?_
    refine lv_iconst (v := 0) hx hb dX4_remember_21 (by decide) ?_
    refine lv_iconst (v := 0) hx hb dX4_remember_22 (by decide) ?_
    refine lv_iconst (v := 0) hx hb dX4_remember_23 (by decide) ?_
    refine lv_iconst (v := 0) hx hb dX4_remember_24 (by decide) ?_
    obtain ⟨r_25, hc_25, hm⟩ := ob_s hm
    refine q_cv (q_rv (rest := []) ⟨hx, hb, hml, hown, hts⟩ hK hN hP hD (c_X3_add l D cI cZ H.size AT_mo AT_mo_c 25 200 r_14.1 r_14.2 0 0 0 0 r_25 hc_25) mb_X3_add mv_X3_add wl_X4_50 [1, 2] rfl rfl rfl (Nat.le_of_ble_eq_true rfl) (Nat.le_of_ble_eq_true rfl) rfl hl.1 rfl (Nat.le_of_ble_eq_true rfl) ⟨Nat.le_refl 0, Nat.le_refl 0⟩ dX4_remember_25) hP hD hS hA [1, 2] rfl rfl (fun H locs hP hD hS => ?_)
    have hP : va_P D vwCl (wd_X4_remember cI cZ AT AT_sl AT_fl AT_ro AT_nt AT_mk AT_mo AT_mo_c AT_sl_c AT_fl_c vT_ng r_25.1 r_25.2 vT_sl_n fT_sl_c vT_fl_n fT_fl_c) H := hP
    have hD : va_D A (wd_X4_remember cI cZ AT AT_sl AT_fl AT_ro AT_nt AT_mk AT_mo AT_mo_c AT_sl_c AT_fl_c vT_ng r_25.1 r_25.2 vT_sl_n fT_sl_c vT_fl_n fT_fl_c) := hD
    refine lv_aload_n hx hb dX4_remember_28 rfl (lv_at hl 0 rfl) ?_
    refine gf_X4_32 (v := .ref AT_mo) hx hb hts hown hK hN hP 0 rfl rfl dX4_remember_29 ?_
    obtain ⟨r_32, hc_32, hm⟩ := ob_s hm
    refine q_ci (q_rv (rest := []) ⟨hx, hb, hml, hown, hts⟩ hK hN hP hD (c_X3_size l D cI cZ H.size AT_mo AT_mo_c 25 r_25.1 r_32 hc_32) mb_X3_size mv_X3_size wl_X4_54 [1] rfl rfl rfl (Nat.le_of_ble_eq_true rfl) (Nat.le_of_ble_eq_true rfl) rfl hl.1 rfl (Nat.le_of_ble_eq_true rfl) ⟨Nat.le_refl 0, Nat.le_refl 0⟩ dX4_remember_32) hP hD hS hA [1] rfl rfl (fun H locs hP hD hS => ?_)
    have hP : va_P D vwCl (wd_X4_remember cI cZ AT AT_sl AT_fl AT_ro AT_nt AT_mk AT_mo AT_mo_c AT_sl_c AT_fl_c vT_ng r_25.1 r_25.2 vT_sl_n fT_sl_c vT_fl_n fT_fl_c) H := hP
    have hD : va_D A (wd_X4_remember cI cZ AT AT_sl AT_fl AT_ro AT_nt AT_mk AT_mo AT_mo_c AT_sl_c AT_fl_c vT_ng r_25.1 r_25.2 vT_sl_n fT_sl_c vT_fl_n fT_fl_c) := hD
    refine lv_iconst (v := 1) hx hb dX4_remember_35 (by decide) ?_
    refine lv_isub hx hb dX4_remember_36 ?_
    refine lv_istore_n (lv' := [(1, .int (r_32 - 1)), (0, .ref AT)]) hx hb dX4_remember_37 rfl hl (by decide) rfl (fun ls hl => ?_)
    refine lv_iconst (v := 0) hx hb dX4_remember_38 (by decide) ?_
    refine lv_istore_n (lv' := [(2, .int 0), (1, .int (r_32 - 1)), (0, .ref AT)]) hx hb dX4_remember_39 rfl hl (by decide) rfl (fun ls hl => ?_)
    exact hL_40 FU 0 (r_32 - 1) r_25.1 r_25.2 H locs ls hm hP hD hS (lv_sub hl [0, 1, 2] rfl)
theorem mb_X4_goBack : q_mb yX4_goBack cX4_goBack 3 none 0 := ⟨wc_X4_goBack, wn_X4, by decide, by decide, by decide +kernel⟩
theorem mv_X4_goBack : q_mv yX4_goBack 4 := ⟨wi_X4_goBack, ws_X4_goBack, _, rfl, rfl⟩
def wd_X4_goBack (cI cZ : ClassId) (AT AT_sl AT_fl AT_ro AT_nt AT_mk AT_mo AT_mo_c AT_sl_c AT_fl_c : Nat) (vT_ng : Int32) (vT_mo_n : Int32) (vT_sl_n : Int32) (fT_mo_c : Nat → Int32) (fT_sl_c : Nat → Int32) (vT_fl_n : Int32) (fT_fl_c : Nat → Int32) : va_W := [(AT, .inr (4, [.ref AT_sl, .ref AT_fl, .ref AT_ro, .ref AT_nt, .ref AT_mk, .ref AT_mo, .int vT_ng])), (AT_mo, .inr (3, [.int 25, .ref AT_mo_c, .int vT_mo_n])), (AT_sl, .inr (3, [.int 4, .ref AT_sl_c, .int vT_sl_n])), (AT_mo_c, .inl (cI, 200, .inl fT_mo_c)), (AT_sl_c, .inl (cI, 24, .inl fT_sl_c)), (AT_fl, .inr (3, [.int 3, .ref AT_fl_c, .int vT_fl_n])), (AT_fl_c, .inl (cI, 18, .inl fT_fl_c))]
def fL_X4_goBack_93 (vT_sl_n : Int32) (fT_mo_c : Nat → Int32) (vT_fl_n : Int32) : Nat → Int32 → Int32 → Int32 → Int32 → (Nat → Int32) → (Nat → Int32) → Option (Int32 × Int32 × (Nat → Int32) × (Nat → Int32))
  | 0, _, _, _, _, _, _ => none
  | fu + 1, x2, x1, vT_ng, vT_mo_n, fT_sl_c, fT_fl_c => Option.bind (fm_X3_size vT_fl_n) (fun r_98 => if r_98 ≤ x2 then (Option.bind (fm_X3_cell 25 200 x1 24 vT_mo_n fT_mo_c) (fun r_139 => Option.bind (fm_X3_dropLast vT_mo_n) (fun r_149 => some (r_139, r_149, fT_sl_c, fT_fl_c)))) else (Option.bind (fm_X3_cell 25 200 x1 (18 + x2) vT_mo_n fT_mo_c) (fun r_119 => Option.bind (fm_X3_write 3 18 x2 2 r_119 vT_fl_n fT_fl_c) (fun r_122 => fL_X4_goBack_93 vT_sl_n fT_mo_c vT_fl_n fu (x2 + 1) x1 vT_ng vT_mo_n fT_sl_c r_122))))
def fL_X4_goBack_12 (vT_sl_n : Int32) (fT_mo_c : Nat → Int32) (vT_fl_n : Int32) : Nat → Int32 → Int32 → Int32 → Int32 → (Nat → Int32) → (Nat → Int32) → Option (Int32 × Int32 × (Nat → Int32) × (Nat → Int32))
  | 0, _, _, _, _, _, _ => none
  | fu + 1, x2, x1, vT_ng, vT_mo_n, fT_sl_c, fT_fl_c => Option.bind (fm_X3_size vT_sl_n) (fun r_17 => if r_17 ≤ x2 then (fL_X4_goBack_93 vT_sl_n fT_mo_c vT_fl_n FU 0 x1 vT_ng vT_mo_n fT_sl_c fT_fl_c) else (Option.bind (fm_X3_cell 25 200 x1 (0 + x2) vT_mo_n fT_mo_c) (fun r_37 => Option.bind (fm_X3_write 4 24 x2 1 r_37 vT_sl_n fT_sl_c) (fun r_40 => Option.bind (fm_X3_cell 25 200 x1 (6 + x2) vT_mo_n fT_mo_c) (fun r_58 => Option.bind (fm_X3_write 4 24 x2 2 r_58 vT_sl_n r_40) (fun r_61 => Option.bind (fm_X3_cell 25 200 x1 (12 + x2) vT_mo_n fT_mo_c) (fun r_79 => Option.bind (fm_X3_write 4 24 x2 3 r_79 vT_sl_n r_61) (fun r_82 => fL_X4_goBack_12 vT_sl_n fT_mo_c vT_fl_n fu (x2 + 1) x1 vT_ng vT_mo_n r_82 fT_fl_c))))))))
def fm_X4_goBack (vT_ng : Int32) (vT_mo_n : Int32) (vT_sl_n : Int32) (fT_mo_c : Nat → Int32) (fT_sl_c : Nat → Int32) (vT_fl_n : Int32) (fT_fl_c : Nat → Int32) : Option (Int32 × Int32 × (Nat → Int32) × (Nat → Int32)) := Option.bind (fm_X3_size vT_mo_n) (fun r_4 => fL_X4_goBack_12 vT_sl_n fT_mo_c vT_fl_n FU 0 (r_4 - 1) vT_ng vT_mo_n fT_sl_c fT_fl_c)
set_option maxHeartbeats 4000000 in
set_option maxRecDepth 100000 in
theorem c_X4_goBack (l : Launch) (D : va_G) (cI cZ : ClassId) (sz : Nat) (AT AT_sl AT_fl AT_ro AT_nt AT_mk AT_mo AT_mo_c AT_sl_c AT_fl_c : Nat) (vT_ng : Int32) (vT_mo_n : Int32) (vT_sl_n : Int32) (fT_mo_c : Nat → Int32) (fT_sl_c : Nat → Int32) (vT_fl_n : Int32) (fT_fl_c : Nat → Int32) (out : (Int32 × Int32 × (Nat → Int32) × (Nat → Int32))) (hm : fm_X4_goBack vT_ng vT_mo_n vT_sl_n fT_mo_c fT_sl_c vT_fl_n fT_fl_c = some out) : Met l yX4_goBack (Cond.code yX4_goBack cX4_goBack 3 none :: bg) { frames := 1, cells := 0, slots := 0, locals := 25 } (va_Pc [.ref AT] (q_pre D cI cZ sz (wd_X4_goBack cI cZ AT AT_sl AT_fl AT_ro AT_nt AT_mk AT_mo AT_mo_c AT_sl_c AT_fl_c vT_ng vT_mo_n vT_sl_n fT_mo_c fT_sl_c vT_fl_n fT_fl_c))) (q_Qv D (wd_X4_goBack cI cZ AT AT_sl AT_fl AT_ro AT_nt AT_mk AT_mo AT_mo_c AT_sl_c AT_fl_c out.1 out.2.1 vT_sl_n fT_mo_c out.2.2.1 vT_fl_n out.2.2.2) (va_A (wd_X4_goBack cI cZ AT AT_sl AT_fl AT_ro AT_nt AT_mk AT_mo AT_mo_c AT_sl_c AT_fl_c vT_ng vT_mo_n vT_sl_n fT_mo_c fT_sl_c vT_fl_n fT_fl_c) sz)) 0 0 (va_A (wd_X4_goBack cI cZ AT AT_sl AT_fl AT_ro AT_nt AT_mk AT_mo AT_mo_c AT_sl_c AT_fl_c vT_ng vT_mo_n vT_sl_n fT_mo_c fT_sl_c vT_fl_n fT_fl_c) sz) := by
  refine q_met (fun A => q_Qv D (wd_X4_goBack cI cZ AT AT_sl AT_fl AT_ro AT_nt AT_mk AT_mo AT_mo_c AT_sl_c AT_fl_c out.1 out.2.1 vT_sl_n fT_mo_c out.2.2.1 vT_fl_n out.2.2.2) A) (by decide) (Nat.le_of_ble_eq_true rfl) ?_
  intro p e s m below meth c ls A hx hb hr hml hown hts hlocks _ hA hS hP hD hK hN hl
  have hown : s.vm.findClass RX4 = some m.cls := hown
  have hl : lv_has ls 3 [(0, .ref AT)] := hl
  have hL_93 : ∀ (fu_93 : Nat) (x2 : Int32) (x1 : Int32) (vT_ng : Int32) (vT_mo_n : Int32) (fT_sl_c : Nat → Int32) (fT_fl_c : Nat → Int32) (H : Heap) (locs : List Loc) (ls : Array Slot), fL_X4_goBack_93 vT_sl_n fT_mo_c vT_fl_n fu_93 x2 x1 vT_ng vT_mo_n fT_sl_c fT_fl_c = some out → va_P D vwCl (wd_X4_goBack cI cZ AT AT_sl AT_fl AT_ro AT_nt AT_mk AT_mo AT_mo_c AT_sl_c AT_fl_c vT_ng vT_mo_n vT_sl_n fT_mo_c fT_sl_c vT_fl_n fT_fl_c) H → va_D A (wd_X4_goBack cI cZ AT AT_sl AT_fl AT_ro AT_nt AT_mk AT_mo AT_mo_c AT_sl_c AT_fl_c vT_ng vT_mo_n vT_sl_n fT_mo_c fT_sl_c vT_fl_n fT_fl_c) → va_S A s.heap H locs → lv_has ls 3 [(2, .int x2), (1, .int x1), (0, .ref AT)] → W p l e { frames := 1, cells := 0, slots := 0, locals := 25 } s m ([.ref AT] : List Value).toArray below meth c H locs 0 0 (MQ below (q_Qv D (wd_X4_goBack cI cZ AT AT_sl AT_fl AT_ro AT_nt AT_mk AT_mo AT_mo_c AT_sl_c AT_fl_c out.1 out.2.1 vT_sl_n fT_mo_c out.2.2.1 vT_fl_n out.2.2.2) A) ([.ref AT] : List Value).toArray s 0 0 A) (F0 m 93 ls []) := by
    intro fu_93
    induction fu_93 with
    | zero => intro x2 x1 vT_ng vT_mo_n fT_sl_c fT_fl_c H locs ls hm hP hD hS hl; exact absurd (show (none : Option (Int32 × Int32 × (Nat → Int32) × (Nat → Int32))) = some out from hm) (fun h => nomatch h)
    | succ fu_93 ih_93 =>
      intro x2 x1 vT_ng vT_mo_n fT_sl_c fT_fl_c H locs ls hm hP hD hS hl
      rw [fL_X4_goBack_93] at hm
      refine lv_iload_n hx hb dX4_goBack_93 rfl (lv_at hl 0 rfl) ?_
      refine lv_aload_n hx hb dX4_goBack_94 rfl (lv_at hl 2 rfl) ?_
      refine gf_X4_20 (v := .ref AT_fl) hx hb hts hown hK hN hP 0 rfl rfl dX4_goBack_95 ?_
      obtain ⟨r_98, hc_98, hm⟩ := ob_s hm
      refine q_ci (q_rv (rest := [.int x2]) ⟨hx, hb, hml, hown, hts⟩ hK hN hP hD (c_X3_size l D cI cZ H.size AT_fl AT_fl_c 3 vT_fl_n r_98 hc_98) mb_X3_size mv_X3_size wl_X4_54 [5] rfl rfl rfl (Nat.le_of_ble_eq_true rfl) (Nat.le_of_ble_eq_true rfl) rfl hl.1 rfl (Nat.le_of_ble_eq_true rfl) ⟨Nat.le_refl 0, Nat.le_refl 0⟩ dX4_goBack_98) hP hD hS hA [5] rfl rfl (fun H locs hP hD hS => ?_)
      have hP : va_P D vwCl (wd_X4_goBack cI cZ AT AT_sl AT_fl AT_ro AT_nt AT_mk AT_mo AT_mo_c AT_sl_c AT_fl_c vT_ng vT_mo_n vT_sl_n fT_mo_c fT_sl_c vT_fl_n fT_fl_c) H := hP
      have hD : va_D A (wd_X4_goBack cI cZ AT AT_sl AT_fl AT_ro AT_nt AT_mk AT_mo AT_mo_c AT_sl_c AT_fl_c vT_ng vT_mo_n vT_sl_n fT_mo_c fT_sl_c vT_fl_n fT_fl_c) := hD
      refine lv_icmp_ge (tgt := 131) hx hb dX4_goBack_101 (by decide) (fun c_101 => ?_) (fun c_101 => ?_)
      · have hm := it_s c_101 hm
        refine lv_aload_n hx hb dX4_goBack_131 rfl (lv_at hl 2 rfl) ?_
        refine lv_aload_n hx hb dX4_goBack_132 rfl (lv_at hl 2 rfl) ?_
        refine gf_X4_32 (v := .ref AT_mo) hx hb hts hown hK hN hP 0 rfl rfl dX4_goBack_133 ?_
        refine lv_iload_n hx hb dX4_goBack_136 rfl (lv_at hl 1 rfl) ?_
        refine lv_bipush (v := 24) hx hb dX4_goBack_137 (by decide) ?_
        obtain ⟨r_139, hc_139, hm⟩ := ob_s hm
        refine q_ci (q_rv (rest := [.ref AT]) ⟨hx, hb, hml, hown, hts⟩ hK hN hP hD (c_X3_cell l D cI cZ H.size AT_mo AT_mo_c 25 200 vT_mo_n fT_mo_c x1 24 r_139 hc_139) mb_X3_cell mv_X3_cell wl_X4_58 [1, 3] rfl rfl rfl (Nat.le_of_ble_eq_true rfl) (Nat.le_of_ble_eq_true rfl) rfl hl.1 rfl (Nat.le_of_ble_eq_true rfl) ⟨Nat.le_refl 0, Nat.le_refl 0⟩ dX4_goBack_139) hP hD hS hA [1, 3] rfl rfl (fun H locs hP hD hS => ?_)
        have hP : va_P D vwCl (wd_X4_goBack cI cZ AT AT_sl AT_fl AT_ro AT_nt AT_mk AT_mo AT_mo_c AT_sl_c AT_fl_c vT_ng vT_mo_n vT_sl_n fT_mo_c fT_sl_c vT_fl_n fT_fl_c) H := hP
        have hD : va_D A (wd_X4_goBack cI cZ AT AT_sl AT_fl AT_ro AT_nt AT_mk AT_mo AT_mo_c AT_sl_c AT_fl_c vT_ng vT_mo_n vT_sl_n fT_mo_c fT_sl_c vT_fl_n fT_fl_c) := hD
        refine pf_X4_38 hx hb hts hown hK hN hP hD hS 0 rfl dX4_goBack_142 (fun H locs hP hD hS => ?_)
        have hP : va_P D vwCl (wd_X4_goBack cI cZ AT AT_sl AT_fl AT_ro AT_nt AT_mk AT_mo AT_mo_c AT_sl_c AT_fl_c r_139 vT_mo_n vT_sl_n fT_mo_c fT_sl_c vT_fl_n fT_fl_c) H := hP
        have hD : va_D A (wd_X4_goBack cI cZ AT AT_sl AT_fl AT_ro AT_nt AT_mk AT_mo AT_mo_c AT_sl_c AT_fl_c r_139 vT_mo_n vT_sl_n fT_mo_c fT_sl_c vT_fl_n fT_fl_c) := hD
        refine lv_aload_n hx hb dX4_goBack_145 rfl (lv_at hl 2 rfl) ?_
        refine gf_X4_32 (v := .ref AT_mo) hx hb hts hown hK hN hP 0 rfl rfl dX4_goBack_146 ?_
        obtain ⟨r_149, hc_149, hm⟩ := ob_s hm
        refine q_cv (q_rv (rest := []) ⟨hx, hb, hml, hown, hts⟩ hK hN hP hD (c_X3_dropLast l D cI cZ H.size AT_mo AT_mo_c 25 vT_mo_n r_149 hc_149) mb_X3_dropLast mv_X3_dropLast wl_X4_95 [1] rfl rfl rfl (Nat.le_of_ble_eq_true rfl) (Nat.le_of_ble_eq_true rfl) rfl hl.1 rfl (Nat.le_of_ble_eq_true rfl) ⟨Nat.le_refl 0, Nat.le_refl 0⟩ dX4_goBack_149) hP hD hS hA [1] rfl rfl (fun H locs hP hD hS => ?_)
        have hP : va_P D vwCl (wd_X4_goBack cI cZ AT AT_sl AT_fl AT_ro AT_nt AT_mk AT_mo AT_mo_c AT_sl_c AT_fl_c r_139 r_149 vT_sl_n fT_mo_c fT_sl_c vT_fl_n fT_fl_c) H := hP
        have hD : va_D A (wd_X4_goBack cI cZ AT AT_sl AT_fl AT_ro AT_nt AT_mk AT_mo AT_mo_c AT_sl_c AT_fl_c r_139 r_149 vT_sl_n fT_mo_c fT_sl_c vT_fl_n fT_fl_c) := hD
        have hm := Option.some.inj hm
        subst hm
        exact q_vret hx hb hr hlocks hP hS dX4_goBack_152
      · have hm := it_n c_101 hm
        refine lv_aload_n hx hb dX4_goBack_104 rfl (lv_at hl 2 rfl) ?_
        refine gf_X4_20 (v := .ref AT_fl) hx hb hts hown hK hN hP 0 rfl rfl dX4_goBack_105 ?_
        refine lv_iload_n hx hb dX4_goBack_108 rfl (lv_at hl 0 rfl) ?_
        refine lv_iconst (v := 2) hx hb dX4_goBack_109 (by decide) ?_
        refine lv_aload_n hx hb dX4_goBack_110 rfl (lv_at hl 2 rfl) ?_
        refine gf_X4_32 (v := .ref AT_mo) hx hb hts hown hK hN hP 0 rfl rfl dX4_goBack_111 ?_
        refine lv_iload_n hx hb dX4_goBack_114 rfl (lv_at hl 1 rfl) ?_
        refine lv_bipush (v := 18) hx hb dX4_goBack_115 (by decide) ?_
        refine lv_iload_n hx hb dX4_goBack_117 rfl (lv_at hl 0 rfl) ?_
        refine lv_iadd hx hb dX4_goBack_118 ?_
        obtain ⟨r_119, hc_119, hm⟩ := ob_s hm
        refine q_ci (q_rv (rest := [.int 2, .int x2, .ref AT_fl]) ⟨hx, hb, hml, hown, hts⟩ hK hN hP hD (c_X3_cell l D cI cZ H.size AT_mo AT_mo_c 25 200 vT_mo_n fT_mo_c x1 (18 + x2) r_119 hc_119) mb_X3_cell mv_X3_cell wl_X4_58 [1, 3] rfl rfl rfl (Nat.le_of_ble_eq_true rfl) (Nat.le_of_ble_eq_true rfl) rfl hl.1 rfl (Nat.le_of_ble_eq_true rfl) ⟨Nat.le_refl 0, Nat.le_refl 0⟩ dX4_goBack_119) hP hD hS hA [1, 3] rfl rfl (fun H locs hP hD hS => ?_)
        have hP : va_P D vwCl (wd_X4_goBack cI cZ AT AT_sl AT_fl AT_ro AT_nt AT_mk AT_mo AT_mo_c AT_sl_c AT_fl_c vT_ng vT_mo_n vT_sl_n fT_mo_c fT_sl_c vT_fl_n fT_fl_c) H := hP
        have hD : va_D A (wd_X4_goBack cI cZ AT AT_sl AT_fl AT_ro AT_nt AT_mk AT_mo AT_mo_c AT_sl_c AT_fl_c vT_ng vT_mo_n vT_sl_n fT_mo_c fT_sl_c vT_fl_n fT_fl_c) := hD
        obtain ⟨r_122, hc_122, hm⟩ := ob_s hm
        refine q_cv (q_rv (rest := []) ⟨hx, hb, hml, hown, hts⟩ hK hN hP hD (c_X3_write l D cI cZ H.size AT_fl AT_fl_c 3 18 vT_fl_n fT_fl_c x2 2 r_119 r_122 hc_122) mb_X3_write mv_X3_write wl_X4_62 [5, 6] rfl rfl rfl (Nat.le_of_ble_eq_true rfl) (Nat.le_of_ble_eq_true rfl) rfl hl.1 rfl (Nat.le_of_ble_eq_true rfl) ⟨Nat.le_refl 0, Nat.le_refl 0⟩ dX4_goBack_122) hP hD hS hA [5, 6] rfl rfl (fun H locs hP hD hS => ?_)
        have hP : va_P D vwCl (wd_X4_goBack cI cZ AT AT_sl AT_fl AT_ro AT_nt AT_mk AT_mo AT_mo_c AT_sl_c AT_fl_c vT_ng vT_mo_n vT_sl_n fT_mo_c fT_sl_c vT_fl_n r_122) H := hP
        have hD : va_D A (wd_X4_goBack cI cZ AT AT_sl AT_fl AT_ro AT_nt AT_mk AT_mo AT_mo_c AT_sl_c AT_fl_c vT_ng vT_mo_n vT_sl_n fT_mo_c fT_sl_c vT_fl_n r_122) := hD
        refine lv_iinc (v := (x2 + 1)) (lv' := [(2, .int (x2 + 1)), (1, .int x1), (0, .ref AT)]) hx hb dX4_goBack_125 hl (k := 0) rfl rfl (by decide) rfl (fun ls hl => ?_)
        refine lv_goto (tgt := 93) hx hb dX4_goBack_128 (by decide) ?_
        exact ih_93 (x2 + 1) x1 vT_ng vT_mo_n fT_sl_c r_122 H locs ls hm hP hD hS (lv_sub hl [0, 1, 2] rfl)
  have hL_12 : ∀ (fu_12 : Nat) (x2 : Int32) (x1 : Int32) (vT_ng : Int32) (vT_mo_n : Int32) (fT_sl_c : Nat → Int32) (fT_fl_c : Nat → Int32) (H : Heap) (locs : List Loc) (ls : Array Slot), fL_X4_goBack_12 vT_sl_n fT_mo_c vT_fl_n fu_12 x2 x1 vT_ng vT_mo_n fT_sl_c fT_fl_c = some out → va_P D vwCl (wd_X4_goBack cI cZ AT AT_sl AT_fl AT_ro AT_nt AT_mk AT_mo AT_mo_c AT_sl_c AT_fl_c vT_ng vT_mo_n vT_sl_n fT_mo_c fT_sl_c vT_fl_n fT_fl_c) H → va_D A (wd_X4_goBack cI cZ AT AT_sl AT_fl AT_ro AT_nt AT_mk AT_mo AT_mo_c AT_sl_c AT_fl_c vT_ng vT_mo_n vT_sl_n fT_mo_c fT_sl_c vT_fl_n fT_fl_c) → va_S A s.heap H locs → lv_has ls 3 [(2, .int x2), (1, .int x1), (0, .ref AT)] → W p l e { frames := 1, cells := 0, slots := 0, locals := 25 } s m ([.ref AT] : List Value).toArray below meth c H locs 0 0 (MQ below (q_Qv D (wd_X4_goBack cI cZ AT AT_sl AT_fl AT_ro AT_nt AT_mk AT_mo AT_mo_c AT_sl_c AT_fl_c out.1 out.2.1 vT_sl_n fT_mo_c out.2.2.1 vT_fl_n out.2.2.2) A) ([.ref AT] : List Value).toArray s 0 0 A) (F0 m 12 ls []) := by
    intro fu_12
    induction fu_12 with
    | zero => intro x2 x1 vT_ng vT_mo_n fT_sl_c fT_fl_c H locs ls hm hP hD hS hl; exact absurd (show (none : Option (Int32 × Int32 × (Nat → Int32) × (Nat → Int32))) = some out from hm) (fun h => nomatch h)
    | succ fu_12 ih_12 =>
      intro x2 x1 vT_ng vT_mo_n fT_sl_c fT_fl_c H locs ls hm hP hD hS hl
      rw [fL_X4_goBack_12] at hm
      refine lv_iload_n hx hb dX4_goBack_12 rfl (lv_at hl 0 rfl) ?_
      refine lv_aload_n hx hb dX4_goBack_13 rfl (lv_at hl 2 rfl) ?_
      refine gf_X4_14 (v := .ref AT_sl) hx hb hts hown hK hN hP 0 rfl rfl dX4_goBack_14 ?_
      obtain ⟨r_17, hc_17, hm⟩ := ob_s hm
      refine q_ci (q_rv (rest := [.int x2]) ⟨hx, hb, hml, hown, hts⟩ hK hN hP hD (c_X3_size l D cI cZ H.size AT_sl AT_sl_c 4 vT_sl_n r_17 hc_17) mb_X3_size mv_X3_size wl_X4_54 [2] rfl rfl rfl (Nat.le_of_ble_eq_true rfl) (Nat.le_of_ble_eq_true rfl) rfl hl.1 rfl (Nat.le_of_ble_eq_true rfl) ⟨Nat.le_refl 0, Nat.le_refl 0⟩ dX4_goBack_17) hP hD hS hA [2] rfl rfl (fun H locs hP hD hS => ?_)
      have hP : va_P D vwCl (wd_X4_goBack cI cZ AT AT_sl AT_fl AT_ro AT_nt AT_mk AT_mo AT_mo_c AT_sl_c AT_fl_c vT_ng vT_mo_n vT_sl_n fT_mo_c fT_sl_c vT_fl_n fT_fl_c) H := hP
      have hD : va_D A (wd_X4_goBack cI cZ AT AT_sl AT_fl AT_ro AT_nt AT_mk AT_mo AT_mo_c AT_sl_c AT_fl_c vT_ng vT_mo_n vT_sl_n fT_mo_c fT_sl_c vT_fl_n fT_fl_c) := hD
      refine lv_icmp_ge (tgt := 91) hx hb dX4_goBack_20 (by decide) (fun c_20 => ?_) (fun c_20 => ?_)
      · have hm := it_s c_20 hm
        refine lv_iconst (v := 0) hx hb dX4_goBack_91 (by decide) ?_
        refine lv_istore_n (lv' := [(2, .int 0), (1, .int x1), (0, .ref AT)]) hx hb dX4_goBack_92 rfl hl (by decide) rfl (fun ls hl => ?_)
        exact hL_93 FU 0 x1 vT_ng vT_mo_n fT_sl_c fT_fl_c H locs ls hm hP hD hS (lv_sub hl [0, 1, 2] rfl)
      · have hm := it_n c_20 hm
        refine lv_aload_n hx hb dX4_goBack_23 rfl (lv_at hl 2 rfl) ?_
        refine gf_X4_14 (v := .ref AT_sl) hx hb hts hown hK hN hP 0 rfl rfl dX4_goBack_24 ?_
        refine lv_iload_n hx hb dX4_goBack_27 rfl (lv_at hl 0 rfl) ?_
        refine lv_iconst (v := 1) hx hb dX4_goBack_28 (by decide) ?_
        refine lv_aload_n hx hb dX4_goBack_29 rfl (lv_at hl 2 rfl) ?_
        refine gf_X4_32 (v := .ref AT_mo) hx hb hts hown hK hN hP 0 rfl rfl dX4_goBack_30 ?_
        refine lv_iload_n hx hb dX4_goBack_33 rfl (lv_at hl 1 rfl) ?_
        refine lv_iconst (v := 0) hx hb dX4_goBack_34 (by decide) ?_
        refine lv_iload_n hx hb dX4_goBack_35 rfl (lv_at hl 0 rfl) ?_
        refine lv_iadd hx hb dX4_goBack_36 ?_
        obtain ⟨r_37, hc_37, hm⟩ := ob_s hm
        refine q_ci (q_rv (rest := [.int 1, .int x2, .ref AT_sl]) ⟨hx, hb, hml, hown, hts⟩ hK hN hP hD (c_X3_cell l D cI cZ H.size AT_mo AT_mo_c 25 200 vT_mo_n fT_mo_c x1 (0 + x2) r_37 hc_37) mb_X3_cell mv_X3_cell wl_X4_58 [1, 3] rfl rfl rfl (Nat.le_of_ble_eq_true rfl) (Nat.le_of_ble_eq_true rfl) rfl hl.1 rfl (Nat.le_of_ble_eq_true rfl) ⟨Nat.le_refl 0, Nat.le_refl 0⟩ dX4_goBack_37) hP hD hS hA [1, 3] rfl rfl (fun H locs hP hD hS => ?_)
        have hP : va_P D vwCl (wd_X4_goBack cI cZ AT AT_sl AT_fl AT_ro AT_nt AT_mk AT_mo AT_mo_c AT_sl_c AT_fl_c vT_ng vT_mo_n vT_sl_n fT_mo_c fT_sl_c vT_fl_n fT_fl_c) H := hP
        have hD : va_D A (wd_X4_goBack cI cZ AT AT_sl AT_fl AT_ro AT_nt AT_mk AT_mo AT_mo_c AT_sl_c AT_fl_c vT_ng vT_mo_n vT_sl_n fT_mo_c fT_sl_c vT_fl_n fT_fl_c) := hD
        obtain ⟨r_40, hc_40, hm⟩ := ob_s hm
        refine q_cv (q_rv (rest := []) ⟨hx, hb, hml, hown, hts⟩ hK hN hP hD (c_X3_write l D cI cZ H.size AT_sl AT_sl_c 4 24 vT_sl_n fT_sl_c x2 1 r_37 r_40 hc_40) mb_X3_write mv_X3_write wl_X4_62 [2, 4] rfl rfl rfl (Nat.le_of_ble_eq_true rfl) (Nat.le_of_ble_eq_true rfl) rfl hl.1 rfl (Nat.le_of_ble_eq_true rfl) ⟨Nat.le_refl 0, Nat.le_refl 0⟩ dX4_goBack_40) hP hD hS hA [2, 4] rfl rfl (fun H locs hP hD hS => ?_)
        have hP : va_P D vwCl (wd_X4_goBack cI cZ AT AT_sl AT_fl AT_ro AT_nt AT_mk AT_mo AT_mo_c AT_sl_c AT_fl_c vT_ng vT_mo_n vT_sl_n fT_mo_c r_40 vT_fl_n fT_fl_c) H := hP
        have hD : va_D A (wd_X4_goBack cI cZ AT AT_sl AT_fl AT_ro AT_nt AT_mk AT_mo AT_mo_c AT_sl_c AT_fl_c vT_ng vT_mo_n vT_sl_n fT_mo_c r_40 vT_fl_n fT_fl_c) := hD
        refine lv_aload_n hx hb dX4_goBack_43 rfl (lv_at hl 2 rfl) ?_
        refine gf_X4_14 (v := .ref AT_sl) hx hb hts hown hK hN hP 0 rfl rfl dX4_goBack_44 ?_
        refine lv_iload_n hx hb dX4_goBack_47 rfl (lv_at hl 0 rfl) ?_
        refine lv_iconst (v := 2) hx hb dX4_goBack_48 (by decide) ?_
        refine lv_aload_n hx hb dX4_goBack_49 rfl (lv_at hl 2 rfl) ?_
        refine gf_X4_32 (v := .ref AT_mo) hx hb hts hown hK hN hP 0 rfl rfl dX4_goBack_50 ?_
        refine lv_iload_n hx hb dX4_goBack_53 rfl (lv_at hl 1 rfl) ?_
        refine lv_bipush (v := 6) hx hb dX4_goBack_54 (by decide) ?_
        refine lv_iload_n hx hb dX4_goBack_56 rfl (lv_at hl 0 rfl) ?_
        refine lv_iadd hx hb dX4_goBack_57 ?_
        obtain ⟨r_58, hc_58, hm⟩ := ob_s hm
        refine q_ci (q_rv (rest := [.int 2, .int x2, .ref AT_sl]) ⟨hx, hb, hml, hown, hts⟩ hK hN hP hD (c_X3_cell l D cI cZ H.size AT_mo AT_mo_c 25 200 vT_mo_n fT_mo_c x1 (6 + x2) r_58 hc_58) mb_X3_cell mv_X3_cell wl_X4_58 [1, 3] rfl rfl rfl (Nat.le_of_ble_eq_true rfl) (Nat.le_of_ble_eq_true rfl) rfl hl.1 rfl (Nat.le_of_ble_eq_true rfl) ⟨Nat.le_refl 0, Nat.le_refl 0⟩ dX4_goBack_58) hP hD hS hA [1, 3] rfl rfl (fun H locs hP hD hS => ?_)
        have hP : va_P D vwCl (wd_X4_goBack cI cZ AT AT_sl AT_fl AT_ro AT_nt AT_mk AT_mo AT_mo_c AT_sl_c AT_fl_c vT_ng vT_mo_n vT_sl_n fT_mo_c r_40 vT_fl_n fT_fl_c) H := hP
        have hD : va_D A (wd_X4_goBack cI cZ AT AT_sl AT_fl AT_ro AT_nt AT_mk AT_mo AT_mo_c AT_sl_c AT_fl_c vT_ng vT_mo_n vT_sl_n fT_mo_c r_40 vT_fl_n fT_fl_c) := hD
        obtain ⟨r_61, hc_61, hm⟩ := ob_s hm
        refine q_cv (q_rv (rest := []) ⟨hx, hb, hml, hown, hts⟩ hK hN hP hD (c_X3_write l D cI cZ H.size AT_sl AT_sl_c 4 24 vT_sl_n r_40 x2 2 r_58 r_61 hc_61) mb_X3_write mv_X3_write wl_X4_62 [2, 4] rfl rfl rfl (Nat.le_of_ble_eq_true rfl) (Nat.le_of_ble_eq_true rfl) rfl hl.1 rfl (Nat.le_of_ble_eq_true rfl) ⟨Nat.le_refl 0, Nat.le_refl 0⟩ dX4_goBack_61) hP hD hS hA [2, 4] rfl rfl (fun H locs hP hD hS => ?_)
        have hP : va_P D vwCl (wd_X4_goBack cI cZ AT AT_sl AT_fl AT_ro AT_nt AT_mk AT_mo AT_mo_c AT_sl_c AT_fl_c vT_ng vT_mo_n vT_sl_n fT_mo_c r_61 vT_fl_n fT_fl_c) H := hP
        have hD : va_D A (wd_X4_goBack cI cZ AT AT_sl AT_fl AT_ro AT_nt AT_mk AT_mo AT_mo_c AT_sl_c AT_fl_c vT_ng vT_mo_n vT_sl_n fT_mo_c r_61 vT_fl_n fT_fl_c) := hD
        refine lv_aload_n hx hb dX4_goBack_64 rfl (lv_at hl 2 rfl) ?_
        refine gf_X4_14 (v := .ref AT_sl) hx hb hts hown hK hN hP 0 rfl rfl dX4_goBack_65 ?_
        refine lv_iload_n hx hb dX4_goBack_68 rfl (lv_at hl 0 rfl) ?_
        refine lv_iconst (v := 3) hx hb dX4_goBack_69 (by decide) ?_
        refine lv_aload_n hx hb dX4_goBack_70 rfl (lv_at hl 2 rfl) ?_
        refine gf_X4_32 (v := .ref AT_mo) hx hb hts hown hK hN hP 0 rfl rfl dX4_goBack_71 ?_
        refine lv_iload_n hx hb dX4_goBack_74 rfl (lv_at hl 1 rfl) ?_
        refine lv_bipush (v := 12) hx hb dX4_goBack_75 (by decide) ?_
        refine lv_iload_n hx hb dX4_goBack_77 rfl (lv_at hl 0 rfl) ?_
        refine lv_iadd hx hb dX4_goBack_78 ?_
        obtain ⟨r_79, hc_79, hm⟩ := ob_s hm
        refine q_ci (q_rv (rest := [.int 3, .int x2, .ref AT_sl]) ⟨hx, hb, hml, hown, hts⟩ hK hN hP hD (c_X3_cell l D cI cZ H.size AT_mo AT_mo_c 25 200 vT_mo_n fT_mo_c x1 (12 + x2) r_79 hc_79) mb_X3_cell mv_X3_cell wl_X4_58 [1, 3] rfl rfl rfl (Nat.le_of_ble_eq_true rfl) (Nat.le_of_ble_eq_true rfl) rfl hl.1 rfl (Nat.le_of_ble_eq_true rfl) ⟨Nat.le_refl 0, Nat.le_refl 0⟩ dX4_goBack_79) hP hD hS hA [1, 3] rfl rfl (fun H locs hP hD hS => ?_)
        have hP : va_P D vwCl (wd_X4_goBack cI cZ AT AT_sl AT_fl AT_ro AT_nt AT_mk AT_mo AT_mo_c AT_sl_c AT_fl_c vT_ng vT_mo_n vT_sl_n fT_mo_c r_61 vT_fl_n fT_fl_c) H := hP
        have hD : va_D A (wd_X4_goBack cI cZ AT AT_sl AT_fl AT_ro AT_nt AT_mk AT_mo AT_mo_c AT_sl_c AT_fl_c vT_ng vT_mo_n vT_sl_n fT_mo_c r_61 vT_fl_n fT_fl_c) := hD
        obtain ⟨r_82, hc_82, hm⟩ := ob_s hm
        refine q_cv (q_rv (rest := []) ⟨hx, hb, hml, hown, hts⟩ hK hN hP hD (c_X3_write l D cI cZ H.size AT_sl AT_sl_c 4 24 vT_sl_n r_61 x2 3 r_79 r_82 hc_82) mb_X3_write mv_X3_write wl_X4_62 [2, 4] rfl rfl rfl (Nat.le_of_ble_eq_true rfl) (Nat.le_of_ble_eq_true rfl) rfl hl.1 rfl (Nat.le_of_ble_eq_true rfl) ⟨Nat.le_refl 0, Nat.le_refl 0⟩ dX4_goBack_82) hP hD hS hA [2, 4] rfl rfl (fun H locs hP hD hS => ?_)
        have hP : va_P D vwCl (wd_X4_goBack cI cZ AT AT_sl AT_fl AT_ro AT_nt AT_mk AT_mo AT_mo_c AT_sl_c AT_fl_c vT_ng vT_mo_n vT_sl_n fT_mo_c r_82 vT_fl_n fT_fl_c) H := hP
        have hD : va_D A (wd_X4_goBack cI cZ AT AT_sl AT_fl AT_ro AT_nt AT_mk AT_mo AT_mo_c AT_sl_c AT_fl_c vT_ng vT_mo_n vT_sl_n fT_mo_c r_82 vT_fl_n fT_fl_c) := hD
        refine lv_iinc (v := (x2 + 1)) (lv' := [(2, .int (x2 + 1)), (1, .int x1), (0, .ref AT)]) hx hb dX4_goBack_85 hl (k := 0) rfl rfl (by decide) rfl (fun ls hl => ?_)
        refine lv_goto (tgt := 12) hx hb dX4_goBack_88 (by decide) ?_
        exact ih_12 (x2 + 1) x1 vT_ng vT_mo_n r_82 fT_fl_c H locs ls hm hP hD hS (lv_sub hl [0, 1, 2] rfl)
  unfold fm_X4_goBack at hm
  refine q_gen hS hP ?_
  intro H locs hP hS
  refine lv_aload_n hx hb dX4_goBack_0 rfl (lv_at hl 0 rfl) ?_
  refine gf_X4_32 (v := .ref AT_mo) hx hb hts hown hK hN hP 0 rfl rfl dX4_goBack_1 ?_
  obtain ⟨r_4, hc_4, hm⟩ := ob_s hm
  refine q_ci (q_rv (rest := []) ⟨hx, hb, hml, hown, hts⟩ hK hN hP hD (c_X3_size l D cI cZ H.size AT_mo AT_mo_c 25 vT_mo_n r_4 hc_4) mb_X3_size mv_X3_size wl_X4_54 [1] rfl rfl rfl (Nat.le_of_ble_eq_true rfl) (Nat.le_of_ble_eq_true rfl) rfl hl.1 rfl (Nat.le_of_ble_eq_true rfl) ⟨Nat.le_refl 0, Nat.le_refl 0⟩ dX4_goBack_4) hP hD hS hA [1] rfl rfl (fun H locs hP hD hS => ?_)
  have hP : va_P D vwCl (wd_X4_goBack cI cZ AT AT_sl AT_fl AT_ro AT_nt AT_mk AT_mo AT_mo_c AT_sl_c AT_fl_c vT_ng vT_mo_n vT_sl_n fT_mo_c fT_sl_c vT_fl_n fT_fl_c) H := hP
  have hD : va_D A (wd_X4_goBack cI cZ AT AT_sl AT_fl AT_ro AT_nt AT_mk AT_mo AT_mo_c AT_sl_c AT_fl_c vT_ng vT_mo_n vT_sl_n fT_mo_c fT_sl_c vT_fl_n fT_fl_c) := hD
  refine lv_iconst (v := 1) hx hb dX4_goBack_7 (by decide) ?_
  refine lv_isub hx hb dX4_goBack_8 ?_
  refine lv_istore_n (lv' := [(1, .int (r_4 - 1)), (0, .ref AT)]) hx hb dX4_goBack_9 rfl hl (by decide) rfl (fun ls hl => ?_)
  refine lv_iconst (v := 0) hx hb dX4_goBack_10 (by decide) ?_
  refine lv_istore_n (lv' := [(2, .int 0), (1, .int (r_4 - 1)), (0, .ref AT)]) hx hb dX4_goBack_11 rfl hl (by decide) rfl (fun ls hl => ?_)
  exact hL_12 FU 0 (r_4 - 1) vT_ng vT_mo_n fT_sl_c fT_fl_c H locs ls hm hP hD hS (lv_sub hl [0, 1, 2] rfl)
