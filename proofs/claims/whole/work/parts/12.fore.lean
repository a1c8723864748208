theorem gf_X1_9 {p : Program} {l : Launch} {e : Env} {R : Room} {s : State} {m : MethodId} {args : Array Value} {below : List Frame} {meth : Method} {c : Code} {H : Heap} {locs : List Loc} {cells slots : Nat} {Q : State → Prop} {pc : Nat} {ls : Array Slot} {cc : ByteArray} {D : va_G} {cI cZ : ClassId} {ws : va_W} {a : Nat} {rest fs : List Value} (hx : p.tables.exec = Jvm.exec) (hb : c.code = cc) (hts : ∀ w ∈ bg, w.before args s = true) (hown : s.vm.findClass RX1 = some m.cls) (hK : va_K D vwCl (q_tys cI cZ) s) (hN : q_N s) (hP : va_P D vwCl ws H) (q0 : Nat) (he : ws[q0]? = some (a, .inr (1, fs))) {v : Value} (hv : fs[0]? = some v) (hdg : decode cc pc = .ok (.getfield 9, 3)) (kk : W p l e R s m args below meth c H locs cells slots Q (F0 m (pc + 3) ls (v :: rest))) : W p l e R s m args below meth c H locs cells slots Q (F0 m pc ls (.ref a :: rest)) :=
  va_get (C := RX1) (T := TX1) (N := 6) hx hb hts wu_X1 hown hK hP q0 he rfl 0 (by decide) (hts _ wf_X1_9) (fun _ h9 => h9) hv hdg kk
theorem gf_X1_34 {p : Program} {l : Launch} {e : Env} {R : Room} {s : State} {m : MethodId} {args : Array Value} {below : List Frame} {meth : Method} {c : Code} {H : Heap} {locs : List Loc} {cells slots : Nat} {Q : State → Prop} {pc : Nat} {ls : Array Slot} {cc : ByteArray} {D : va_G} {cI cZ : ClassId} {ws : va_W} {a : Nat} {rest fs : List Value} (hx : p.tables.exec = Jvm.exec) (hb : c.code = cc) (hts : ∀ w ∈ bg, w.before args s = true) (hown : s.vm.findClass RX1 = some m.cls) (hK : va_K D vwCl (q_tys cI cZ) s) (hN : q_N s) (hP : va_P D vwCl ws H) (q0 : Nat) (he : ws[q0]? = some (a, .inr (4, fs))) {v : Value} (hv : fs[0]? = some v) (hdg : decode cc pc = .ok (.getfield 34, 3)) (kk : W p l e R s m args below meth c H locs cells slots Q (F0 m (pc + 3) ls (v :: rest))) : W p l e R s m args below meth c H locs cells slots Q (F0 m pc ls (.ref a :: rest)) :=
  va_getN (C := RX4) (T := TX4) (N := 7) hx hb hts wu_X4 hown hK hP q0 he rfl 0 (by decide) ((ng_X1_34 hN).use rfl) (fun _ h9 => h9) hv hdg kk
theorem mb_X1_pillowOf : q_mb yX1_pillowOf cX1_pillowOf 2 (some .int) 1 := ⟨wc_X1_pillowOf, wn_X1, by decide, by decide, by decide +kernel⟩
theorem mv_X1_pillowOf : q_mv yX1_pillowOf 1 := ⟨wi_X1_pillowOf, ws_X1_pillowOf, _, rfl, rfl⟩
def wd_X1_pillowOf (cI cZ : ClassId) (AT AT_of AT_tr AT_ga AT_bb AT_fg AT_sg AT_of_sl AT_of_fl AT_of_ro AT_of_nt AT_of_mk AT_of_mo AT_of_sl_c : Nat) (vT_of_ng : Int32) (vT_of_sl_n : Int32) (fT_of_sl_c : Nat → Int32) : va_W := [(AT, .inr (1, [.ref AT_of, .ref AT_tr, .ref AT_ga, .ref AT_bb, .ref AT_fg, .ref AT_sg])), (AT_of, .inr (4, [.ref AT_of_sl, .ref AT_of_fl, .ref AT_of_ro, .ref AT_of_nt, .ref AT_of_mk, .ref AT_of_mo, .int vT_of_ng])), (AT_of_sl, .inr (3, [.int 4, .ref AT_of_sl_c, .int vT_of_sl_n])), (AT_of_sl_c, .inl (cI, 24, .inl fT_of_sl_c))]
def fm_X1_pillowOf (p1 : Int32) (vT_of_sl_n : Int32) (fT_of_sl_c : Nat → Int32) : Option (Int32) := Option.bind (fm_X3_cell 4 24 p1 1 vT_of_sl_n fT_of_sl_c) (fun r_9 => some (r_9))
set_option maxHeartbeats 4000000 in
set_option maxRecDepth 100000 in
theorem c_X1_pillowOf (l : Launch) (D : va_G) (cI cZ : ClassId) (sz : Nat) (AT AT_of AT_tr AT_ga AT_bb AT_fg AT_sg AT_of_sl AT_of_fl AT_of_ro AT_of_nt AT_of_mk AT_of_mo AT_of_sl_c : Nat) (vT_of_ng : Int32) (vT_of_sl_n : Int32) (fT_of_sl_c : Nat → Int32) (p1 : Int32) (out : (Int32)) (hm : fm_X1_pillowOf p1 vT_of_sl_n fT_of_sl_c = some out) : Met l yX1_pillowOf (Cond.code yX1_pillowOf cX1_pillowOf 2 (some .int) :: bg) { frames := 1, cells := 0, slots := 0, locals := 24 } (va_Pc [.ref AT, .int p1] (q_pre D cI cZ sz (wd_X1_pillowOf cI cZ AT AT_of AT_tr AT_ga AT_bb AT_fg AT_sg AT_of_sl AT_of_fl AT_of_ro AT_of_nt AT_of_mk AT_of_mo AT_of_sl_c vT_of_ng vT_of_sl_n fT_of_sl_c))) (q_Qi D (wd_X1_pillowOf cI cZ AT AT_of AT_tr AT_ga AT_bb AT_fg AT_sg AT_of_sl AT_of_fl AT_of_ro AT_of_nt AT_of_mk AT_of_mo AT_of_sl_c vT_of_ng vT_of_sl_n fT_of_sl_c) out (va_A (wd_X1_pillowOf cI cZ AT AT_of AT_tr AT_ga AT_bb AT_fg AT_sg AT_of_sl AT_of_fl AT_of_ro AT_of_nt AT_of_mk AT_of_mo AT_of_sl_c vT_of_ng vT_of_sl_n fT_of_sl_c) sz)) 0 0 (va_A (wd_X1_pillowOf cI cZ AT AT_of AT_tr AT_ga AT_bb AT_fg AT_sg AT_of_sl AT_of_fl AT_of_ro AT_of_nt AT_of_mk AT_of_mo AT_of_sl_c vT_of_ng vT_of_sl_n fT_of_sl_c) sz) := by
  refine q_met (fun A => q_Qi D (wd_X1_pillowOf cI cZ AT AT_of AT_tr AT_ga AT_bb AT_fg AT_sg AT_of_sl AT_of_fl AT_of_ro AT_of_nt AT_of_mk AT_of_mo AT_of_sl_c vT_of_ng vT_of_sl_n fT_of_sl_c) out A) (by decide) (Nat.le_of_ble_eq_true rfl) ?_
  intro p e s m below meth c ls A hx hb hr hml hown hts hlocks _ hA hS hP hD hK hN hl
  have hown : s.vm.findClass RX1 = some m.cls := hown
  have hl : lv_has ls 2 [(0, .ref AT), (1, .int p1)] := hl
  unfold fm_X1_pillowOf at hm
  refine q_gen hS hP ?_
  intro H locs hP hS
  refine lv_aload_n hx hb dX1_pillowOf_0 rfl (lv_at hl 0 rfl) ?_
  refine gf_X1_9 (v := .ref AT_of) hx hb hts hown hK hN hP 0 rfl rfl dX1_pillowOf_1 ?_
  refine gf_X1_34 (v := .ref AT_of_sl) hx hb hts hown hK hN hP 1 rfl rfl dX1_pillowOf_4 ?_
  refine lv_iload_n hx hb dX1_pillowOf_7 rfl (lv_at hl 1 rfl) ?_
  refine lv_iconst (v := 1) hx hb dX1_pillowOf_8 (by decide) ?_
  obtain ⟨r_9, hc_9, hm⟩ := ob_s hm
  refine q_ci (q_rv (rest := []) ⟨hx, hb, hml, hown, hts⟩ hK hN hP hD (c_X3_cell l D cI cZ H.size AT_of_sl AT_of_sl_c 4 24 vT_of_sl_n fT_of_sl_c p1 1 r_9 hc_9) mb_X3_cell mv_X3_cell wl_X1_38 [2, 3] rfl rfl rfl (Nat.le_of_ble_eq_true rfl) (Nat.le_of_ble_eq_true rfl) rfl hl.1 rfl (Nat.le_of_ble_eq_true rfl) ⟨Nat.le_refl 0, Nat.le_refl 0⟩ dX1_pillowOf_9) hP hD hS hA [2, 3] rfl rfl (fun H locs hP hD hS => ?_)
  have hP : va_P D vwCl (wd_X1_pillowOf cI cZ AT AT_of AT_tr AT_ga AT_bb AT_fg AT_sg AT_of_sl AT_of_fl AT_of_ro AT_of_nt AT_of_mk AT_of_mo AT_of_sl_c vT_of_ng vT_of_sl_n fT_of_sl_c) H := hP
  have hD : va_D A (wd_X1_pillowOf cI cZ AT AT_of AT_tr AT_ga AT_bb AT_fg AT_sg AT_of_sl AT_of_fl AT_of_ro AT_of_nt AT_of_mk AT_of_mo AT_of_sl_c vT_of_ng vT_of_sl_n fT_of_sl_c) := hD
  have hm := Option.some.inj hm
  subst hm
  exact q_iret (v := r_9) hx hb hr hlocks hP hS dX1_pillowOf_12
theorem gf_X1_48 {p : Program} {l : Launch} {e : Env} {R : Room} {s : State} {m : MethodId} {args : Array Value} {below : List Frame} {meth : Method} {c : Code} {H : Heap} {locs : List Loc} {cells slots : Nat} {Q : State → Prop} {pc : Nat} {ls : Array Slot} {cc : ByteArray} {D : va_G} {cI cZ : ClassId} {ws : va_W} {a : Nat} {rest fs : List Value} (hx : p.tables.exec = Jvm.exec) (hb : c.code = cc) (hts : ∀ w ∈ bg, w.before args s = true) (hown : s.vm.findClass RX1 = some m.cls) (hK : va_K D vwCl (q_tys cI cZ) s) (hN : q_N s) (hP : va_P D vwCl ws H) (q0 : Nat) (he : ws[q0]? = some (a, .inr (4, fs))) {v : Value} (hv : fs[6]? = some v) (hdg : decode cc pc = .ok (.getfield 48, 3)) (kk : W p l e R s m args below meth c H locs cells slots Q (F0 m (pc + 3) ls (v :: rest))) : W p l e R s m args below meth c H locs cells slots Q (F0 m pc ls (.ref a :: rest)) :=
  va_getN (C := RX4) (T := TX4) (N := 7) hx hb hts wu_X4 hown hK hP q0 he rfl 6 (by decide) ((ng_X1_48 hN).use rfl) (fun _ h9 => h9) hv hdg kk
theorem mb_X1_believedTonight : q_mb yX1_believedTonight cX1_believedTonight 2 (some .int) 1 := ⟨wc_X1_believedTonight, wn_X1, by decide, by decide, by decide +kernel⟩
theorem mv_X1_believedTonight : q_mv yX1_believedTonight 1 := ⟨wi_X1_believedTonight, ws_X1_believedTonight, _, rfl, rfl⟩
def wd_X1_believedTonight (cI cZ : ClassId) (AT AT_of AT_tr AT_ga AT_bb AT_fg AT_sg AT_of_sl AT_of_fl AT_of_ro AT_of_nt AT_of_mk AT_of_mo AT_of_sl_c AT_of_fl_c : Nat) (vT_of_ng : Int32) (vT_of_sl_n : Int32) (fT_of_sl_c : Nat → Int32) (vT_of_fl_n : Int32) (fT_of_fl_c : Nat → Int32) : va_W := [(AT, .inr (1, [.ref AT_of, .ref AT_tr, .ref AT_ga, .ref AT_bb, .ref AT_fg, .ref AT_sg])), (AT_of, .inr (4, [.ref AT_of_sl, .ref AT_of_fl, .ref AT_of_ro, .ref AT_of_nt, .ref AT_of_mk, .ref AT_of_mo, .int vT_of_ng])), (AT_of_sl, .inr (3, [.int 4, .ref AT_of_sl_c, .int vT_of_sl_n])), (AT_of_sl_c, .inl (cI, 24, .inl fT_of_sl_c)), (AT_of_fl, .inr (3, [.int 3, .ref AT_of_fl_c, .int vT_of_fl_n])), (AT_of_fl_c, .inl (cI, 18, .inl fT_of_fl_c))]
def fm_X1_believedTonight (p1 : Int32) (vT_of_ng : Int32) (vT_of_sl_n : Int32) (fT_of_sl_c : Nat → Int32) (vT_of_fl_n : Int32) (fT_of_fl_c : Nat → Int32) : Option (Int32) := Option.bind (fm_X1_pillowOf p1 vT_of_sl_n fT_of_sl_c) (fun r_6 => Option.bind (fm_X4_believedOn r_6 p1 (-1) vT_of_ng vT_of_sl_n fT_of_sl_c vT_of_fl_n fT_of_fl_c) (fun r_18 => some (r_18)))
set_option maxHeartbeats 4000000 in
set_option maxRecDepth 100000 in
theorem c_X1_believedTonight (l : Launch) (D : va_G) (cI cZ : ClassId) (sz : Nat) (AT AT_of AT_tr AT_ga AT_bb AT_fg AT_sg AT_of_sl AT_of_fl AT_of_ro AT_of_nt AT_of_mk AT_of_mo AT_of_sl_c AT_of_fl_c : Nat) (vT_of_ng : Int32) (vT_of_sl_n : Int32) (fT_of_sl_c : Nat → Int32) (vT_of_fl_n : Int32) (fT_of_fl_c : Nat → Int32) (p1 : Int32) (out : (Int32)) (hm : fm_X1_believedTonight p1 vT_of_ng vT_of_sl_n fT_of_sl_c vT_of_fl_n fT_of_fl_c = some out) : Met l yX1_believedTonight (Cond.code yX1_believedTonight cX1_believedTonight 2 (some .int) :: bg) { frames := 3, cells := 0, slots := 0, locals := 75 } (va_Pc [.ref AT, .int p1] (q_pre D cI cZ sz (wd_X1_believedTonight cI cZ AT AT_of AT_tr AT_ga AT_bb AT_fg AT_sg AT_of_sl AT_of_fl AT_of_ro AT_of_nt AT_of_mk AT_of_mo AT_of_sl_c AT_of_fl_c vT_of_ng vT_of_sl_n fT_of_sl_c vT_of_fl_n fT_of_fl_c))) (q_Qi D (wd_X1_believedTonight cI cZ AT AT_of AT_tr AT_ga AT_bb AT_fg AT_sg AT_of_sl AT_of_fl AT_of_ro AT_of_nt AT_of_mk AT_of_mo AT_of_sl_c AT_of_fl_c vT_of_ng vT_of_sl_n fT_of_sl_c vT_of_fl_n fT_of_fl_c) out (va_A (wd_X1_believedTonight cI cZ AT AT_of AT_tr AT_ga AT_bb AT_fg AT_sg AT_of_sl AT_of_fl AT_of_ro AT_of_nt AT_of_mk AT_of_mo AT_of_sl_c AT_of_fl_c vT_of_ng vT_of_sl_n fT_of_sl_c vT_of_fl_n fT_of_fl_c) sz)) 0 0 (va_A (wd_X1_believedTonight cI cZ AT AT_of AT_tr AT_ga AT_bb AT_fg AT_sg AT_of_sl AT_of_fl AT_of_ro AT_of_nt AT_of_mk AT_of_mo AT_of_sl_c AT_of_fl_c vT_of_ng vT_of_sl_n fT_of_sl_c vT_of_fl_n fT_of_fl_c) sz) := by
  refine q_met (fun A => q_Qi D (wd_X1_believedTonight cI cZ AT AT_of AT_tr AT_ga AT_bb AT_fg AT_sg AT_of_sl AT_of_fl AT_of_ro AT_of_nt AT_of_mk AT_of_mo AT_of_sl_c AT_of_fl_c vT_of_ng vT_of_sl_n fT_of_sl_c vT_of_fl_n fT_of_fl_c) out A) (by decide) (Nat.le_of_ble_eq_true rfl) ?_
  intro p e s m below meth c ls A hx hb hr hml hown hts hlocks _ hA hS hP hD hK hN hl
  have hown : s.vm.findClass RX1 = some m.cls := hown
  have hl : lv_has ls 2 [(0, .ref AT), (1, .int p1)] := hl
  unfold fm_X1_believedTonight at hm
  refine q_gen hS hP ?_
  intro H locs hP hS
  refine lv_aload_n hx hb dX1_believedTonight_0 rfl (lv_at hl 0 rfl) ?_
  refine gf_X1_9 (v := .ref AT_of) hx hb hts hown hK hN hP 0 rfl rfl dX1_believedTonight_1 ?_
  refine lv_aload_n hx hb dX1_believedTonight_4 rfl (lv_at hl 0 rfl) ?_
  refine lv_iload_n hx hb dX1_believedTonight_5 rfl (lv_at hl 1 rfl) ?_
  obtain ⟨r_6, hc_6, hm⟩ := ob_s hm
  refine q_ci (q_rv (rest := [.ref AT_of]) ⟨hx, hb, hml, hown, hts⟩ hK hN hP hD (c_X1_pillowOf l D cI cZ H.size AT AT_of AT_tr AT_ga AT_bb AT_fg AT_sg AT_of_sl AT_of_fl AT_of_ro AT_of_nt AT_of_mk AT_of_mo AT_of_sl_c vT_of_ng vT_of_sl_n fT_of_sl_c p1 r_6 hc_6) mb_X1_pillowOf mv_X1_pillowOf wl_X1_44 [0, 1, 2, 3] rfl rfl rfl (Nat.le_of_ble_eq_true rfl) (Nat.le_of_ble_eq_true rfl) rfl hl.1 rfl (Nat.le_of_ble_eq_true rfl) ⟨Nat.le_refl 0, Nat.le_refl 0⟩ dX1_believedTonight_6) hP hD hS hA [0, 1, 2, 3] rfl rfl (fun H locs hP hD hS => ?_)
  have hP : va_P D vwCl (wd_X1_believedTonight cI cZ AT AT_of AT_tr AT_ga AT_bb AT_fg AT_sg AT_of_sl AT_of_fl AT_of_ro AT_of_nt AT_of_mk AT_of_mo AT_of_sl_c AT_of_fl_c vT_of_ng vT_of_sl_n fT_of_sl_c vT_of_fl_n fT_of_fl_c) H := hP
  have hD : va_D A (wd_X1_believedTonight cI cZ AT AT_of AT_tr AT_ga AT_bb AT_fg AT_sg AT_of_sl AT_of_fl AT_of_ro AT_of_nt AT_of_mk AT_of_mo AT_of_sl_c AT_of_fl_c vT_of_ng vT_of_sl_n fT_of_sl_c vT_of_fl_n fT_of_fl_c) := hD
  refine lv_iload_n hx hb dX1_believedTonight_9 rfl (lv_at hl 1 rfl) ?_
  refine lv_iconst (v := (-1)) hx hb dX1_believedTonight_10 (by decide) ?_
  refine lv_aload_n hx hb dX1_believedTonight_11 rfl (lv_at hl 0 rfl) ?_
  refine gf_X1_9 (v := .ref AT_of) hx hb hts hown hK hN hP 0 rfl rfl dX1_believedTonight_12 ?_
  refine gf_X1_48 (v := .int vT_of_ng) hx hb hts hown hK hN hP 1 rfl rfl dX1_believedTonight_15 ?_
  obtain ⟨r_18, hc_18, hm⟩ := ob_s hm
  refine q_ci (q_rv (rest := []) ⟨hx, hb, hml, hown, hts⟩ hK hN hP hD (c_X4_believedOn l D cI cZ H.size AT_of AT_of_sl AT_of_fl AT_of_ro AT_of_nt AT_of_mk AT_of_mo AT_of_sl_c AT_of_fl_c vT_of_ng vT_of_sl_n fT_of_sl_c vT_of_fl_n fT_of_fl_c r_6 p1 (-1) vT_of_ng r_18 hc_18) mb_X4_believedOn mv_X4_believedOn wl_X1_52 [1, 2, 3, 4, 5] rfl rfl rfl (Nat.le_of_ble_eq_true rfl) (Nat.le_of_ble_eq_true rfl) rfl hl.1 rfl (Nat.le_of_ble_eq_true rfl) ⟨Nat.le_refl 0, Nat.le_refl 0⟩ dX1_believedTonight_18) hP hD hS hA [1, 2, 3, 4, 5] rfl rfl (fun H locs hP hD hS => ?_)
  have hP : va_P D vwCl (wd_X1_believedTonight cI cZ AT AT_of AT_tr AT_ga AT_bb AT_fg AT_sg AT_of_sl AT_of_fl AT_of_ro AT_of_nt AT_of_mk AT_of_mo AT_of_sl_c AT_of_fl_c vT_of_ng vT_of_sl_n fT_of_sl_c vT_of_fl_n fT_of_fl_c) H := hP
  have hD : va_D A (wd_X1_believedTonight cI cZ AT AT_of AT_tr AT_ga AT_bb AT_fg AT_sg AT_of_sl AT_of_fl AT_of_ro AT_of_nt AT_of_mk AT_of_mo AT_of_sl_c AT_of_fl_c vT_of_ng vT_of_sl_n fT_of_sl_c vT_of_fl_n fT_of_fl_c) := hD
  have hm := Option.some.inj hm
  subst hm
  exact q_iret (v := r_18) hx hb hr hlocks hP hS dX1_believedTonight_21
theorem mb_X1_mindBehind : q_mb yX1_mindBehind cX1_mindBehind 5 (some .int) 2 := ⟨wc_X1_mindBehind, wn_X1, by decide, by decide, by decide +kernel⟩
theorem mv_X1_mindBehind : q_mv yX1_mindBehind 1 := ⟨wi_X1_mindBehind, ws_X1_mindBehind, _, rfl, rfl⟩
def wd_X1_mindBehind (cI cZ : ClassId) (AT AT_of AT_tr AT_ga AT_bb AT_fg AT_sg AT_of_sl AT_of_fl AT_of_ro AT_of_nt AT_of_mk AT_of_mo AT_of_sl_c AT_of_fl_c : Nat) (vT_of_ng : Int32) (vT_of_sl_n : Int32) (fT_of_sl_c : Nat → Int32) (vT_of_fl_n : Int32) (fT_of_fl_c : Nat → Int32) : va_W := [(AT, .inr (1, [.ref AT_of, .ref AT_tr, .ref AT_ga, .ref AT_bb, .ref AT_fg, .ref AT_sg])), (AT_of, .inr (4, [.ref AT_of_sl, .ref AT_of_fl, .ref AT_of_ro, .ref AT_of_nt, .ref AT_of_mk, .ref AT_of_mo, .int vT_of_ng])), (AT_of_sl, .inr (3, [.int 4, .ref AT_of_sl_c, .int vT_of_sl_n])), (AT_of_sl_c, .inl (cI, 24, .inl fT_of_sl_c)), (AT_of_fl, .inr (3, [.int 3, .ref AT_of_fl_c, .int vT_of_fl_n])), (AT_of_fl_c, .inl (cI, 18, .inl fT_of_fl_c))]
def fL_X1_mindBehind_16 (p1 : Int32) (p2 : Int32) (vT_of_ng : Int32) (vT_of_sl_n : Int32) (fT_of_sl_c : Nat → Int32) (vT_of_fl_n : Int32) (fT_of_fl_c : Nat → Int32) : Nat → Int32 → Int32 → Option (Int32)
  | 0, _, _ => none
  | fu + 1, x4, x3 => if p2 ≤ x4 then (some ((if x3 < 999 then x3 else 999))) else (Option.bind (fm_X1_pillowOf p1 vT_of_sl_n fT_of_sl_c) (fun r_29 => Option.bind (fm_X4_believedOn r_29 p1 (-1) (vT_of_ng + x4) vT_of_sl_n fT_of_sl_c vT_of_fl_n fT_of_fl_c) (fun r_44 => fL_X1_mindBehind_16 p1 p2 vT_of_ng vT_of_sl_n fT_of_sl_c vT_of_fl_n fT_of_fl_c fu (x4 + 1) (x3 + r_44))))
def fm_X1_mindBehind (p1 : Int32) (p2 : Int32) (vT_of_ng : Int32) (vT_of_sl_n : Int32) (fT_of_sl_c : Nat → Int32) (vT_of_fl_n : Int32) (fT_of_fl_c : Nat → Int32) : Option (Int32) := Option.bind (fm_X3_cell 4 24 p1 3 vT_of_sl_n fT_of_sl_c) (fun r_9 => fL_X1_mindBehind_16 p1 p2 vT_of_ng vT_of_sl_n fT_of_sl_c vT_of_fl_n fT_of_fl_c FU 0 r_9)
set_option maxHeartbeats 4000000 in
set_option maxRecDepth 100000 in
theorem c_X1_mindBehind (l : Launch) (D : va_G) (cI cZ : ClassId) (sz : Nat) (AT AT_of AT_tr AT_ga AT_bb AT_fg AT_sg AT_of_sl AT_of_fl AT_of_ro AT_of_nt AT_of_mk AT_of_mo AT_of_sl_c AT_of_fl_c : Nat) (vT_of_ng : Int32) (vT_of_sl_n : Int32) (fT_of_sl_c : Nat → Int32) (vT_of_fl_n : Int32) (fT_of_fl_c : Nat → Int32) (p1 : Int32) (p2 : Int32) (out : (Int32)) (hm : fm_X1_mindBehind p1 p2 vT_of_ng vT_of_sl_n fT_of_sl_c vT_of_fl_n fT_of_fl_c = some out) : Met l yX1_mindBehind (Cond.code yX1_mindBehind cX1_mindBehind 5 (some .int) :: bg) { frames := 3, cells := 0, slots := 0, locals := 75 } (va_Pc [.ref AT, .int p1, .int p2] (q_pre D cI cZ sz (wd_X1_mindBehind cI cZ AT AT_of AT_tr AT_ga AT_bb AT_fg AT_sg AT_of_sl AT_of_fl AT_of_ro AT_of_nt AT_of_mk AT_of_mo AT_of_sl_c AT_of_fl_c vT_of_ng vT_of_sl_n fT_of_sl_c vT_of_fl_n fT_of_fl_c))) (q_Qi D (wd_X1_mindBehind cI cZ AT AT_of AT_tr AT_ga AT_bb AT_fg AT_sg AT_of_sl AT_of_fl AT_of_ro AT_of_nt AT_of_mk AT_of_mo AT_of_sl_c AT_of_fl_c vT_of_ng vT_of_sl_n fT_of_sl_c vT_of_fl_n fT_of_fl_c) out (va_A (wd_X1_mindBehind cI cZ AT AT_of AT_tr AT_ga AT_bb AT_fg AT_sg AT_of_sl AT_of_fl AT_of_ro AT_of_nt AT_of_mk AT_of_mo AT_of_sl_c AT_of_fl_c vT_of_ng vT_of_sl_n fT_of_sl_c vT_of_fl_n fT_of_fl_c) sz)) 0 0 (va_A (wd_X1_mindBehind cI cZ AT AT_of AT_tr AT_ga AT_bb AT_fg AT_sg AT_of_sl AT_of_fl AT_of_ro AT_of_nt AT_of_mk AT_of_mo AT_of_sl_c AT_of_fl_c vT_of_ng vT_of_sl_n fT_of_sl_c vT_of_fl_n fT_of_fl_c) sz) := by
  refine q_met (fun A => q_Qi D (wd_X1_mindBehind cI cZ AT AT_of AT_tr AT_ga AT_bb AT_fg AT_sg AT_of_sl AT_of_fl AT_of_ro AT_of_nt AT_of_mk AT_of_mo AT_of_sl_c AT_of_fl_c vT_of_ng vT_of_sl_n fT_of_sl_c vT_of_fl_n fT_of_fl_c) out A) (by decide) (Nat.le_of_ble_eq_true rfl) ?_
  intro p e s m below meth c ls A hx hb hr hml hown hts hlocks _ hA hS hP hD hK hN hl
  have hown : s.vm.findClass RX1 = some m.cls := hown
  have hl : lv_has ls 5 [(0, .ref AT), (1, .int p1), (2, .int p2)] := hl
  have hL_16 : ∀ (fu_16 : Nat) (x4 : Int32) (x3 : Int32) (H : Heap) (locs : List Loc) (ls : Array Slot), fL_X1_mindBehind_16 p1 p2 vT_of_ng vT_of_sl_n fT_of_sl_c vT_of_fl_n fT_of_fl_c fu_16 x4 x3 = some out → va_P D vwCl (wd_X1_mindBehind cI cZ AT AT_of AT_tr AT_ga AT_bb AT_fg AT_sg AT_of_sl AT_of_fl AT_of_ro AT_of_nt AT_of_mk AT_of_mo AT_of_sl_c AT_of_fl_c vT_of_ng vT_of_sl_n fT_of_sl_c vT_of_fl_n fT_of_fl_c) H → va_D A (wd_X1_mindBehind cI cZ AT AT_of AT_tr AT_ga AT_bb AT_fg AT_sg AT_of_sl AT_of_fl AT_of_ro AT_of_nt AT_of_mk AT_of_mo AT_of_sl_c AT_of_fl_c vT_of_ng vT_of_sl_n fT_of_sl_c vT_of_fl_n fT_of_fl_c) → va_S A s.heap H locs → lv_has ls 5 [(4, .int x4), (3, .int x3), (0, .ref AT), (1, .int p1), (2, .int p2)] → W p l e { frames := 3, cells := 0, slots := 0, locals := 75 } s m ([.ref AT, .int p1, .int p2] : List Value).toArray below meth c H locs 0 0 (MQ below (q_Qi D (wd_X1_mindBehind cI cZ AT AT_of AT_tr AT_ga AT_bb AT_fg AT_sg AT_of_sl AT_of_fl AT_of_ro AT_of_nt AT_of_mk AT_of_mo AT_of_sl_c AT_of_fl_c vT_of_ng vT_of_sl_n fT_of_sl_c vT_of_fl_n fT_of_fl_c) out A) ([.ref AT, .int p1, .int p2] : List Value).toArray s 0 0 A) (F0 m 16 ls []) := by
    intro fu_16
    induction fu_16 with
    | zero => intro x4 x3 H locs ls hm hP hD hS hl; exact absurd (show (none : Option (Int32)) = some out from hm) (fun h => nomatch h)
    | succ fu_16 ih_16 =>
      intro x4 x3 H locs ls hm hP hD hS hl
      rw [fL_X1_mindBehind_16] at hm
      refine lv_iload hx hb dX1_mindBehind_16 (lv_at hl 0 rfl) ?_
      refine lv_iload_n hx hb dX1_mindBehind_18 rfl (lv_at hl 4 rfl) ?_
      refine lv_icmp_ge (tgt := 55) hx hb dX1_mindBehind_19 (by decide) (fun c_19 => ?_) (fun c_19 => ?_)
      · have hm := it_s c_19 hm
        refine lv_sipush (v := 999) hx hb dX1_mindBehind_55 (by decide) ?_
        refine lv_iload_n hx hb dX1_mindBehind_58 rfl (lv_at hl 1 rfl) ?_
        refine va_mmin hx hb (hml.trans hl.1.symm) hown (hts _ wl_X1_56) (hts _ wt_math_min) (hts _ wn_math) (hts _ wc_math_min) (Nat.le_of_ble_eq_true rfl) (Nat.le_of_ble_eq_true rfl) (Nat.le_refl 0) (Nat.le_refl 0) dX1_mindBehind_59 ?_
        have hm := Option.some.inj hm
        subst hm
        exact q_iret (v := (if x3 < 999 then x3 else 999)) hx hb hr hlocks hP hS dX1_mindBehind_62
      · have hm := it_n c_19 hm
        refine lv_iload_n hx hb dX1_mindBehind_22 rfl (lv_at hl 1 rfl) ?_
        refine lv_aload_n hx hb dX1_mindBehind_23 rfl (lv_at hl 2 rfl) ?_
        refine gf_X1_9 (v := .ref AT_of) hx hb hts hown hK hN hP 0 rfl rfl dX1_mindBehind_24 ?_
        refine lv_aload_n hx hb dX1_mindBehind_27 rfl (lv_at hl 2 rfl) ?_
        refine lv_iload_n hx hb dX1_mindBehind_28 rfl (lv_at hl 3 rfl) ?_
        obtain ⟨r_29, hc_29, hm⟩ := ob_s hm
        refine q_ci (q_rv (rest := [.ref AT_of, .int x3]) ⟨hx, hb, hml, hown, hts⟩ hK hN hP hD (c_X1_pillowOf l D cI cZ H.size AT AT_of AT_tr AT_ga AT_bb AT_fg AT_sg AT_of_sl AT_of_fl AT_of_ro AT_of_nt AT_of_mk AT_of_mo AT_of_sl_c vT_of_ng vT_of_sl_n fT_of_sl_c p1 r_29 hc_29) mb_X1_pillowOf mv_X1_pillowOf wl_X1_44 [0, 1, 2, 3] rfl rfl rfl (Nat.le_of_ble_eq_true rfl) (Nat.le_of_ble_eq_true rfl) rfl hl.1 rfl (Nat.le_of_ble_eq_true rfl) ⟨Nat.le_refl 0, Nat.le_refl 0⟩ dX1_mindBehind_29) hP hD hS hA [0, 1, 2, 3] rfl rfl (fun H locs hP hD hS => ?_)
        have hP : va_P D vwCl (wd_X1_mindBehind cI cZ AT AT_of AT_tr AT_ga AT_bb AT_fg AT_sg AT_of_sl AT_of_fl AT_of_ro AT_of_nt AT_of_mk AT_of_mo AT_of_sl_c AT_of_fl_c vT_of_ng vT_of_sl_n fT_of_sl_c vT_of_fl_n fT_of_fl_c) H := hP
        have hD : va_D A (wd_X1_mindBehind cI cZ AT AT_of AT_tr AT_ga AT_bb AT_fg AT_sg AT_of_sl AT_of_fl AT_of_ro AT_of_nt AT_of_mk AT_of_mo AT_of_sl_c AT_of_fl_c vT_of_ng vT_of_sl_n fT_of_sl_c vT_of_fl_n fT_of_fl_c) := hD
        refine lv_iload_n hx hb dX1_mindBehind_32 rfl (lv_at hl 3 rfl) ?_
        refine lv_iconst (v := (-1)) hx hb dX1_mindBehind_33 (by decide) ?_
        refine lv_aload_n hx hb dX1_mindBehind_34 rfl (lv_at hl 2 rfl) ?_
        refine gf_X1_9 (v := .ref AT_of) hx hb hts hown hK hN hP 0 rfl rfl dX1_mindBehind_35 ?_
        refine gf_X1_48 (v := .int vT_of_ng) hx hb hts hown hK hN hP 1 rfl rfl dX1_mindBehind_38 ?_
        refine lv_iload hx hb dX1_mindBehind_41 (lv_at hl 0 rfl) ?_
        refine lv_iadd hx hb dX1_mindBehind_43 ?_
        obtain ⟨r_44, hc_44, hm⟩ := ob_s hm
        refine q_ci (q_rv (rest := [.int x3]) ⟨hx, hb, hml, hown, hts⟩ hK hN hP hD (c_X4_believedOn l D cI cZ H.size AT_of AT_of_sl AT_of_fl AT_of_ro AT_of_nt AT_of_mk AT_of_mo AT_of_sl_c AT_of_fl_c vT_of_ng vT_of_sl_n fT_of_sl_c vT_of_fl_n fT_of_fl_c r_29 p1 (-1) (vT_of_ng + x4) r_44 hc_44) mb_X4_believedOn mv_X4_believedOn wl_X1_52 [1, 2, 3, 4, 5] rfl rfl rfl (Nat.le_of_ble_eq_true rfl) (Nat.le_of_ble_eq_true rfl) rfl hl.1 rfl (Nat.le_of_ble_eq_true rfl) ⟨Nat.le_refl 0, Nat.le_refl 0⟩ dX1_mindBehind_44) hP hD hS hA [1, 2, 3, 4, 5] rfl rfl (fun H locs hP hD hS => ?_)
        have hP : va_P D vwCl (wd_X1_mindBehind cI cZ AT AT_of AT_tr AT_ga AT_bb AT_fg AT_sg AT_of_sl AT_of_fl AT_of_ro AT_of_nt AT_of_mk AT_of_mo AT_of_sl_c AT_of_fl_c vT_of_ng vT_of_sl_n fT_of_sl_c vT_of_fl_n fT_of_fl_c) H := hP
        have hD : va_D A (wd_X1_mindBehind cI cZ AT AT_of AT_tr AT_ga AT_bb AT_fg AT_sg AT_of_sl AT_of_fl AT_of_ro AT_of_nt AT_of_mk AT_of_mo AT_of_sl_c AT_of_fl_c vT_of_ng vT_of_sl_n fT_of_sl_c vT_of_fl_n fT_of_fl_c) := hD
        refine lv_iadd hx hb dX1_mindBehind_47 ?_
        refine lv_istore_n (lv' := [(3, .int (x3 + r_44)), (4, .int x4), (0, .ref AT), (1, .int p1), (2, .int p2)]) hx hb dX1_mindBehind_48 rfl hl (by decide) rfl (fun ls hl => ?_)
        refine lv_iinc (v := (x4 + 1)) (lv' := [(4, .int (x4 + 1)), (3, .int (x3 + r_44)), (0, .ref AT), (1, .int p1), (2, .int p2)]) hx hb dX1_mindBehind_49 hl (k := 1) rfl rfl (by decide) rfl (fun ls hl => ?_)
        refine lv_goto (tgt := 16) hx hb dX1_mindBehind_52 (by decide) ?_
        exact ih_16 (x4 + 1) (x3 + r_44) H locs ls hm hP hD hS (lv_sub hl [0, 1, 2, 3, 4] rfl)
  unfold fm_X1_mindBehind at hm
  refine q_gen hS hP ?_
  intro H locs hP hS
  refine lv_aload_n hx hb dX1_mindBehind_0 rfl (lv_at hl 0 rfl) ?_
  refine gf_X1_9 (v := .ref AT_of) hx hb hts hown hK hN hP 0 rfl rfl dX1_mindBehind_1 ?_
  refine gf_X1_34 (v := .ref AT_of_sl) hx hb hts hown hK hN hP 1 rfl rfl dX1_mindBehind_4 ?_
  refine lv_iload_n hx hb dX1_mindBehind_7 rfl (lv_at hl 1 rfl) ?_
  refine lv_iconst (v := 3) hx hb dX1_mindBehind_8 (by decide) ?_
  obtain ⟨r_9, hc_9, hm⟩ := ob_s hm
  refine q_ci (q_rv (rest := []) ⟨hx, hb, hml, hown, hts⟩ hK hN hP hD (c_X3_cell l D cI cZ H.size AT_of_sl AT_of_sl_c 4 24 vT_of_sl_n fT_of_sl_c p1 3 r_9 hc_9) mb_X3_cell mv_X3_cell wl_X1_38 [2, 3] rfl rfl rfl (Nat.le_of_ble_eq_true rfl) (Nat.le_of_ble_eq_true rfl) rfl hl.1 rfl (Nat.le_of_ble_eq_true rfl) ⟨Nat.le_refl 0, Nat.le_refl 0⟩ dX1_mindBehind_9) hP hD hS hA [2, 3] rfl rfl (fun H locs hP hD hS => ?_)
  have hP : va_P D vwCl (wd_X1_mindBehind cI cZ AT AT_of AT_tr AT_ga AT_bb AT_fg AT_sg AT_of_sl AT_of_fl AT_of_ro AT_of_nt AT_of_mk AT_of_mo AT_of_sl_c AT_of_fl_c vT_of_ng vT_of_sl_n fT_of_sl_c vT_of_fl_n fT_of_fl_c) H := hP
  have hD : va_D A (wd_X1_mindBehind cI cZ AT AT_of AT_tr AT_ga AT_bb AT_fg AT_sg AT_of_sl AT_of_fl AT_of_ro AT_of_nt AT_of_mk AT_of_mo AT_of_sl_c AT_of_fl_c vT_of_ng vT_of_sl_n fT_of_sl_c vT_of_fl_n fT_of_fl_c) := hD
  refine lv_istore_n (lv' := [(3, .int r_9), (0, .ref AT), (1, .int p1), (2, .int p2)]) hx hb dX1_mindBehind_12 rfl hl (by decide) rfl (fun ls hl => ?_)
  refine lv_iconst (v := 0) hx hb dX1_mindBehind_13 (by decide) ?_
  refine lv_istore (lv' := [(4, .int 0), (3, .int r_9), (0, .ref AT), (1, .int p1), (2, .int p2)]) hx hb dX1_mindBehind_14 hl (by decide) rfl (fun ls hl => ?_)
  exact hL_16 FU 0 r_9 H locs ls hm hP hD hS (lv_sub hl [0, 1, 2, 3, 4] rfl)
theorem mb_X1_nightsTillDone : q_mb yX1_nightsTillDone cX1_nightsTillDone 5 (some .int) 2 := ⟨wc_X1_nightsTillDone, wn_X1, by decide, by decide, by decide +kernel⟩
theorem mv_X1_nightsTillDone : q_mv yX1_nightsTillDone 1 := ⟨wi_X1_nightsTillDone, ws_X1_nightsTillDone, _, rfl, rfl⟩
def wd_X1_nightsTillDone (cI cZ : ClassId) (AT AT_of AT_tr AT_ga AT_bb AT_fg AT_sg AT_of_sl AT_of_fl AT_of_ro AT_of_nt AT_of_mk AT_of_mo AT_of_sl_c AT_of_fl_c : Nat) (vT_of_ng : Int32) (vT_of_sl_n : Int32) (fT_of_sl_c : Nat → Int32) (vT_of_fl_n : Int32) (fT_of_fl_c : Nat → Int32) : va_W := [(AT, .inr (1, [.ref AT_of, .ref AT_tr, .ref AT_ga, .ref AT_bb, .ref AT_fg, .ref AT_sg])), (AT_of, .inr (4, [.ref AT_of_sl, .ref AT_of_fl, .ref AT_of_ro, .ref AT_of_nt, .ref AT_of_mk, .ref AT_of_mo, .int vT_of_ng])), (AT_of_sl, .inr (3, [.int 4, .ref AT_of_sl_c, .int vT_of_sl_n])), (AT_of_sl_c, .inl (cI, 24, .inl fT_of_sl_c)), (AT_of_fl, .inr (3, [.int 3, .ref AT_of_fl_c, .int vT_of_fl_n])), (AT_of_fl_c, .inl (cI, 18, .inl fT_of_fl_c))]
def fL_X1_nightsTillDone_16 (p1 : Int32) (p2 : Int32) (vT_of_ng : Int32) (vT_of_sl_n : Int32) (fT_of_sl_c : Nat → Int32) (vT_of_fl_n : Int32) (fT_of_fl_c : Nat → Int32) : Nat → Int32 → Int32 → Option (Int32)
  | 0, _, _ => none
  | fu + 1, x4, x3 => if 60 < x4 then (some ((-1))) else (if x3 < 20 then (Option.bind (fm_X1_pillowOf p1 vT_of_sl_n fT_of_sl_c) (fun r_39 => Option.bind (fm_X4_believedOn r_39 p1 p2 (vT_of_ng + x4) vT_of_sl_n fT_of_sl_c vT_of_fl_n fT_of_fl_c) (fun r_54 => fL_X1_nightsTillDone_16 p1 p2 vT_of_ng vT_of_sl_n fT_of_sl_c vT_of_fl_n fT_of_fl_c fu (x4 + 1) (x3 + r_54)))) else (some (x4)))
def fm_X1_nightsTillDone (p1 : Int32) (p2 : Int32) (vT_of_ng : Int32) (vT_of_sl_n : Int32) (fT_of_sl_c : Nat → Int32) (vT_of_fl_n : Int32) (fT_of_fl_c : Nat → Int32) : Option (Int32) := Option.bind (fm_X3_cell 4 24 p1 3 vT_of_sl_n fT_of_sl_c) (fun r_9 => fL_X1_nightsTillDone_16 p1 p2 vT_of_ng vT_of_sl_n fT_of_sl_c vT_of_fl_n fT_of_fl_c FU 0 r_9)
set_option maxHeartbeats 4000000 in
set_option maxRecDepth 100000 in
theorem c_X1_nightsTillDone (l : Launch) (D : va_G) (cI cZ : ClassId) (sz : Nat) (AT AT_of AT_tr AT_ga AT_bb AT_fg AT_sg AT_of_sl AT_of_fl AT_of_ro AT_of_nt AT_of_mk AT_of_mo AT_of_sl_c AT_of_fl_c : Nat) (vT_of_ng : Int32) (vT_of_sl_n : Int32) (fT_of_sl_c : Nat → Int32) (vT_of_fl_n : Int32) (fT_of_fl_c : Nat → Int32) (p1 : Int32) (p2 : Int32) (out : (Int32)) (hm : fm_X1_nightsTillDone p1 p2 vT_of_ng vT_of_sl_n fT_of_sl_c vT_of_fl_n fT_of_fl_c = some out) : Met l yX1_nightsTillDone (Cond.code yX1_nightsTillDone cX1_nightsTillDone 5 (some .int) :: bg) { frames := 3, cells := 0, slots := 0, locals := 75 } (va_Pc [.ref AT, .int p1, .int p2] (q_pre D cI cZ sz (wd_X1_nightsTillDone cI cZ AT AT_of AT_tr AT_ga AT_bb AT_fg AT_sg AT_of_sl AT_of_fl AT_of_ro AT_of_nt AT_of_mk AT_of_mo AT_of_sl_c AT_of_fl_c vT_of_ng vT_of_sl_n fT_of_sl_c vT_of_fl_n fT_of_fl_c))) (q_Qi D (wd_X1_nightsTillDone cI cZ AT AT_of AT_tr AT_ga AT_bb AT_fg AT_sg AT_of_sl AT_of_fl AT_of_ro AT_of_nt AT_of_mk AT_of_mo AT_of_sl_c AT_of_fl_c vT_of_ng vT_of_sl_n fT_of_sl_c vT_of_fl_n fT_of_fl_c) out (va_A (wd_X1_nightsTillDone cI cZ AT AT_of AT_tr AT_ga AT_bb AT_fg AT_sg AT_of_sl AT_of_fl AT_of_ro AT_of_nt AT_of_mk AT_of_mo AT_of_sl_c AT_of_fl_c vT_of_ng vT_of_sl_n fT_of_sl_c vT_of_fl_n fT_of_fl_c) sz)) 0 0 (va_A (wd_X1_nightsTillDone cI cZ AT AT_of AT_tr AT_ga AT_bb AT_fg AT_sg AT_of_sl AT_of_fl AT_of_ro AT_of_nt AT_of_mk AT_of_mo AT_of_sl_c AT_of_fl_c vT_of_ng vT_of_sl_n fT_of_sl_c vT_of_fl_n fT_of_fl_c) sz) := by
  refine q_met (fun A => q_Qi D (wd_X1_nightsTillDone cI cZ AT AT_of AT_tr AT_ga AT_bb AT_fg AT_sg AT_of_sl AT_of_fl AT_of_ro AT_of_nt AT_of_mk AT_of_mo AT_of_sl_c AT_of_fl_c vT_of_ng vT_of_sl_n fT_of_sl_c vT_of_fl_n fT_of_fl_c) out A) (by decide) (Nat.le_of_ble_eq_true rfl) ?_
  intro p e s m below meth c ls A hx hb hr hml hown hts hlocks _ hA hS hP hD hK hN hl
  have hown : s.vm.findClass RX1 = some m.cls := hown
  have hl : lv_has ls 5 [(0, .ref AT), (1, .int p1), (2, .int p2)] := hl
  have hL_16 : ∀ (fu_16 : Nat) (x4 : Int32) (x3 : Int32) (H : Heap) (locs : List Loc) (ls : Array Slot), fL_X1_nightsTillDone_16 p1 p2 vT_of_ng vT_of_sl_n fT_of_sl_c vT_of_fl_n fT_of_fl_c fu_16 x4 x3 = some out → va_P D vwCl (wd_X1_nightsTillDone cI cZ AT AT_of AT_tr AT_ga AT_bb AT_fg AT_sg AT_of_sl AT_of_fl AT_of_ro AT_of_nt AT_of_mk AT_of_mo AT_of_sl_c AT_of_fl_c vT_of_ng vT_of_sl_n fT_of_sl_c vT_of_fl_n fT_of_fl_c) H → va_D A (wd_X1_nightsTillDone cI cZ AT AT_of AT_tr AT_ga AT_bb AT_fg AT_sg AT_of_sl AT_of_fl AT_of_ro AT_of_nt AT_of_mk AT_of_mo AT_of_sl_c AT_of_fl_c vT_of_ng vT_of_sl_n fT_of_sl_c vT_of_fl_n fT_of_fl_c) → va_S A s.heap H locs → lv_has ls 5 [(4, .int x4), (3, .int x3), (0, .ref AT), (1, .int p1), (2, .int p2)] → W p l e { frames := 3, cells := 0, slots := 0, locals := 75 } s m ([.ref AT, .int p1, .int p2] : List Value).toArray below meth c H locs 0 0 (MQ below (q_Qi D (wd_X1_nightsTillDone cI cZ AT AT_of AT_tr AT_ga AT_bb AT_fg AT_sg AT_of_sl AT_of_fl AT_of_ro AT_of_nt AT_of_mk AT_of_mo AT_of_sl_c AT_of_fl_c vT_of_ng vT_of_sl_n fT_of_sl_c vT_of_fl_n fT_of_fl_c) out A) ([.ref AT, .int p1, .int p2] : List Value).toArray s 0 0 A) (F0 m 16 ls []) := by
    intro fu_16
    induction fu_16 with
    | zero => intro x4 x3 H locs ls hm hP hD hS hl; exact absurd (show (none : Option (Int32)) = some out from hm) (fun h => nomatch h)
    | succ fu_16 ih_16 =>
      intro x4 x3 H locs ls hm hP hD hS hl
      rw [fL_X1_nightsTillDone_16] at hm
      refine lv_iload hx hb dX1_nightsTillDone_16 (lv_at hl 0 rfl) ?_
      refine lv_bipush (v := 60) hx hb dX1_nightsTillDone_18 (by decide) ?_
      refine lv_icmp_gt (tgt := 65) hx hb dX1_nightsTillDone_20 (by decide) (fun c_20 => ?_) (fun c_20 => ?_)
      · have hm := it_s c_20 hm
        refine lv_iconst (v := (-1)) hx hb dX1_nightsTillDone_65 (by decide) ?_
        have hm := Option.some.inj hm
        subst hm
        exact q_iret (v := (-1)) hx hb hr hlocks hP hS dX1_nightsTillDone_66
      · have hm := it_n c_20 hm
        refine lv_iload_n hx hb dX1_nightsTillDone_23 rfl (lv_at hl 1 rfl) ?_
        refine lv_bipush (v := 20) hx hb dX1_nightsTillDone_24 (by decide) ?_
        refine lv_icmp_lt (tgt := 32) hx hb dX1_nightsTillDone_26 (by decide) (fun c_26 => ?_) (fun c_26 => ?_)
        · have hm := it_s c_26 hm
          refine lv_iload_n hx hb dX1_nightsTillDone_32 rfl (lv_at hl 1 rfl) ?_
          refine lv_aload_n hx hb dX1_nightsTillDone_33 rfl (lv_at hl 2 rfl) ?_
          refine gf_X1_9 (v := .ref AT_of) hx hb hts hown hK hN hP 0 rfl rfl dX1_nightsTillDone_34 ?_
          refine lv_aload_n hx hb dX1_nightsTillDone_37 rfl (lv_at hl 2 rfl) ?_
          refine lv_iload_n hx hb dX1_nightsTillDone_38 rfl (lv_at hl 3 rfl) ?_
          obtain ⟨r_39, hc_39, hm⟩ := ob_s hm
          refine q_ci (q_rv (rest := [.ref AT_of, .int x3]) ⟨hx, hb, hml, hown, hts⟩ hK hN hP hD (c_X1_pillowOf l D cI cZ H.size AT AT_of AT_tr AT_ga AT_bb AT_fg AT_sg AT_of_sl AT_of_fl AT_of_ro AT_of_nt AT_of_mk AT_of_mo AT_of_sl_c vT_of_ng vT_of_sl_n fT_of_sl_c p1 r_39 hc_39) mb_X1_pillowOf mv_X1_pillowOf wl_X1_44 [0, 1, 2, 3] rfl rfl rfl (Nat.le_of_ble_eq_true rfl) (Nat.le_of_ble_eq_true rfl) rfl hl.1 rfl (Nat.le_of_ble_eq_true rfl) ⟨Nat.le_refl 0, Nat.le_refl 0⟩ dX1_nightsTillDone_39) hP hD hS hA [0, 1, 2, 3] rfl rfl (fun H locs hP hD hS => ?_)
          have hP : va_P D vwCl (wd_X1_nightsTillDone cI cZ AT AT_of AT_tr AT_ga AT_bb AT_fg AT_sg AT_of_sl AT_of_fl AT_of_ro AT_of_nt AT_of_mk AT_of_mo AT_of_sl_c AT_of_fl_c vT_of_ng vT_of_sl_n fT_of_sl_c vT_of_fl_n fT_of_fl_c) H := hP
          have hD : va_D A (wd_X1_nightsTillDone cI cZ AT AT_of AT_tr AT_ga AT_bb AT_fg AT_sg AT_of_sl AT_of_fl AT_of_ro AT_of_nt AT_of_mk AT_of_mo AT_of_sl_c AT_of_fl_c vT_of_ng vT_of_sl_n fT_of_sl_c vT_of_fl_n fT_of_fl_c) := hD
          refine lv_iload_n hx hb dX1_nightsTillDone_42 rfl (lv_at hl 3 rfl) ?_
          refine lv_iload_n hx hb dX1_nightsTillDone_43 rfl (lv_at hl 4 rfl) ?_
          refine lv_aload_n hx hb dX1_nightsTillDone_44 rfl (lv_at hl 2 rfl) ?_
          refine gf_X1_9 (v := .ref AT_of) hx hb hts hown hK hN hP 0 rfl rfl dX1_nightsTillDone_45 ?_
          refine gf_X1_48 (v := .int vT_of_ng) hx hb hts hown hK hN hP 1 rfl rfl dX1_nightsTillDone_48 ?_
          refine lv_iload hx hb dX1_nightsTillDone_51 (lv_at hl 0 rfl) ?_
          refine lv_iadd hx hb dX1_nightsTillDone_53 ?_
          obtain ⟨r_54, hc_54, hm⟩ := ob_s hm
          refine q_ci (q_rv (rest := [.int x3]) ⟨hx, hb, hml, hown, hts⟩ hK hN hP hD (c_X4_believedOn l D cI cZ H.size AT_of AT_of_sl AT_of_fl AT_of_ro AT_of_nt AT_of_mk AT_of_mo AT_of_sl_c AT_of_fl_c vT_of_ng vT_of_sl_n fT_of_sl_c vT_of_fl_n fT_of_fl_c r_39 p1 p2 (vT_of_ng + x4) r_54 hc_54) mb_X4_believedOn mv_X4_believedOn wl_X1_52 [1, 2, 3, 4, 5] rfl rfl rfl (Nat.le_of_ble_eq_true rfl) (Nat.le_of_ble_eq_true rfl) rfl hl.1 rfl (Nat.le_of_ble_eq_true rfl) ⟨Nat.le_refl 0, Nat.le_refl 0⟩ dX1_nightsTillDone_54) hP hD hS hA [1, 2, 3, 4, 5] rfl rfl (fun H locs hP hD hS => ?_)
          have hP : va_P D vwCl (wd_X1_nightsTillDone cI cZ AT AT_of AT_tr AT_ga AT_bb AT_fg AT_sg AT_of_sl AT_of_fl AT_of_ro AT_of_nt AT_of_mk AT_of_mo AT_of_sl_c AT_of_fl_c vT_of_ng vT_of_sl_n fT_of_sl_c vT_of_fl_n fT_of_fl_c) H := hP
          have hD : va_D A (wd_X1_nightsTillDone cI cZ AT AT_of AT_tr AT_ga AT_bb AT_fg AT_sg AT_of_sl AT_of_fl AT_of_ro AT_of_nt AT_of_mk AT_of_mo AT_of_sl_c AT_of_fl_c vT_of_ng vT_of_sl_n fT_of_sl_c vT_of_fl_n fT_of_fl_c) := hD
          refine lv_iadd hx hb dX1_nightsTillDone_57 ?_
          refine lv_istore_n (lv' := [(3, .int (x3 + r_54)), (4, .int x4), (0, .ref AT), (1, .int p1), (2, .int p2)]) hx hb dX1_nightsTillDone_58 rfl hl (by decide) rfl (fun ls hl => ?_)
          refine lv_iinc (v := (x4 + 1)) (lv' := [(4, .int (x4 + 1)), (3, .int (x3 + r_54)), (0, .ref AT), (1, .int p1), (2, .int p2)]) hx hb dX1_nightsTillDone_59 hl (k := 1) rfl rfl (by decide) rfl (fun ls hl => ?_)
          refine lv_goto (tgt := 16) hx hb dX1_nightsTillDone_62 (by decide) ?_
          exact ih_16 (x4 + 1) (x3 + r_54) H locs ls hm hP hD hS (lv_sub hl [0, 1, 2, 3, 4] rfl)
        · have hm := it_n c_26 hm
          refine lv_iload hx hb dX1_nightsTillDone_29 (lv_at hl 0 rfl) ?_
          have hm := Option.some.inj hm
          subst hm
          exact q_iret (v := x4) hx hb hr hlocks hP hS dX1_nightsTillDone_31
  unfold fm_X1_nightsTillDone at hm
  refine q_gen hS hP ?_
  intro H locs hP hS
  refine lv_aload_n hx hb dX1_nightsTillDone_0 rfl (lv_at hl 0 rfl) ?_
  refine gf_X1_9 (v := .ref AT_of) hx hb hts hown hK hN hP 0 rfl rfl dX1_nightsTillDone_1 ?_
  refine gf_X1_34 (v := .ref AT_of_sl) hx hb hts hown hK hN hP 1 rfl rfl dX1_nightsTillDone_4 ?_
  refine lv_iload_n hx hb dX1_nightsTillDone_7 rfl (lv_at hl 1 rfl) ?_
  refine lv_iconst (v := 3) hx hb dX1_nightsTillDone_8 (by decide) ?_
  obtain ⟨r_9, hc_9, hm⟩ := ob_s hm
  refine q_ci (q_rv (rest := []) ⟨hx, hb, hml, hown, hts⟩ hK hN hP hD (c_X3_cell l D cI cZ H.size AT_of_sl AT_of_sl_c 4 24 vT_of_sl_n fT_of_sl_c p1 3 r_9 hc_9) mb_X3_cell mv_X3_cell wl_X1_38 [2, 3] rfl rfl rfl (Nat.le_of_ble_eq_true rfl) (Nat.le_of_ble_eq_true rfl) rfl hl.1 rfl (Nat.le_of_ble_eq_true rfl) ⟨Nat.le_refl 0, Nat.le_refl 0⟩ dX1_nightsTillDone_9) hP hD hS hA [2, 3] rfl rfl (fun H locs hP hD hS => ?_)
  have hP : va_P D vwCl (wd_X1_nightsTillDone cI cZ AT AT_of AT_tr AT_ga AT_bb AT_fg AT_sg AT_of_sl AT_of_fl AT_of_ro AT_of_nt AT_of_mk AT_of_mo AT_of_sl_c AT_of_fl_c vT_of_ng vT_of_sl_n fT_of_sl_c vT_of_fl_n fT_of_fl_c) H := hP
  have hD : va_D A (wd_X1_nightsTillDone cI cZ AT AT_of AT_tr AT_ga AT_bb AT_fg AT_sg AT_of_sl AT_of_fl AT_of_ro AT_of_nt AT_of_mk AT_of_mo AT_of_sl_c AT_of_fl_c vT_of_ng vT_of_sl_n fT_of_sl_c vT_of_fl_n fT_of_fl_c) := hD
  refine lv_istore_n (lv' := [(3, .int r_9), (0, .ref AT), (1, .int p1), (2, .int p2)]) hx hb dX1_nightsTillDone_12 rfl hl (by decide) rfl (fun ls hl => ?_)
  refine lv_iconst (v := 0) hx hb dX1_nightsTillDone_13 (by decide) ?_
  refine lv_istore (lv' := [(4, .int 0), (3, .int r_9), (0, .ref AT), (1, .int p1), (2, .int p2)]) hx hb dX1_nightsTillDone_14 hl (by decide) rfl (fun ls hl => ?_)
  exact hL_16 FU 0 r_9 H locs ls hm hP hD hS (lv_sub hl [0, 1, 2, 3, 4] rfl)
theorem gf_X1_61 {p : Program} {l : Launch} {e : Env} {R : Room} {s : State} {m : MethodId} {args : Array Value} {below : List Frame} {meth : Method} {c : Code} {H : Heap} {locs : List Loc} {cells slots : Nat} {Q : State → Prop} {pc : Nat} {ls : Array Slot} {cc : ByteArray} {D : va_G} {cI cZ : ClassId} {ws : va_W} {a : Nat} {rest fs : List Value} (hx : p.tables.exec = Jvm.exec) (hb : c.code = cc) (hts : ∀ w ∈ bg, w.before args s = true) (hown : s.vm.findClass RX1 = some m.cls) (hK : va_K D vwCl (q_tys cI cZ) s) (hN : q_N s) (hP : va_P D vwCl ws H) (q0 : Nat) (he : ws[q0]? = some (a, .inr (4, fs))) {v : Value} (hv : fs[1]? = some v) (hdg : decode cc pc = .ok (.getfield 61, 3)) (kk : W p l e R s m args below meth c H locs cells slots Q (F0 m (pc + 3) ls (v :: rest))) : W p l e R s m args below meth c H locs cells slots Q (F0 m pc ls (.ref a :: rest)) :=
  va_getN (C := RX4) (T := TX4) (N := 7) hx hb hts wu_X4 hown hK hP q0 he rfl 1 (by decide) ((ng_X1_61 hN).use rfl) (fun _ h9 => h9) hv hdg kk
theorem mb_X1_soonestFlower : q_mb yX1_soonestFlower cX1_soonestFlower 6 (some .int) 1 := ⟨wc_X1_soonestFlower, wn_X1, by decide, by decide, by decide +kernel⟩
theorem mv_X1_soonestFlower : q_mv yX1_soonestFlower 1 := ⟨wi_X1_soonestFlower, ws_X1_soonestFlower, _, rfl, rfl⟩
def wd_X1_soonestFlower (cI cZ : ClassId) (AT AT_of AT_tr AT_ga AT_bb AT_fg AT_sg AT_of_sl AT_of_fl AT_of_ro AT_of_nt AT_of_mk AT_of_mo AT_of_fl_c AT_of_sl_c : Nat) (vT_of_ng : Int32) (vT_of_fl_n : Int32) (vT_of_sl_n : Int32) (fT_of_sl_c : Nat → Int32) (fT_of_fl_c : Nat → Int32) : va_W := [(AT, .inr (1, [.ref AT_of, .ref AT_tr, .ref AT_ga, .ref AT_bb, .ref AT_fg, .ref AT_sg])), (AT_of, .inr (4, [.ref AT_of_sl, .ref AT_of_fl, .ref AT_of_ro, .ref AT_of_nt, .ref AT_of_mk, .ref AT_of_mo, .int vT_of_ng])), (AT_of_fl, .inr (3, [.int 3, .ref AT_of_fl_c, .int vT_of_fl_n])), (AT_of_sl, .inr (3, [.int 4, .ref AT_of_sl_c, .int vT_of_sl_n])), (AT_of_sl_c, .inl (cI, 24, .inl fT_of_sl_c)), (AT_of_fl_c, .inl (cI, 18, .inl fT_of_fl_c))]
def fL_X1_soonestFlower_8 (p1 : Int32) (vT_of_ng : Int32) (vT_of_fl_n : Int32) (vT_of_sl_n : Int32) (fT_of_sl_c : Nat → Int32) (fT_of_fl_c : Nat → Int32) : Nat → Int32 → Int32 → Int32 → Option (Int32)
  | 0, _, _, _ => none
  | fu + 1, x4, x3, x2 => Option.bind (fm_X3_size vT_of_fl_n) (fun r_17 => if r_17 ≤ x4 then (some (x2)) else (Option.bind (fm_X1_nightsTillDone p1 x4 vT_of_ng vT_of_sl_n fT_of_sl_c vT_of_fl_n fT_of_fl_c) (fun r_27 => if r_27 = (-1) then (fL_X1_soonestFlower_8 p1 vT_of_ng vT_of_fl_n vT_of_sl_n fT_of_sl_c fT_of_fl_c fu (x4 + 1) x3 x2) else (if x3 ≤ r_27 then (fL_X1_soonestFlower_8 p1 vT_of_ng vT_of_fl_n vT_of_sl_n fT_of_sl_c fT_of_fl_c fu (x4 + 1) x3 x2) else (fL_X1_soonestFlower_8 p1 vT_of_ng vT_of_fl_n vT_of_sl_n fT_of_sl_c fT_of_fl_c fu (x4 + 1) r_27 x4)))))
def fm_X1_soonestFlower (p1 : Int32) (vT_of_ng : Int32) (vT_of_fl_n : Int32) (vT_of_sl_n : Int32) (fT_of_sl_c : Nat → Int32) (fT_of_fl_c : Nat → Int32) : Option (Int32) := fL_X1_soonestFlower_8 p1 vT_of_ng vT_of_fl_n vT_of_sl_n fT_of_sl_c fT_of_fl_c FU 0 61 (-1)
set_option maxHeartbeats 4000000 in
set_option maxRecDepth 100000 in
theorem c_X1_soonestFlower (l : Launch) (D : va_G) (cI cZ : ClassId) (sz : Nat) (AT AT_of AT_tr AT_ga AT_bb AT_fg AT_sg AT_of_sl AT_of_fl AT_of_ro AT_of_nt AT_of_mk AT_of_mo AT_of_fl_c AT_of_sl_c : Nat) (vT_of_ng : Int32) (vT_of_fl_n : Int32) (vT_of_sl_n : Int32) (fT_of_sl_c : Nat → Int32) (fT_of_fl_c : Nat → Int32) (p1 : Int32) (out : (Int32)) (hm : fm_X1_soonestFlower p1 vT_of_ng vT_of_fl_n vT_of_sl_n fT_of_sl_c fT_of_fl_c = some out) : Met l yX1_soonestFlower (Cond.code yX1_soonestFlower cX1_soonestFlower 6 (some .int) :: bg) { frames := 4, cells := 0, slots := 0, locals := 99 } (va_Pc [.ref AT, .int p1] (q_pre D cI cZ sz (wd_X1_soonestFlower cI cZ AT AT_of AT_tr AT_ga AT_bb AT_fg AT_sg AT_of_sl AT_of_fl AT_of_ro AT_of_nt AT_of_mk AT_of_mo AT_of_fl_c AT_of_sl_c vT_of_ng vT_of_fl_n vT_of_sl_n fT_of_sl_c fT_of_fl_c))) (q_Qi D (wd_X1_soonestFlower cI cZ AT AT_of AT_tr AT_ga AT_bb AT_fg AT_sg AT_of_sl AT_of_fl AT_of_ro AT_of_nt AT_of_mk AT_of_mo AT_of_fl_c AT_of_sl_c vT_of_ng vT_of_fl_n vT_of_sl_n fT_of_sl_c fT_of_fl_c) out (va_A (wd_X1_soonestFlower cI cZ AT AT_of AT_tr AT_ga AT_bb AT_fg AT_sg AT_of_sl AT_of_fl AT_of_ro AT_of_nt AT_of_mk AT_of_mo AT_of_fl_c AT_of_sl_c vT_of_ng vT_of_fl_n vT_of_sl_n fT_of_sl_c fT_of_fl_c) sz)) 0 0 (va_A (wd_X1_soonestFlower cI cZ AT AT_of AT_tr AT_ga AT_bb AT_fg AT_sg AT_of_sl AT_of_fl AT_of_ro AT_of_nt AT_of_mk AT_of_mo AT_of_fl_c AT_of_sl_c vT_of_ng vT_of_fl_n vT_of_sl_n fT_of_sl_c fT_of_fl_c) sz) := by
  refine q_met (fun A => q_Qi D (wd_X1_soonestFlower cI cZ AT AT_of AT_tr AT_ga AT_bb AT_fg AT_sg AT_of_sl AT_of_fl AT_of_ro AT_of_nt AT_of_mk AT_of_mo AT_of_fl_c AT_of_sl_c vT_of_ng vT_of_fl_n vT_of_sl_n fT_of_sl_c fT_of_fl_c) out A) (by decide) (Nat.le_of_ble_eq_true rfl) ?_
  intro p e s m below meth c ls A hx hb hr hml hown hts hlocks _ hA hS hP hD hK hN hl
  have hown : s.vm.findClass RX1 = some m.cls := hown
  have hl : lv_has ls 6 [(0, .ref AT), (1, .int p1)] := hl
  have hL_8 : ∀ (fu_8 : Nat) (x4 : Int32) (x3 : Int32) (x2 : Int32) (H : Heap) (locs : List Loc) (ls : Array Slot), fL_X1_soonestFlower_8 p1 vT_of_ng vT_of_fl_n vT_of_sl_n fT_of_sl_c fT_of_fl_c fu_8 x4 x3 x2 = some out → va_P D vwCl (wd_X1_soonestFlower cI cZ AT AT_of AT_tr AT_ga AT_bb AT_fg AT_sg AT_of_sl AT_of_fl AT_of_ro AT_of_nt AT_of_mk AT_of_mo AT_of_fl_c AT_of_sl_c vT_of_ng vT_of_fl_n vT_of_sl_n fT_of_sl_c fT_of_fl_c) H → va_D A (wd_X1_soonestFlower cI cZ AT AT_of AT_tr AT_ga AT_bb AT_fg AT_sg AT_of_sl AT_of_fl AT_of_ro AT_of_nt AT_of_mk AT_of_mo AT_of_fl_c AT_of_sl_c vT_of_ng vT_of_fl_n vT_of_sl_n fT_of_sl_c fT_of_fl_c) → va_S A s.heap H locs → lv_has ls 6 [(4, .int x4), (3, .int x3), (2, .int x2), (0, .ref AT), (1, .int p1)] → W p l e { frames := 4, cells := 0, slots := 0, locals := 99 } s m ([.ref AT, .int p1] : List Value).toArray below meth c H locs 0 0 (MQ below (q_Qi D (wd_X1_soonestFlower cI cZ AT AT_of AT_tr AT_ga AT_bb AT_fg AT_sg AT_of_sl AT_of_fl AT_of_ro AT_of_nt AT_of_mk AT_of_mo AT_of_fl_c AT_of_sl_c vT_of_ng vT_of_fl_n vT_of_sl_n fT_of_sl_c fT_of_fl_c) out A) ([.ref AT, .int p1] : List Value).toArray s 0 0 A) (F0 m 8 ls []) := by
    intro fu_8
    induction fu_8 with
    | zero => intro x4 x3 x2 H locs ls hm hP hD hS hl; exact absurd (show (none : Option (Int32)) = some out from hm) (fun h => nomatch h)
    | succ fu_8 ih_8 =>
      intro x4 x3 x2 H locs ls hm hP hD hS hl
      rw [fL_X1_soonestFlower_8] at hm
      refine lv_iload hx hb dX1_soonestFlower_8 (lv_at hl 0 rfl) ?_
      refine lv_aload_n hx hb dX1_soonestFlower_10 rfl (lv_at hl 3 rfl) ?_
      refine gf_X1_9 (v := .ref AT_of) hx hb hts hown hK hN hP 0 rfl rfl dX1_soonestFlower_11 ?_
      refine gf_X1_61 (v := .ref AT_of_fl) hx hb hts hown hK hN hP 1 rfl rfl dX1_soonestFlower_14 ?_
      obtain ⟨r_17, hc_17, hm⟩ := ob_s hm
      refine q_ci (q_rv (rest := [.int x4]) ⟨hx, hb, hml, hown, hts⟩ hK hN hP hD (c_X3_size l D cI cZ H.size AT_of_fl AT_of_fl_c 3 vT_of_fl_n r_17 hc_17) mb_X3_size mv_X3_size wl_X1_64 [2] rfl rfl rfl (Nat.le_of_ble_eq_true rfl) (Nat.le_of_ble_eq_true rfl) rfl hl.1 rfl (Nat.le_of_ble_eq_true rfl) ⟨Nat.le_refl 0, Nat.le_refl 0⟩ dX1_soonestFlower_17) hP hD hS hA [2] rfl rfl (fun H locs hP hD hS => ?_)
      have hP : va_P D vwCl (wd_X1_soonestFlower cI cZ AT AT_of AT_tr AT_ga AT_bb AT_fg AT_sg AT_of_sl AT_of_fl AT_of_ro AT_of_nt AT_of_mk AT_of_mo AT_of_fl_c AT_of_sl_c vT_of_ng vT_of_fl_n vT_of_sl_n fT_of_sl_c fT_of_fl_c) H := hP
      have hD : va_D A (wd_X1_soonestFlower cI cZ AT AT_of AT_tr AT_ga AT_bb AT_fg AT_sg AT_of_sl AT_of_fl AT_of_ro AT_of_nt AT_of_mk AT_of_mo AT_of_fl_c AT_of_sl_c vT_of_ng vT_of_fl_n vT_of_sl_n fT_of_sl_c fT_of_fl_c) := hD
      refine lv_icmp_ge (tgt := 56) hx hb dX1_soonestFlower_20 (by decide) (fun c_20 => ?_) (fun c_20 => ?_)
      · have hm := it_s c_20 hm
        refine lv_iload_n hx hb dX1_soonestFlower_56 rfl (lv_at hl 2 rfl) ?_
        have hm := Option.some.inj hm
        subst hm
        exact q_iret (v := x2) hx hb hr hlocks hP hS dX1_soonestFlower_57
      · have hm := it_n c_20 hm
        refine lv_aload_n hx hb dX1_soonestFlower_23 rfl (lv_at hl 3 rfl) ?_
        refine lv_iload_n hx hb dX1_soonestFlower_24 rfl (lv_at hl 4 rfl) ?_
        refine lv_iload hx hb dX1_soonestFlower_25 (lv_at hl 0 rfl) ?_
        obtain ⟨r_27, hc_27, hm⟩ := ob_s hm
        refine q_ci (q_rv (rest := []) ⟨hx, hb, hml, hown, hts⟩ hK hN hP hD (c_X1_nightsTillDone l D cI cZ H.size AT AT_of AT_tr AT_ga AT_bb AT_fg AT_sg AT_of_sl AT_of_fl AT_of_ro AT_of_nt AT_of_mk AT_of_mo AT_of_sl_c AT_of_fl_c vT_of_ng vT_of_sl_n fT_of_sl_c vT_of_fl_n fT_of_fl_c p1 x4 r_27 hc_27) mb_X1_nightsTillDone mv_X1_nightsTillDone wl_X1_68 [0, 1, 3, 4, 2, 5] rfl rfl rfl (Nat.le_of_ble_eq_true rfl) (Nat.le_of_ble_eq_true rfl) rfl hl.1 rfl (Nat.le_of_ble_eq_true rfl) ⟨Nat.le_refl 0, Nat.le_refl 0⟩ dX1_soonestFlower_27) hP hD hS hA [0, 1, 3, 4, 2, 5] rfl rfl (fun H locs hP hD hS => ?_)
        have hP : va_P D vwCl (wd_X1_soonestFlower cI cZ AT AT_of AT_tr AT_ga AT_bb AT_fg AT_sg AT_of_sl AT_of_fl AT_of_ro AT_of_nt AT_of_mk AT_of_mo AT_of_fl_c AT_of_sl_c vT_of_ng vT_of_fl_n vT_of_sl_n fT_of_sl_c fT_of_fl_c) H := hP
        have hD : va_D A (wd_X1_soonestFlower cI cZ AT AT_of AT_tr AT_ga AT_bb AT_fg AT_sg AT_of_sl AT_of_fl AT_of_ro AT_of_nt AT_of_mk AT_of_mo AT_of_fl_c AT_of_sl_c vT_of_ng vT_of_fl_n vT_of_sl_n fT_of_sl_c fT_of_fl_c) := hD
        refine lv_istore (lv' := [(5, .int r_27), (4, .int x4), (3, .int x3), (2, .int x2), (0, .ref AT), (1, .int p1)]) hx hb dX1_soonestFlower_30 hl (by decide) rfl (fun ls hl => ?_)
        refine lv_iload hx hb dX1_soonestFlower_32 (lv_at hl 0 rfl) ?_
        refine lv_iconst (v := (-1)) hx hb dX1_soonestFlower_34 (by decide) ?_
        refine lv_icmp_eq (tgt := 50) hx hb dX1_soonestFlower_35 (by decide) (fun c_35 => ?_) (fun c_35 => ?_)
        · have hm := it_s c_35 hm
          refine lv_iinc (v := (x4 + 1)) (lv' := [(4, .int (x4 + 1)), (5, .int r_27), (3, .int x3), (2, .int x2), (0, .ref AT), (1, .int p1)]) hx hb dX1_soonestFlower_50 hl (k := 1) rfl rfl (by decide) rfl (fun ls hl => ?_)
          refine lv_goto (tgt := 8) hx hb dX1_soonestFlower_53 (by decide) ?_
          exact ih_8 (x4 + 1) x3 x2 H locs ls hm hP hD hS (lv_sub hl [0, 2, 3, 4, 5] rfl)
        · have hm := it_n c_35 hm
          refine lv_iload hx hb dX1_soonestFlower_38 (lv_at hl 0 rfl) ?_
          refine lv_iload_n hx hb dX1_soonestFlower_40 rfl (lv_at hl 2 rfl) ?_
          refine lv_icmp_ge (tgt := 50) hx hb dX1_soonestFlower_41 (by decide) (fun c_41 => ?_) (fun c_41 => ?_)
          · have hm := it_s c_41 hm
            refine lv_iinc (v := (x4 + 1)) (lv' := [(4, .int (x4 + 1)), (5, .int r_27), (3, .int x3), (2, .int x2), (0, .ref AT), (1, .int p1)]) hx hb dX1_soonestFlower_50 hl (k := 1) rfl rfl (by decide) rfl (fun ls hl => ?_)
            refine lv_goto (tgt := 8) hx hb dX1_soonestFlower_53 (by decide) ?_
            exact ih_8 (x4 + 1) x3 x2 H locs ls hm hP hD hS (lv_sub hl [0, 2, 3, 4, 5] rfl)
          · have hm := it_n c_41 hm
            refine lv_iload hx hb dX1_soonestFlower_44 (lv_at hl 0 rfl) ?_
            refine lv_istore_n (lv' := [(3, .int r_27), (5, .int r_27), (4, .int x4), (2, .int x2), (0, .ref AT), (1, .int p1)]) hx hb dX1_soonestFlower_46 rfl hl (by decide) rfl (fun ls hl => ?_)
            refine lv_iload hx hb dX1_soonestFlower_47 (lv_at hl 2 rfl) ?_
            refine lv_istore_n (lv' := [(2, .int x4), (3, .int r_27), (5, .int r_27), (4, .int x4), (0, .ref AT), (1, .int p1)]) hx hb dX1_soonestFlower_49 rfl hl (by decide) rfl (fun ls hl => ?_)
            refine lv_iinc (v := (x4 + 1)) (lv' := [(4, .int (x4 + 1)), (2, .int x4), (3, .int r_27), (5, .int r_27), (0, .ref AT), (1, .int p1)]) hx hb dX1_soonestFlower_50 hl (k := 3) rfl rfl (by decide) rfl (fun ls hl => ?_)
            refine lv_goto (tgt := 8) hx hb dX1_soonestFlower_53 (by decide) ?_
            exact ih_8 (x4 + 1) r_27 x4 H locs ls hm hP hD hS (lv_sub hl [0, 2, 1, 4, 5] rfl)
  unfold fm_X1_soonestFlower at hm
  refine q_gen hS hP ?_
  intro H locs hP hS
  refine lv_iconst (v := (-1)) hx hb dX1_soonestFlower_0 (by decide) ?_
  refine lv_istore_n (lv' := [(2, .int (-1)), (0, .ref AT), (1, .int p1)]) hx hb dX1_soonestFlower_1 rfl hl (by decide) rfl (fun ls hl => ?_)
  refine lv_bipush (v := 61) hx hb dX1_soonestFlower_2 (by decide) ?_
  refine lv_istore_n (lv' := [(3, .int 61), (2, .int (-1)), (0, .ref AT), (1, .int p1)]) hx hb dX1_soonestFlower_4 rfl hl (by decide) rfl (fun ls hl => ?_)
  refine lv_iconst (v := 0) hx hb dX1_soonestFlower_5 (by decide) ?_
  refine lv_istore (lv' := [(4, .int 0), (3, .int 61), (2, .int (-1)), (0, .ref AT), (1, .int p1)]) hx hb dX1_soonestFlower_6 hl (by decide) rfl (fun ls hl => ?_)
  exact hL_8 FU 0 61 (-1) H locs ls hm hP hD hS (lv_sub hl [0, 1, 2, 3, 4] rfl)
theorem mb_X1_believesNothingWith : q_mb yX1_believesNothingWith cX1_believesNothingWith 6 (some .boolean) 2 := ⟨wc_X1_believesNothingWith, wn_X1, by decide, by decide, by decide +kernel⟩
theorem mv_X1_believesNothingWith : q_mv yX1_believesNothingWith 1 := ⟨wi_X1_believesNothingWith, ws_X1_believesNothingWith, _, rfl, rfl⟩
def wd_X1_believesNothingWith (cI cZ : ClassId) (AT AT_of AT_tr AT_ga AT_bb AT_fg AT_sg AT_of_sl AT_of_fl AT_of_ro AT_of_nt AT_of_mk AT_of_mo AT_of_sl_c AT_of_fl_c : Nat) (vT_of_ng : Int32) (vT_of_sl_n : Int32) (fT_of_sl_c : Nat → Int32) (vT_of_fl_n : Int32) (fT_of_fl_c : Nat → Int32) : va_W := [(AT, .inr (1, [.ref AT_of, .ref AT_tr, .ref AT_ga, .ref AT_bb, .ref AT_fg, .ref AT_sg])), (AT_of, .inr (4, [.ref AT_of_sl, .ref AT_of_fl, .ref AT_of_ro, .ref AT_of_nt, .ref AT_of_mk, .ref AT_of_mo, .int vT_of_ng])), (AT_of_sl, .inr (3, [.int 4, .ref AT_of_sl_c, .int vT_of_sl_n])), (AT_of_sl_c, .inl (cI, 24, .inl fT_of_sl_c)), (AT_of_fl, .inr (3, [.int 3, .ref AT_of_fl_c, .int vT_of_fl_n])), (AT_of_fl_c, .inl (cI, 18, .inl fT_of_fl_c))]
def fL_X1_believesNothingWith_16 (p1 : Int32) (p2 : Int32) (vT_of_ng : Int32) (vT_of_sl_n : Int32) (fT_of_sl_c : Nat → Int32) (vT_of_fl_n : Int32) (fT_of_fl_c : Nat → Int32) : Nat → Int32 → Int32 → Option (Int32)
  | 0, _, _ => none
  | fu + 1, x4, x3 => Option.bind (fm_X3_size vT_of_fl_n) (fun r_25 => if r_25 ≤ x4 then (some (1)) else (Option.bind (fm_X3_cell 3 18 x4 2 vT_of_fl_n fT_of_fl_c) (fun r_41 => Option.bind (fm_X1_pillowOf p1 vT_of_sl_n fT_of_sl_c) (fun r_46 => if r_41 = r_46 then (Option.bind (fm_X4_toldBy x4 vT_of_ng vT_of_fl_n fT_of_fl_c) (fun r_78 => Option.bind (fm_X7_belief x3 r_78 p2) (fun r_82 => if r_82 = 0 then (fL_X1_believesNothingWith_16 p1 p2 vT_of_ng vT_of_sl_n fT_of_sl_c vT_of_fl_n fT_of_fl_c fu (x4 + 1) x3) else (some (0))))) else (fL_X1_believesNothingWith_16 p1 p2 vT_of_ng vT_of_sl_n fT_of_sl_c vT_of_fl_n fT_of_fl_c fu (x4 + 1) x3)))))
def fm_X1_believesNothingWith (p1 : Int32) (p2 : Int32) (vT_of_ng : Int32) (vT_of_sl_n : Int32) (fT_of_sl_c : Nat → Int32) (vT_of_fl_n : Int32) (fT_of_fl_c : Nat → Int32) : Option (Int32) := Option.bind (fm_X3_cell 4 24 p1 0 vT_of_sl_n fT_of_sl_c) (fun r_9 => fL_X1_believesNothingWith_16 p1 p2 vT_of_ng vT_of_sl_n fT_of_sl_c vT_of_fl_n fT_of_fl_c FU 0 r_9)
set_option maxHeartbeats 4000000 in
set_option maxRecDepth 100000 in
theorem c_X1_believesNothingWith (l : Launch) (D : va_G) (cI cZ : ClassId) (sz : Nat) (AT AT_of AT_tr AT_ga AT_bb AT_fg AT_sg AT_of_sl AT_of_fl AT_of_ro AT_of_nt AT_of_mk AT_of_mo AT_of_sl_c AT_of_fl_c : Nat) (vT_of_ng : Int32) (vT_of_sl_n : Int32) (fT_of_sl_c : Nat → Int32) (vT_of_fl_n : Int32) (fT_of_fl_c : Nat → Int32) (p1 : Int32) (p2 : Int32) (out : (Int32)) (hm : fm_X1_believesNothingWith p1 p2 vT_of_ng vT_of_sl_n fT_of_sl_c vT_of_fl_n fT_of_fl_c = some out) : Met l yX1_believesNothingWith (Cond.code yX1_believesNothingWith cX1_believesNothingWith 6 (some .boolean) :: bg) { frames := 2, cells := 0, slots := 0, locals := 47 } (va_Pc [.ref AT, .int p1, .int p2] (q_pre D cI cZ sz (wd_X1_believesNothingWith cI cZ AT AT_of AT_tr AT_ga AT_bb AT_fg AT_sg AT_of_sl AT_of_fl AT_of_ro AT_of_nt AT_of_mk AT_of_mo AT_of_sl_c AT_of_fl_c vT_of_ng vT_of_sl_n fT_of_sl_c vT_of_fl_n fT_of_fl_c))) (q_Qi D (wd_X1_believesNothingWith cI cZ AT AT_of AT_tr AT_ga AT_bb AT_fg AT_sg AT_of_sl AT_of_fl AT_of_ro AT_of_nt AT_of_mk AT_of_mo AT_of_sl_c AT_of_fl_c vT_of_ng vT_of_sl_n fT_of_sl_c vT_of_fl_n fT_of_fl_c) out (va_A (wd_X1_believesNothingWith cI cZ AT AT_of AT_tr AT_ga AT_bb AT_fg AT_sg AT_of_sl AT_of_fl AT_of_ro AT_of_nt AT_of_mk AT_of_mo AT_of_sl_c AT_of_fl_c vT_of_ng vT_of_sl_n fT_of_sl_c vT_of_fl_n fT_of_fl_c) sz)) 0 0 (va_A (wd_X1_believesNothingWith cI cZ AT AT_of AT_tr AT_ga AT_bb AT_fg AT_sg AT_of_sl AT_of_fl AT_of_ro AT_of_nt AT_of_mk AT_of_mo AT_of_sl_c AT_of_fl_c vT_of_ng vT_of_sl_n fT_of_sl_c vT_of_fl_n fT_of_fl_c) sz) := by
  refine q_met (fun A => q_Qi D (wd_X1_believesNothingWith cI cZ AT AT_of AT_tr AT_ga AT_bb AT_fg AT_sg AT_of_sl AT_of_fl AT_of_ro AT_of_nt AT_of_mk AT_of_mo AT_of_sl_c AT_of_fl_c vT_of_ng vT_of_sl_n fT_of_sl_c vT_of_fl_n fT_of_fl_c) out A) (by decide) (Nat.le_of_ble_eq_true rfl) ?_
  intro p e s m below meth c ls A hx hb hr hml hown hts hlocks _ hA hS hP hD hK hN hl
  have hown : s.vm.findClass RX1 = some m.cls := hown
  have hl : lv_has ls 6 [(0, .ref AT), (1, .int p1), (2, .int p2)] := hl
  have hL_16 : ∀ (fu_16 : Nat) (x4 : Int32) (x3 : Int32) (H : Heap) (locs : List Loc) (ls : Array Slot), fL_X1_believesNothingWith_16 p1 p2 vT_of_ng vT_of_sl_n fT_of_sl_c vT_of_fl_n fT_of_fl_c fu_16 x4 x3 = some out → va_P D vwCl (wd_X1_believesNothingWith cI cZ AT AT_of AT_tr AT_ga AT_bb AT_fg AT_sg AT_of_sl AT_of_fl AT_of_ro AT_of_nt AT_of_mk AT_of_mo AT_of_sl_c AT_of_fl_c vT_of_ng vT_of_sl_n fT_of_sl_c vT_of_fl_n fT_of_fl_c) H → va_D A (wd_X1_believesNothingWith cI cZ AT AT_of AT_tr AT_ga AT_bb AT_fg AT_sg AT_of_sl AT_of_fl AT_of_ro AT_of_nt AT_of_mk AT_of_mo AT_of_sl_c AT_of_fl_c vT_of_ng vT_of_sl_n fT_of_sl_c vT_of_fl_n fT_of_fl_c) → va_S A s.heap H locs → lv_has ls 6 [(4, .int x4), (3, .int x3), (0, .ref AT), (1, .int p1), (2, .int p2)] → W p l e { frames := 2, cells := 0, slots := 0, locals := 47 } s m ([.ref AT, .int p1, .int p2] : List Value).toArray below meth c H locs 0 0 (MQ below (q_Qi D (wd_X1_believesNothingWith cI cZ AT AT_of AT_tr AT_ga AT_bb AT_fg AT_sg AT_of_sl AT_of_fl AT_of_ro AT_of_nt AT_of_mk AT_of_mo AT_of_sl_c AT_of_fl_c vT_of_ng vT_of_sl_n fT_of_sl_c vT_of_fl_n fT_of_fl_c) out A) ([.ref AT, .int p1, .int p2] : List Value).toArray s 0 0 A) (F0 m 16 ls []) := by
    intro fu_16
    induction fu_16 with
    | zero => intro x4 x3 H locs ls hm hP hD hS hl; exact absurd (show (none : Option (Int32)) = some out from hm) (fun h => nomatch h)
    | succ fu_16 ih_16 =>
      intro x4 x3 H locs ls hm hP hD hS hl
      rw [fL_X1_believesNothingWith_16] at hm
      refine lv_iload hx hb dX1_believesNothingWith_16 (lv_at hl 0 rfl) ?_
      refine lv_aload_n hx hb dX1_believesNothingWith_18 rfl (lv_at hl 2 rfl) ?_
      refine gf_X1_9 (v := .ref AT_of) hx hb hts hown hK hN hP 0 rfl rfl dX1_believesNothingWith_19 ?_
      refine gf_X1_61 (v := .ref AT_of_fl) hx hb hts hown hK hN hP 1 rfl rfl dX1_believesNothingWith_22 ?_
      obtain ⟨r_25, hc_25, hm⟩ := ob_s hm
      refine q_ci (q_rv (rest := [.int x4]) ⟨hx, hb, hml, hown, hts⟩ hK hN hP hD (c_X3_size l D cI cZ H.size AT_of_fl AT_of_fl_c 3 vT_of_fl_n r_25 hc_25) mb_X3_size mv_X3_size wl_X1_64 [4] rfl rfl rfl (Nat.le_of_ble_eq_true rfl) (Nat.le_of_ble_eq_true rfl) rfl hl.1 rfl (Nat.le_of_ble_eq_true rfl) ⟨Nat.le_refl 0, Nat.le_refl 0⟩ dX1_believesNothingWith_25) hP hD hS hA [4] rfl rfl (fun H locs hP hD hS => ?_)
      have hP : va_P D vwCl (wd_X1_believesNothingWith cI cZ AT AT_of AT_tr AT_ga AT_bb AT_fg AT_sg AT_of_sl AT_of_fl AT_of_ro AT_of_nt AT_of_mk AT_of_mo AT_of_sl_c AT_of_fl_c vT_of_ng vT_of_sl_n fT_of_sl_c vT_of_fl_n fT_of_fl_c) H := hP
      have hD : va_D A (wd_X1_believesNothingWith cI cZ AT AT_of AT_tr AT_ga AT_bb AT_fg AT_sg AT_of_sl AT_of_fl AT_of_ro AT_of_nt AT_of_mk AT_of_mo AT_of_sl_c AT_of_fl_c vT_of_ng vT_of_sl_n fT_of_sl_c vT_of_fl_n fT_of_fl_c) := hD
      refine lv_icmp_ge (tgt := 96) hx hb dX1_believesNothingWith_28 (by decide) (fun c_28 => ?_) (fun c_28 => ?_)
      · have hm := it_s c_28 hm
        refine lv_iconst (v := 1) hx hb dX1_believesNothingWith_96 (by decide) ?_
        have hm := Option.some.inj hm
        subst hm
        exact q_zret (v := 1) hx hb hr hlocks rfl hP hS dX1_believesNothingWith_97
      · have hm := it_n c_28 hm
        refine lv_aload_n hx hb dX1_believesNothingWith_31 rfl (lv_at hl 2 rfl) ?_
        refine gf_X1_9 (v := .ref AT_of) hx hb hts hown hK hN hP 0 rfl rfl dX1_believesNothingWith_32 ?_
        refine gf_X1_61 (v := .ref AT_of_fl) hx hb hts hown hK hN hP 1 rfl rfl dX1_believesNothingWith_35 ?_
        refine lv_iload hx hb dX1_believesNothingWith_38 (lv_at hl 0 rfl) ?_
        refine lv_iconst (v := 2) hx hb dX1_believesNothingWith_40 (by decide) ?_
        obtain ⟨r_41, hc_41, hm⟩ := ob_s hm
        refine q_ci (q_rv (rest := []) ⟨hx, hb, hml, hown, hts⟩ hK hN hP hD (c_X3_cell l D cI cZ H.size AT_of_fl AT_of_fl_c 3 18 vT_of_fl_n fT_of_fl_c x4 2 r_41 hc_41) mb_X3_cell mv_X3_cell wl_X1_38 [4, 5] rfl rfl rfl (Nat.le_of_ble_eq_true rfl) (Nat.le_of_ble_eq_true rfl) rfl hl.1 rfl (Nat.le_of_ble_eq_true rfl) ⟨Nat.le_refl 0, Nat.le_refl 0⟩ dX1_believesNothingWith_41) hP hD hS hA [4, 5] rfl rfl (fun H locs hP hD hS => ?_)
        have hP : va_P D vwCl (wd_X1_believesNothingWith cI cZ AT AT_of AT_tr AT_ga AT_bb AT_fg AT_sg AT_of_sl AT_of_fl AT_of_ro AT_of_nt AT_of_mk AT_of_mo AT_of_sl_c AT_of_fl_c vT_of_ng vT_of_sl_n fT_of_sl_c vT_of_fl_n fT_of_fl_c) H := hP
        have hD : va_D A (wd_X1_believesNothingWith cI cZ AT AT_of AT_tr AT_ga AT_bb AT_fg AT_sg AT_of_sl AT_of_fl AT_of_ro AT_of_nt AT_of_mk AT_of_mo AT_of_sl_c AT_of_fl_c vT_of_ng vT_of_sl_n fT_of_sl_c vT_of_fl_n fT_of_fl_c) := hD
        refine lv_aload_n hx hb dX1_believesNothingWith_44 rfl (lv_at hl 2 rfl) ?_
        refine lv_iload_n hx hb dX1_believesNothingWith_45 rfl (lv_at hl 3 rfl) ?_
        obtain ⟨r_46, hc_46, hm⟩ := ob_s hm
        refine q_ci (q_rv (rest := [.int r_41]) ⟨hx, hb, hml, hown, hts⟩ hK hN hP hD (c_X1_pillowOf l D cI cZ H.size AT AT_of AT_tr AT_ga AT_bb AT_fg AT_sg AT_of_sl AT_of_fl AT_of_ro AT_of_nt AT_of_mk AT_of_mo AT_of_sl_c vT_of_ng vT_of_sl_n fT_of_sl_c p1 r_46 hc_46) mb_X1_pillowOf mv_X1_pillowOf wl_X1_44 [0, 1, 2, 3] rfl rfl rfl (Nat.le_of_ble_eq_true rfl) (Nat.le_of_ble_eq_true rfl) rfl hl.1 rfl (Nat.le_of_ble_eq_true rfl) ⟨Nat.le_refl 0, Nat.le_refl 0⟩ dX1_believesNothingWith_46) hP hD hS hA [0, 1, 2, 3] rfl rfl (fun H locs hP hD hS => ?_)
        have hP : va_P D vwCl (wd_X1_believesNothingWith cI cZ AT AT_of AT_tr AT_ga AT_bb AT_fg AT_sg AT_of_sl AT_of_fl AT_of_ro AT_of_nt AT_of_mk AT_of_mo AT_of_sl_c AT_of_fl_c vT_of_ng vT_of_sl_n fT_of_sl_c vT_of_fl_n fT_of_fl_c) H := hP
        have hD : va_D A (wd_X1_believesNothingWith cI cZ AT AT_of AT_tr AT_ga AT_bb AT_fg AT_sg AT_of_sl AT_of_fl AT_of_ro AT_of_nt AT_of_mk AT_of_mo AT_of_sl_c AT_of_fl_c vT_of_ng vT_of_sl_n fT_of_sl_c vT_of_fl_n fT_of_fl_c) := hD
        refine lv_icmp_ne (tgt := 56) hx hb dX1_believesNothingWith_49 (by decide) (fun c_49 => ?_) (fun c_49 => ?_)
        · have hm := it_n c_49 hm
          refine lv_iconst (v := 0) hx hb dX1_believesNothingWith_56 (by decide) ?_
          refine lv_istore (lv' := [(5, .int 0), (4, .int x4), (3, .int x3), (0, .ref AT), (1, .int p1), (2, .int p2)]) hx hb dX1_believesNothingWith_57 hl (by decide) rfl (fun ls hl => ?_)
          refine lv_iload hx hb dX1_believesNothingWith_59 (lv_at hl 0 rfl) ?_
          refine lv_if_eq (tgt := 90) hx hb dX1_believesNothingWith_61 (by decide) (fun _ => ?_) (fun c => absurd c (by decide))
          refine lv_iinc (v := (x4 + 1)) (lv' := [(4, .int (x4 + 1)), (5, .int 0), (3, .int x3), (0, .ref AT), (1, .int p1), (2, .int p2)]) hx hb dX1_believesNothingWith_90 hl (k := 1) rfl rfl (by decide) rfl (fun ls hl => ?_)
          refine lv_goto (tgt := 16) hx hb dX1_believesNothingWith_93 (by decide) ?_
          exact ih_16 (x4 + 1) x3 H locs ls hm hP hD hS (lv_sub hl [0, 2, 3, 4, 5] rfl)
        · have hm := it_s c_49 hm
          refine lv_iconst (v := 1) hx hb dX1_believesNothingWith_52 (by decide) ?_
          refine lv_goto (tgt := 57) hx hb dX1_believesNothingWith_53 (by decide) ?_
          refine lv_istore (lv' := [(5, .int 1), (4, .int x4), (3, .int x3), (0, .ref AT), (1, .int p1), (2, .int p2)]) hx hb dX1_believesNothingWith_57 hl (by decide) rfl (fun ls hl => ?_)
          refine lv_iload hx hb dX1_believesNothingWith_59 (lv_at hl 0 rfl) ?_
          refine lv_if_eq (tgt := 90) hx hb dX1_believesNothingWith_61 (by decide) (fun c => absurd c (by decide)) (fun _ => ?_)
          refine lv_iload_n hx hb dX1_believesNothingWith_64 rfl (lv_at hl 2 rfl) ?_
          refine lv_aload_n hx hb dX1_believesNothingWith_65 rfl (lv_at hl 3 rfl) ?_
          refine gf_X1_9 (v := .ref AT_of) hx hb hts hown hK hN hP 0 rfl rfl dX1_believesNothingWith_66 ?_
          refine lv_iload hx hb dX1_believesNothingWith_69 (lv_at hl 1 rfl) ?_
          refine lv_aload_n hx hb dX1_believesNothingWith_71 rfl (lv_at hl 3 rfl) ?_
          refine gf_X1_9 (v := .ref AT_of) hx hb hts hown hK hN hP 0 rfl rfl dX1_believesNothingWith_72 ?_
          refine gf_X1_48 (v := .int vT_of_ng) hx hb hts hown hK hN hP 1 rfl rfl dX1_believesNothingWith_75 ?_
          obtain ⟨r_78, hc_78, hm⟩ := ob_s hm
          refine q_ci (q_rv (rest := [.int x3]) ⟨hx, hb, hml, hown, hts⟩ hK hN hP hD (c_X4_toldBy l D cI cZ H.size AT_of AT_of_sl AT_of_fl AT_of_ro AT_of_nt AT_of_mk AT_of_mo AT_of_fl_c vT_of_ng vT_of_fl_n fT_of_fl_c x4 vT_of_ng r_78 hc_78) mb_X4_toldBy mv_X4_toldBy wl_X1_75 [1, 4, 5] rfl rfl rfl (Nat.le_of_ble_eq_true rfl) (Nat.le_of_ble_eq_true rfl) rfl hl.1 rfl (Nat.le_of_ble_eq_true rfl) ⟨Nat.le_refl 0, Nat.le_refl 0⟩ dX1_believesNothingWith_78) hP hD hS hA [1, 4, 5] rfl rfl (fun H locs hP hD hS => ?_)
          have hP : va_P D vwCl (wd_X1_believesNothingWith cI cZ AT AT_of AT_tr AT_ga AT_bb AT_fg AT_sg AT_of_sl AT_of_fl AT_of_ro AT_of_nt AT_of_mk AT_of_mo AT_of_sl_c AT_of_fl_c vT_of_ng vT_of_sl_n fT_of_sl_c vT_of_fl_n fT_of_fl_c) H := hP
          have hD : va_D A (wd_X1_believesNothingWith cI cZ AT AT_of AT_tr AT_ga AT_bb AT_fg AT_sg AT_of_sl AT_of_fl AT_of_ro AT_of_nt AT_of_mk AT_of_mo AT_of_sl_c AT_of_fl_c vT_of_ng vT_of_sl_n fT_of_sl_c vT_of_fl_n fT_of_fl_c) := hD
          refine lv_iload_n hx hb dX1_believesNothingWith_81 rfl (lv_at hl 5 rfl) ?_
          obtain ⟨r_82, hc_82, hm⟩ := ob_s hm
          refine q_ci (q_rn (rest := []) ⟨hx, hb, hml, hown, hts⟩ hK hN hP hD (c_X7_belief l D cI cZ H.size x3 r_78 p2 r_82 hc_82) mb_X7_belief wt_X7_belief (nl_X1_78 hN) [] rfl rfl (Nat.le_of_ble_eq_true rfl) (Nat.le_of_ble_eq_true rfl) rfl hl.1 rfl (Nat.le_of_ble_eq_true rfl) ⟨Nat.le_refl 0, Nat.le_refl 0⟩ dX1_believesNothingWith_82) hP hD hS hA [] rfl rfl (fun H locs hP hD hS => ?_)
          have hP : va_P D vwCl (wd_X1_believesNothingWith cI cZ AT AT_of AT_tr AT_ga AT_bb AT_fg AT_sg AT_of_sl AT_of_fl AT_of_ro AT_of_nt AT_of_mk AT_of_mo AT_of_sl_c AT_of_fl_c vT_of_ng vT_of_sl_n fT_of_sl_c vT_of_fl_n fT_of_fl_c) H := hP
          have hD : va_D A (wd_X1_believesNothingWith cI cZ AT AT_of AT_tr AT_ga AT_bb AT_fg AT_sg AT_of_sl AT_of_fl AT_of_ro AT_of_nt AT_of_mk AT_of_mo AT_of_sl_c AT_of_fl_c vT_of_ng vT_of_sl_n fT_of_sl_c vT_of_fl_n fT_of_fl_c) := hD
          refine lv_if_eq (tgt := 90) hx hb dX1_believesNothingWith_85 (by decide) (fun c_85 => ?_) (fun c_85 => ?_)
          · have hm := it_s c_85 hm
            refine lv_iinc (v := (x4 + 1)) (lv' := [(4, .int (x4 + 1)), (5, .int 1), (3, .int x3), (0, .ref AT), (1, .int p1), (2, .int p2)]) hx hb dX1_believesNothingWith_90 hl (k := 1) rfl rfl (by decide) rfl (fun ls hl => ?_)
            refine lv_goto (tgt := 16) hx hb dX1_believesNothingWith_93 (by decide) ?_
            exact ih_16 (x4 + 1) x3 H locs ls hm hP hD hS (lv_sub hl [0, 2, 3, 4, 5] rfl)
          · have hm := it_n c_85 hm
            refine lv_iconst (v := 0) hx hb dX1_believesNothingWith_88 (by decide) ?_
            have hm := Option.some.inj hm
            subst hm
            exact q_zret (v := 0) hx hb hr hlocks rfl hP hS dX1_believesNothingWith_89
  unfold fm_X1_believesNothingWith at hm
  refine q_gen hS hP ?_
  intro H locs hP hS
  refine lv_aload_n hx hb dX1_believesNothingWith_0 rfl (lv_at hl 0 rfl) ?_
  refine gf_X1_9 (v := .ref AT_of) hx hb hts hown hK hN hP 0 rfl rfl dX1_believesNothingWith_1 ?_
  refine gf_X1_34 (v := .ref AT_of_sl) hx hb hts hown hK hN hP 1 rfl rfl dX1_believesNothingWith_4 ?_
  refine lv_iload_n hx hb dX1_believesNothingWith_7 rfl (lv_at hl 1 rfl) ?_
  refine lv_iconst (v := 0) hx hb dX1_believesNothingWith_8 (by decide) ?_
  obtain ⟨r_9, hc_9, hm⟩ := ob_s hm
  refine q_ci (q_rv (rest := []) ⟨hx, hb, hml, hown, hts⟩ hK hN hP hD (c_X3_cell l D cI cZ H.size AT_of_sl AT_of_sl_c 4 24 vT_of_sl_n fT_of_sl_c p1 0 r_9 hc_9) mb_X3_cell mv_X3_cell wl_X1_38 [2, 3] rfl rfl rfl (Nat.le_of_ble_eq_true rfl) (Nat.le_of_ble_eq_true rfl) rfl hl.1 rfl (Nat.le_of_ble_eq_true rfl) ⟨Nat.le_refl 0, Nat.le_refl 0⟩ dX1_believesNothingWith_9) hP hD hS hA [2, 3] rfl rfl (fun H locs hP hD hS => ?_)
  have hP : va_P D vwCl (wd_X1_believesNothingWith cI cZ AT AT_of AT_tr AT_ga AT_bb AT_fg AT_sg AT_of_sl AT_of_fl AT_of_ro AT_of_nt AT_of_mk AT_of_mo AT_of_sl_c AT_of_fl_c vT_of_ng vT_of_sl_n fT_of_sl_c vT_of_fl_n fT_of_fl_c) H := hP
  have hD : va_D A (wd_X1_believesNothingWith cI cZ AT AT_of AT_tr AT_ga AT_bb AT_fg AT_sg AT_of_sl AT_of_fl AT_of_ro AT_of_nt AT_of_mk AT_of_mo AT_of_sl_c AT_of_fl_c vT_of_ng vT_of_sl_n fT_of_sl_c vT_of_fl_n fT_of_fl_c) := hD
  refine lv_istore_n (lv' := [(3, .int r_9), (0, .ref AT), (1, .int p1), (2, .int p2)]) hx hb dX1_believesNothingWith_12 rfl hl (by decide) rfl (fun ls hl => ?_)
  refine lv_iconst (v := 0) hx hb dX1_believesNothingWith_13 (by decide) ?_
  refine lv_istore (lv' := [(4, .int 0), (3, .int r_9), (0, .ref AT), (1, .int p1), (2, .int p2)]) hx hb dX1_believesNothingWith_14 hl (by decide) rfl (fun ls hl => ?_)
  exact hL_16 FU 0 r_9 H locs ls hm hP hD hS (lv_sub hl [0, 1, 2, 3, 4] rfl)
theorem mb_X1_leastWool : q_mb yX1_leastWool cX1_leastWool 3 (some .int) 1 := ⟨wc_X1_leastWool, wn_X1, by decide, by decide, by decide +kernel⟩
theorem mv_X1_leastWool : q_mv yX1_leastWool 1 := ⟨wi_X1_leastWool, ws_X1_leastWool, _, rfl, rfl⟩
def wd_X1_leastWool (cI cZ : ClassId) (AT AT_of AT_tr AT_ga AT_bb AT_fg AT_sg AT_of_sl AT_of_fl AT_of_ro AT_of_nt AT_of_mk AT_of_mo AT_of_sl_c AT_of_fl_c : Nat) (vT_of_ng : Int32) (vT_of_sl_n : Int32) (fT_of_sl_c : Nat → Int32) (vT_of_fl_n : Int32) (fT_of_fl_c : Nat → Int32) : va_W := [(AT, .inr (1, [.ref AT_of, .ref AT_tr, .ref AT_ga, .ref AT_bb, .ref AT_fg, .ref AT_sg])), (AT_of, .inr (4, [.ref AT_of_sl, .ref AT_of_fl, .ref AT_of_ro, .ref AT_of_nt, .ref AT_of_mk, .ref AT_of_mo, .int vT_of_ng])), (AT_of_sl, .inr (3, [.int 4, .ref AT_of_sl_c, .int vT_of_sl_n])), (AT_of_sl_c, .inl (cI, 24, .inl fT_of_sl_c)), (AT_of_fl, .inr (3, [.int 3, .ref AT_of_fl_c, .int vT_of_fl_n])), (AT_of_fl_c, .inl (cI, 18, .inl fT_of_fl_c))]
def fL_X1_leastWool_2 (p1 : Int32) (vT_of_ng : Int32) (vT_of_sl_n : Int32) (fT_of_sl_c : Nat → Int32) (vT_of_fl_n : Int32) (fT_of_fl_c : Nat → Int32) : Nat → Int32 → Option (Int32)
  | 0, _ => none
  | fu + 1, x2 => if 9 < x2 then (some ((-1))) else (Option.bind (fm_X1_believesNothingWith p1 x2 vT_of_ng vT_of_sl_n fT_of_sl_c vT_of_fl_n fT_of_fl_c) (fun r_11 => if r_11 = 0 then (fL_X1_leastWool_2 p1 vT_of_ng vT_of_sl_n fT_of_sl_c vT_of_fl_n fT_of_fl_c fu (x2 + 1)) else (some (x2))))
def fm_X1_leastWool (p1 : Int32) (vT_of_ng : Int32) (vT_of_sl_n : Int32) (fT_of_sl_c : Nat → Int32) (vT_of_fl_n : Int32) (fT_of_fl_c : Nat → Int32) : Option (Int32) := fL_X1_leastWool_2 p1 vT_of_ng vT_of_sl_n fT_of_sl_c vT_of_fl_n fT_of_fl_c FU 0
set_option maxHeartbeats 4000000 in
set_option maxRecDepth 100000 in
theorem c_X1_leastWool (l : Launch) (D : va_G) (cI cZ : ClassId) (sz : Nat) (AT AT_of AT_tr AT_ga AT_bb AT_fg AT_sg AT_of_sl AT_of_fl AT_of_ro AT_of_nt AT_of_mk AT_of_mo AT_of_sl_c AT_of_fl_c : Nat) (vT_of_ng : Int32) (vT_of_sl_n : Int32) (fT_of_sl_c : Nat → Int32) (vT_of_fl_n : Int32) (fT_of_fl_c : Nat → Int32) (p1 : Int32) (out : (Int32)) (hm : fm_X1_leastWool p1 vT_of_ng vT_of_sl_n fT_of_sl_c vT_of_fl_n fT_of_fl_c = some out) : Met l yX1_leastWool (Cond.code yX1_leastWool cX1_leastWool 3 (some .int) :: bg) { frames := 3, cells := 0, slots := 0, locals := 72 } (va_Pc [.ref AT, .int p1] (q_pre D cI cZ sz (wd_X1_leastWool cI cZ AT AT_of AT_tr AT_ga AT_bb AT_fg AT_sg AT_of_sl AT_of_fl AT_of_ro AT_of_nt AT_of_mk AT_of_mo AT_of_sl_c AT_of_fl_c vT_of_ng vT_of_sl_n fT_of_sl_c vT_of_fl_n fT_of_fl_c))) (q_Qi D (wd_X1_leastWool cI cZ AT AT_of AT_tr AT_ga AT_bb AT_fg AT_sg AT_of_sl AT_of_fl AT_of_ro AT_of_nt AT_of_mk AT_of_mo AT_of_sl_c AT_of_fl_c vT_of_ng vT_of_sl_n fT_of_sl_c vT_of_fl_n fT_of_fl_c) out (va_A (wd_X1_leastWool cI cZ AT AT_of AT_tr AT_ga AT_bb AT_fg AT_sg AT_of_sl AT_of_fl AT_of_ro AT_of_nt AT_of_mk AT_of_mo AT_of_sl_c AT_of_fl_c vT_of_ng vT_of_sl_n fT_of_sl_c vT_of_fl_n fT_of_fl_c) sz)) 0 0 (va_A (wd_X1_leastWool cI cZ AT AT_of AT_tr AT_ga AT_bb AT_fg AT_sg AT_of_sl AT_of_fl AT_of_ro AT_of_nt AT_of_mk AT_of_mo AT_of_sl_c AT_of_fl_c vT_of_ng vT_of_sl_n fT_of_sl_c vT_of_fl_n fT_of_fl_c) sz) := by
  refine q_met (fun A => q_Qi D (wd_X1_leastWool cI cZ AT AT_of AT_tr AT_ga AT_bb AT_fg AT_sg AT_of_sl AT_of_fl AT_of_ro AT_of_nt AT_of_mk AT_of_mo AT_of_sl_c AT_of_fl_c vT_of_ng vT_of_sl_n fT_of_sl_c vT_of_fl_n fT_of_fl_c) out A) (by decide) (Nat.le_of_ble_eq_true rfl) ?_
  intro p e s m below meth c ls A hx hb hr hml hown hts hlocks _ hA hS hP hD hK hN hl
  have hown : s.vm.findClass RX1 = some m.cls := hown
  have hl : lv_has ls 3 [(0, .ref AT), (1, .int p1)] := hl
  have hL_2 : ∀ (fu_2 : Nat) (x2 : Int32) (H : Heap) (locs : List Loc) (ls : Array Slot), fL_X1_leastWool_2 p1 vT_of_ng vT_of_sl_n fT_of_sl_c vT_of_fl_n fT_of_fl_c fu_2 x2 = some out → va_P D vwCl (wd_X1_leastWool cI cZ AT AT_of AT_tr AT_ga AT_bb AT_fg AT_sg AT_of_sl AT_of_fl AT_of_ro AT_of_nt AT_of_mk AT_of_mo AT_of_sl_c AT_of_fl_c vT_of_ng vT_of_sl_n fT_of_sl_c vT_of_fl_n fT_of_fl_c) H → va_D A (wd_X1_leastWool cI cZ AT AT_of AT_tr AT_ga AT_bb AT_fg AT_sg AT_of_sl AT_of_fl AT_of_ro AT_of_nt AT_of_mk AT_of_mo AT_of_sl_c AT_of_fl_c vT_of_ng vT_of_sl_n fT_of_sl_c vT_of_fl_n fT_of_fl_c) → va_S A s.heap H locs → lv_has ls 3 [(2, .int x2), (0, .ref AT), (1, .int p1)] → W p l e { frames := 3, cells := 0, slots := 0, locals := 72 } s m ([.ref AT, .int p1] : List Value).toArray below meth c H locs 0 0 (MQ below (q_Qi D (wd_X1_leastWool cI cZ AT AT_of AT_tr AT_ga AT_bb AT_fg AT_sg AT_of_sl AT_of_fl AT_of_ro AT_of_nt AT_of_mk AT_of_mo AT_of_sl_c AT_of_fl_c vT_of_ng vT_of_sl_n fT_of_sl_c vT_of_fl_n fT_of_fl_c) out A) ([.ref AT, .int p1] : List Value).toArray s 0 0 A) (F0 m 2 ls []) := by
    intro fu_2
    induction fu_2 with
    | zero => intro x2 H locs ls hm hP hD hS hl; exact absurd (show (none : Option (Int32)) = some out from hm) (fun h => nomatch h)
    | succ fu_2 ih_2 =>
      intro x2 H locs ls hm hP hD hS hl
      rw [fL_X1_leastWool_2] at hm
      refine lv_iload_n hx hb dX1_leastWool_2 rfl (lv_at hl 0 rfl) ?_
      refine lv_bipush (v := 9) hx hb dX1_leastWool_3 (by decide) ?_
      refine lv_icmp_gt (tgt := 25) hx hb dX1_leastWool_5 (by decide) (fun c_5 => ?_) (fun c_5 => ?_)
      · have hm := it_s c_5 hm
        refine lv_iconst (v := (-1)) hx hb dX1_leastWool_25 (by decide) ?_
        have hm := Option.some.inj hm
        subst hm
        exact q_iret (v := (-1)) hx hb hr hlocks hP hS dX1_leastWool_26
      · have hm := it_n c_5 hm
        refine lv_aload_n hx hb dX1_leastWool_8 rfl (lv_at hl 1 rfl) ?_
        refine lv_iload_n hx hb dX1_leastWool_9 rfl (lv_at hl 2 rfl) ?_
        refine lv_iload_n hx hb dX1_leastWool_10 rfl (lv_at hl 0 rfl) ?_
        obtain ⟨r_11, hc_11, hm⟩ := ob_s hm
        refine q_ci (q_rv (rest := []) ⟨hx, hb, hml, hown, hts⟩ hK hN hP hD (c_X1_believesNothingWith l D cI cZ H.size AT AT_of AT_tr AT_ga AT_bb AT_fg AT_sg AT_of_sl AT_of_fl AT_of_ro AT_of_nt AT_of_mk AT_of_mo AT_of_sl_c AT_of_fl_c vT_of_ng vT_of_sl_n fT_of_sl_c vT_of_fl_n fT_of_fl_c p1 x2 r_11 hc_11) mb_X1_believesNothingWith mv_X1_believesNothingWith wl_X1_71 [0, 1, 2, 3, 4, 5] rfl rfl rfl (Nat.le_of_ble_eq_true rfl) (Nat.le_of_ble_eq_true rfl) rfl hl.1 rfl (Nat.le_of_ble_eq_true rfl) ⟨Nat.le_refl 0, Nat.le_refl 0⟩ dX1_leastWool_11) hP hD hS hA [0, 1, 2, 3, 4, 5] rfl rfl (fun H locs hP hD hS => ?_)
        have hP : va_P D vwCl (wd_X1_leastWool cI cZ AT AT_of AT_tr AT_ga AT_bb AT_fg AT_sg AT_of_sl AT_of_fl AT_of_ro AT_of_nt AT_of_mk AT_of_mo AT_of_sl_c AT_of_fl_c vT_of_ng vT_of_sl_n fT_of_sl_c vT_of_fl_n fT_of_fl_c) H := hP
        have hD : va_D A (wd_X1_leastWool cI cZ AT AT_of AT_tr AT_ga AT_bb AT_fg AT_sg AT_of_sl AT_of_fl AT_of_ro AT_of_nt AT_of_mk AT_of_mo AT_of_sl_c AT_of_fl_c vT_of_ng vT_of_sl_n fT_of_sl_c vT_of_fl_n fT_of_fl_c) := hD
        refine lv_if_eq (tgt := 19) hx hb dX1_leastWool_14 (by decide) (fun c_14 => ?_) (fun c_14 => ?_)
        · have hm := it_s c_14 hm
          refine lv_iinc (v := (x2 + 1)) (lv' := [(2, .int (x2 + 1)), (0, .ref AT), (1, .int p1)]) hx hb dX1_leastWool_19 hl (k := 0) rfl rfl (by decide) rfl (fun ls hl => ?_)
          refine lv_goto (tgt := 2) hx hb dX1_leastWool_22 (by decide) ?_
          exact ih_2 (x2 + 1) H locs ls hm hP hD hS (lv_sub hl [0, 1, 2] rfl)
        · have hm := it_n c_14 hm
          refine lv_iload_n hx hb dX1_leastWool_17 rfl (lv_at hl 0 rfl) ?_
          have hm := Option.some.inj hm
          subst hm
          exact q_iret (v := x2) hx hb hr hlocks hP hS dX1_leastWool_18
  unfold fm_X1_leastWool at hm
  refine q_gen hS hP ?_
  intro H locs hP hS
  refine lv_iconst (v := 0) hx hb dX1_leastWool_0 (by decide) ?_
  refine lv_istore_n (lv' := [(2, .int 0), (0, .ref AT), (1, .int p1)]) hx hb dX1_leastWool_1 rfl hl (by decide) rfl (fun ls hl => ?_)
  exact hL_2 FU 0 H locs ls hm hP hD hS (lv_sub hl [0, 1, 2] rfl)
theorem gf_X1_21 {p : Program} {l : Launch} {e : Env} {R : Room} {s : State} {m : MethodId} {args : Array Value} {below : List Frame} {meth : Method} {c : Code} {H : Heap} {locs : List Loc} {cells slots : Nat} {Q : State → Prop} {pc : Nat} {ls : Array Slot} {cc : ByteArray} {D : va_G} {cI cZ : ClassId} {ws : va_W} {a : Nat} {rest fs : List Value} (hx : p.tables.exec = Jvm.exec) (hb : c.code = cc) (hts : ∀ w ∈ bg, w.before args s = true) (hown : s.vm.findClass RX1 = some m.cls) (hK : va_K D vwCl (q_tys cI cZ) s) (hN : q_N s) (hP : va_P D vwCl ws H) (q0 : Nat) (he : ws[q0]? = some (a, .inr (1, fs))) {v : Value} (hv : fs[2]? = some v) (hdg : decode cc pc = .ok (.getfield 21, 3)) (kk : W p l e R s m args below meth c H locs cells slots Q (F0 m (pc + 3) ls (v :: rest))) : W p l e R s m args below meth c H locs cells slots Q (F0 m pc ls (.ref a :: rest)) :=
  va_get (C := RX1) (T := TX1) (N := 6) hx hb hts wu_X1 hown hK hP q0 he rfl 2 (by decide) (hts _ wf_X1_21) (fun _ h9 => h9) hv hdg kk
theorem gf_X1_25 {p : Program} {l : Launch} {e : Env} {R : Room} {s : State} {m : MethodId} {args : Array Value} {below : List Frame} {meth : Method} {c : Code} {H : Heap} {locs : List Loc} {cells slots : Nat} {Q : State → Prop} {pc : Nat} {ls : Array Slot} {cc : ByteArray} {D : va_G} {cI cZ : ClassId} {ws : va_W} {a : Nat} {rest fs : List Value} (hx : p.tables.exec = Jvm.exec) (hb : c.code = cc) (hts : ∀ w ∈ bg, w.before args s = true) (hown : s.vm.findClass RX1 = some m.cls) (hK : va_K D vwCl (q_tys cI cZ) s) (hN : q_N s) (hP : va_P D vwCl ws H) (q0 : Nat) (he : ws[q0]? = some (a, .inr (1, fs))) {v : Value} (hv : fs[3]? = some v) (hdg : decode cc pc = .ok (.getfield 25, 3)) (kk : W p l e R s m args below meth c H locs cells slots Q (F0 m (pc + 3) ls (v :: rest))) : W p l e R s m args below meth c H locs cells slots Q (F0 m pc ls (.ref a :: rest)) :=
  va_get (C := RX1) (T := TX1) (N := 6) hx hb hts wu_X1 hown hK hP q0 he rfl 3 (by decide) (hts _ wf_X1_25) (fun _ h9 => h9) hv hdg kk
theorem mb_X1_addedOn : q_mb yX1_addedOn cX1_addedOn 4 (some .int) 2 := ⟨wc_X1_addedOn, wn_X1, by decide, by decide, by decide +kernel⟩
theorem mv_X1_addedOn : q_mv yX1_addedOn 1 := ⟨wi_X1_addedOn, ws_X1_addedOn, _, rfl, rfl⟩
def wd_X1_addedOn (cI cZ : ClassId) (AT AT_of AT_tr AT_ga AT_bb AT_fg AT_sg : Nat) (fT_ga : Nat → Int32) (fT_bb : Nat → Int32) : va_W := [(AT, .inr (1, [.ref AT_of, .ref AT_tr, .ref AT_ga, .ref AT_bb, .ref AT_fg, .ref AT_sg])), (AT_ga, .inl (cI, 36, .inl fT_ga)), (AT_bb, .inl (cI, 64, .inl fT_bb))]
def fm_X1_addedOn (p1 : Int32) (p2 : Int32) (fT_ga : Nat → Int32) (fT_bb : Nat → Int32) : Option (Int32) := Option.bind (fm_J6_bitCount_0f7a4 p1) (fun r_1 => Option.bind (fm_X7_at 36 ((r_1 * 6) + p2) fT_ga) (fun r_15 => Option.bind (fm_X7_at 64 (p1 ||| (1 <<< (p2 &&& 31))) fT_bb) (fun r_27 => some ((r_15 + r_27)))))
set_option maxHeartbeats 4000000 in
set_option maxRecDepth 100000 in
theorem c_X1_addedOn (l : Launch) (D : va_G) (cI cZ : ClassId) (sz : Nat) (AT AT_of AT_tr AT_ga AT_bb AT_fg AT_sg : Nat) (fT_ga : Nat → Int32) (fT_bb : Nat → Int32) (p1 : Int32) (p2 : Int32) (out : (Int32)) (hm : fm_X1_addedOn p1 p2 fT_ga fT_bb = some out) : Met l yX1_addedOn (Cond.code yX1_addedOn cX1_addedOn 4 (some .int) :: bg) { frames := 1, cells := 0, slots := 0, locals := 21 } (va_Pc [.ref AT, .int p1, .int p2] (q_pre D cI cZ sz (wd_X1_addedOn cI cZ AT AT_of AT_tr AT_ga AT_bb AT_fg AT_sg fT_ga fT_bb))) (q_Qi D (wd_X1_addedOn cI cZ AT AT_of AT_tr AT_ga AT_bb AT_fg AT_sg fT_ga fT_bb) out (va_A (wd_X1_addedOn cI cZ AT AT_of AT_tr AT_ga AT_bb AT_fg AT_sg fT_ga fT_bb) sz)) 0 0 (va_A (wd_X1_addedOn cI cZ AT AT_of AT_tr AT_ga AT_bb AT_fg AT_sg fT_ga fT_bb) sz) := by
  refine q_met (fun A => q_Qi D (wd_X1_addedOn cI cZ AT AT_of AT_tr AT_ga AT_bb AT_fg AT_sg fT_ga fT_bb) out A) (by decide) (Nat.le_of_ble_eq_true rfl) ?_
  intro p e s m below meth c ls A hx hb hr hml hown hts hlocks _ hA hS hP hD hK hN hl
  have hown : s.vm.findClass RX1 = some m.cls := hown
  have hl : lv_has ls 4 [(0, .ref AT), (1, .int p1), (2, .int p2)] := hl
  unfold fm_X1_addedOn at hm
  refine q_gen hS hP ?_
  intro H locs hP hS
  refine lv_iload_n hx hb dX1_addedOn_0 rfl (lv_at hl 1 rfl) ?_
  obtain ⟨r_1, hc_1, hm⟩ := ob_s hm
  refine q_ci (q_rs (rest := []) ⟨hx, hb, hml, hown, hts⟩ hK hN hP hD (c_J6_bitCount_0f7a4 l D cI cZ H.size p1 r_1 hc_1) mb_J6_bitCount_0f7a4 wt_J6_bitCount_0f7a4 wl_X1_100 [] rfl rfl (Nat.le_of_ble_eq_true rfl) (Nat.le_of_ble_eq_true rfl) rfl hl.1 rfl (Nat.le_of_ble_eq_true rfl) ⟨Nat.le_refl 0, Nat.le_refl 0⟩ dX1_addedOn_1) hP hD hS hA [] rfl rfl (fun H locs hP hD hS => ?_)
  have hP : va_P D vwCl (wd_X1_addedOn cI cZ AT AT_of AT_tr AT_ga AT_bb AT_fg AT_sg fT_ga fT_bb) H := hP
  have hD : va_D A (wd_X1_addedOn cI cZ AT AT_of AT_tr AT_ga AT_bb AT_fg AT_sg fT_ga fT_bb) := hD
  refine lv_istore_n (lv' := [(3, .int r_1), (0, .ref AT), (1, .int p1), (2, .int p2)]) hx hb dX1_addedOn_4 rfl hl (by decide) rfl (fun ls hl => ?_)
  refine lv_aload_n hx hb dX1_addedOn_5 rfl (lv_at hl 1 rfl) ?_
  refine gf_X1_21 (v := .ref AT_ga) hx hb hts hown hK hN hP 0 rfl rfl dX1_addedOn_6 ?_
  refine lv_iload_n hx hb dX1_addedOn_9 rfl (lv_at hl 0 rfl) ?_
  refine lv_bipush (v := 6) hx hb dX1_addedOn_10 (by decide) ?_
  refine lv_imul hx hb dX1_addedOn_12 ?_
  refine lv_iload_n hx hb dX1_addedOn_13 rfl (lv_at hl 3 rfl) ?_
  refine lv_iadd hx hb dX1_addedOn_14 ?_
  obtain ⟨r_15, hc_15, hm⟩ := ob_s hm
  refine q_ci (q_rn (rest := []) ⟨hx, hb, hml, hown, hts⟩ hK hN hP hD (c_X7_at l D cI cZ H.size AT_ga 36 fT_ga ((r_1 * 6) + p2) r_15 hc_15) mb_X7_at wt_X7_at (nl_X1_93 hN) [1] rfl rfl (Nat.le_of_ble_eq_true rfl) (Nat.le_of_ble_eq_true rfl) rfl hl.1 rfl (Nat.le_of_ble_eq_true rfl) ⟨Nat.le_refl 0, Nat.le_refl 0⟩ dX1_addedOn_15) hP hD hS hA [1] rfl rfl (fun H locs hP hD hS => ?_)
  have hP : va_P D vwCl (wd_X1_addedOn cI cZ AT AT_of AT_tr AT_ga AT_bb AT_fg AT_sg fT_ga fT_bb) H := hP
  have hD : va_D A (wd_X1_addedOn cI cZ AT AT_of AT_tr AT_ga AT_bb AT_fg AT_sg fT_ga fT_bb) := hD
  refine lv_aload_n hx hb dX1_addedOn_18 rfl (lv_at hl 1 rfl) ?_
  refine gf_X1_25 (v := .ref AT_bb) hx hb hts hown hK hN hP 0 rfl rfl dX1_addedOn_19 ?_
  refine lv_iload_n hx hb dX1_addedOn_22 rfl (lv_at hl 2 rfl) ?_
  refine lv_iconst (v := 1) hx hb dX1_addedOn_23 (by decide) ?_
  refine lv_iload_n hx hb dX1_addedOn_24 rfl (lv_at hl 3 rfl) ?_
  refine lv_ishl hx hb dX1_addedOn_25 ?_
  refine lv_ior hx hb dX1_addedOn_26 ?_
  obtain ⟨r_27, hc_27, hm⟩ := ob_s hm
  refine q_ci (q_rn (rest := [.int r_15]) ⟨hx, hb, hml, hown, hts⟩ hK hN hP hD (c_X7_at l D cI cZ H.size AT_bb 64 fT_bb (p1 ||| (1 <<< (p2 &&& 31))) r_27 hc_27) mb_X7_at wt_X7_at (nl_X1_93 hN) [2] rfl rfl (Nat.le_of_ble_eq_true rfl) (Nat.le_of_ble_eq_true rfl) rfl hl.1 rfl (Nat.le_of_ble_eq_true rfl) ⟨Nat.le_refl 0, Nat.le_refl 0⟩ dX1_addedOn_27) hP hD hS hA [2] rfl rfl (fun H locs hP hD hS => ?_)
  have hP : va_P D vwCl (wd_X1_addedOn cI cZ AT AT_of AT_tr AT_ga AT_bb AT_fg AT_sg fT_ga fT_bb) H := hP
  have hD : va_D A (wd_X1_addedOn cI cZ AT AT_of AT_tr AT_ga AT_bb AT_fg AT_sg fT_ga fT_bb) := hD
  refine lv_iadd hx hb dX1_addedOn_30 ?_
  have hm := Option.some.inj hm
  subst hm
  exact q_iret (v := (r_15 + r_27)) hx hb hr hlocks hP hS dX1_addedOn_31
theorem mb_X1_bestAdded : q_mb yX1_bestAdded cX1_bestAdded 7 (some .int) 2 := ⟨wc_X1_bestAdded, wn_X1, by decide, by decide, by decide +kernel⟩
theorem mv_X1_bestAdded : q_mv yX1_bestAdded 1 := ⟨wi_X1_bestAdded, ws_X1_bestAdded, _, rfl, rfl⟩
def wd_X1_bestAdded (cI cZ : ClassId) (AT AT_of AT_tr AT_ga AT_bb AT_fg AT_sg AT_of_sl AT_of_fl AT_of_ro AT_of_nt AT_of_mk AT_of_mo AT_of_sl_c : Nat) (vT_of_ng : Int32) (vT_of_sl_n : Int32) (fT_ga : Nat → Int32) (fT_bb : Nat → Int32) : va_W := [(AT, .inr (1, [.ref AT_of, .ref AT_tr, .ref AT_ga, .ref AT_bb, .ref AT_fg, .ref AT_sg])), (AT_of, .inr (4, [.ref AT_of_sl, .ref AT_of_fl, .ref AT_of_ro, .ref AT_of_nt, .ref AT_of_mk, .ref AT_of_mo, .int vT_of_ng])), (AT_of_sl, .inr (3, [.int 4, .ref AT_of_sl_c, .int vT_of_sl_n])), (AT_ga, .inl (cI, 36, .inl fT_ga)), (AT_bb, .inl (cI, 64, .inl fT_bb))]
def fL_X1_bestAdded_27 (p1 : Int32) (p2 : Int32) (vT_of_sl_n : Int32) (fT_ga : Nat → Int32) (fT_bb : Nat → Int32) : Nat → Int32 → Int32 → Int32 → Option (Int32)
  | 0, _, _, _ => none
  | fu + 1, x5, x4, x3 => if 6 ≤ x5 then (some (x4)) else (Option.bind (fm_X7_holds p1 x5) (fun r_37 => if r_37 = 0 then (Option.bind (fm_X1_addedOn p1 x5 fT_ga fT_bb) (fun r_47 => if x3 = 0 then (fL_X1_bestAdded_27 p1 p2 vT_of_sl_n fT_ga fT_bb fu (x5 + 1) r_47 1) else (if p2 = 0 then (if x4 ≤ r_47 then (fL_X1_bestAdded_27 p1 p2 vT_of_sl_n fT_ga fT_bb fu (x5 + 1) x4 x3) else (fL_X1_bestAdded_27 p1 p2 vT_of_sl_n fT_ga fT_bb fu (x5 + 1) r_47 1)) else (if r_47 ≤ x4 then (fL_X1_bestAdded_27 p1 p2 vT_of_sl_n fT_ga fT_bb fu (x5 + 1) x4 x3) else (fL_X1_bestAdded_27 p1 p2 vT_of_sl_n fT_ga fT_bb fu (x5 + 1) r_47 1))))) else (fL_X1_bestAdded_27 p1 p2 vT_of_sl_n fT_ga fT_bb fu (x5 + 1) x4 x3)))
def fm_X1_bestAdded (p1 : Int32) (p2 : Int32) (vT_of_sl_n : Int32) (fT_ga : Nat → Int32) (fT_bb : Nat → Int32) : Option (Int32) := Option.bind (fm_J6_bitCount_0f7a4 p1) (fun r_1 => Option.bind (fm_X3_size vT_of_sl_n) (fun r_11 => if r_1 < r_11 then (fL_X1_bestAdded_27 p1 p2 vT_of_sl_n fT_ga fT_bb FU 0 0 0) else (some (0))))
set_option maxHeartbeats 4000000 in
set_option maxRecDepth 100000 in
theorem c_X1_bestAdded (l : Launch) (D : va_G) (cI cZ : ClassId) (sz : Nat) (AT AT_of AT_tr AT_ga AT_bb AT_fg AT_sg AT_of_sl AT_of_fl AT_of_ro AT_of_nt AT_of_mk AT_of_mo AT_of_sl_c : Nat) (vT_of_ng : Int32) (vT_of_sl_n : Int32) (fT_ga : Nat → Int32) (fT_bb : Nat → Int32) (p1 : Int32) (p2 : Int32) (out : (Int32)) (hm : fm_X1_bestAdded p1 p2 vT_of_sl_n fT_ga fT_bb = some out) : Met l yX1_bestAdded (Cond.code yX1_bestAdded cX1_bestAdded 7 (some .int) :: bg) { frames := 2, cells := 0, slots := 0, locals := 44 } (va_Pc [.ref AT, .int p1, .int p2] (q_pre D cI cZ sz (wd_X1_bestAdded cI cZ AT AT_of AT_tr AT_ga AT_bb AT_fg AT_sg AT_of_sl AT_of_fl AT_of_ro AT_of_nt AT_of_mk AT_of_mo AT_of_sl_c vT_of_ng vT_of_sl_n fT_ga fT_bb))) (q_Qi D (wd_X1_bestAdded cI cZ AT AT_of AT_tr AT_ga AT_bb AT_fg AT_sg AT_of_sl AT_of_fl AT_of_ro AT_of_nt AT_of_mk AT_of_mo AT_of_sl_c vT_of_ng vT_of_sl_n fT_ga fT_bb) out (va_A (wd_X1_bestAdded cI cZ AT AT_of AT_tr AT_ga AT_bb AT_fg AT_sg AT_of_sl AT_of_fl AT_of_ro AT_of_nt AT_of_mk AT_of_mo AT_of_sl_c vT_of_ng vT_of_sl_n fT_ga fT_bb) sz)) 0 0 (va_A (wd_X1_bestAdded cI cZ AT AT_of AT_tr AT_ga AT_bb AT_fg AT_sg AT_of_sl AT_of_fl AT_of_ro AT_of_nt AT_of_mk AT_of_mo AT_of_sl_c vT_of_ng vT_of_sl_n fT_ga fT_bb) sz) := by
  refine q_met (fun A => q_Qi D (wd_X1_bestAdded cI cZ AT AT_of AT_tr AT_ga AT_bb AT_fg AT_sg AT_of_sl AT_of_fl AT_of_ro AT_of_nt AT_of_mk AT_of_mo AT_of_sl_c vT_of_ng vT_of_sl_n fT_ga fT_bb) out A) (by decide) (Nat.le_of_ble_eq_true rfl) ?_
  intro p e s m below meth c ls A hx hb hr hml hown hts hlocks _ hA hS hP hD hK hN hl
  have hown : s.vm.findClass RX1 = some m.cls := hown
  have hl : lv_has ls 7 [(0, .ref AT), (1, .int p1), (2, .int p2)] := hl
  have hL_27 : ∀ (fu_27 : Nat) (x5 : Int32) (x4 : Int32) (x3 : Int32) (H : Heap) (locs : List Loc) (ls : Array Slot), fL_X1_bestAdded_27 p1 p2 vT_of_sl_n fT_ga fT_bb fu_27 x5 x4 x3 = some out → va_P D vwCl (wd_X1_bestAdded cI cZ AT AT_of AT_tr AT_ga AT_bb AT_fg AT_sg AT_of_sl AT_of_fl AT_of_ro AT_of_nt AT_of_mk AT_of_mo AT_of_sl_c vT_of_ng vT_of_sl_n fT_ga fT_bb) H → va_D A (wd_X1_bestAdded cI cZ AT AT_of AT_tr AT_ga AT_bb AT_fg AT_sg AT_of_sl AT_of_fl AT_of_ro AT_of_nt AT_of_mk AT_of_mo AT_of_sl_c vT_of_ng vT_of_sl_n fT_ga fT_bb) → va_S A s.heap H locs → lv_has ls 7 [(5, .int x5), (4, .int x4), (3, .int x3), (0, .ref AT), (1, .int p1), (2, .int p2)] → W p l e { frames := 2, cells := 0, slots := 0, locals := 44 } s m ([.ref AT, .int p1, .int p2] : List Value).toArray below meth c H locs 0 0 (MQ below (q_Qi D (wd_X1_bestAdded cI cZ AT AT_of AT_tr AT_ga AT_bb AT_fg AT_sg AT_of_sl AT_of_fl AT_of_ro AT_of_nt AT_of_mk AT_of_mo AT_of_sl_c vT_of_ng vT_of_sl_n fT_ga fT_bb) out A) ([.ref AT, .int p1, .int p2] : List Value).toArray s 0 0 A) (F0 m 27 ls []) := by
    intro fu_27
    induction fu_27 with
    | zero => intro x5 x4 x3 H locs ls hm hP hD hS hl; exact absurd (show (none : Option (Int32)) = some out from hm) (fun h => nomatch h)
    | succ fu_27 ih_27 =>
      intro x5 x4 x3 H locs ls hm hP hD hS hl
      rw [fL_X1_bestAdded_27] at hm
      refine lv_iload hx hb dX1_bestAdded_27 (lv_at hl 0 rfl) ?_
      refine lv_bipush (v := 6) hx hb dX1_bestAdded_29 (by decide) ?_
      refine lv_icmp_ge (tgt := 89) hx hb dX1_bestAdded_31 (by decide) (fun c_31 => ?_) (fun c_31 => ?_)
      · have hm := it_s c_31 hm
        refine lv_iload hx hb dX1_bestAdded_89 (lv_at hl 1 rfl) ?_
        have hm := Option.some.inj hm
        subst hm
        exact q_iret (v := x4) hx hb hr hlocks hP hS dX1_bestAdded_91
      · have hm := it_n c_31 hm
        refine lv_iload_n hx hb dX1_bestAdded_34 rfl (lv_at hl 4 rfl) ?_
        refine lv_iload hx hb dX1_bestAdded_35 (lv_at hl 0 rfl) ?_
        obtain ⟨r_37, hc_37, hm⟩ := ob_s hm
        refine q_ci (q_rn (rest := []) ⟨hx, hb, hml, hown, hts⟩ hK hN hP hD (c_X7_holds l D cI cZ H.size p1 x5 r_37 hc_37) mb_X7_holds wt_X7_holds (nl_X1_105 hN) [] rfl rfl (Nat.le_of_ble_eq_true rfl) (Nat.le_of_ble_eq_true rfl) rfl hl.1 rfl (Nat.le_of_ble_eq_true rfl) ⟨Nat.le_refl 0, Nat.le_refl 0⟩ dX1_bestAdded_37) hP hD hS hA [] rfl rfl (fun H locs hP hD hS => ?_)
        have hP : va_P D vwCl (wd_X1_bestAdded cI cZ AT AT_of AT_tr AT_ga AT_bb AT_fg AT_sg AT_of_sl AT_of_fl AT_of_ro AT_of_nt AT_of_mk AT_of_mo AT_of_sl_c vT_of_ng vT_of_sl_n fT_ga fT_bb) H := hP
        have hD : va_D A (wd_X1_bestAdded cI cZ AT AT_of AT_tr AT_ga AT_bb AT_fg AT_sg AT_of_sl AT_of_fl AT_of_ro AT_of_nt AT_of_mk AT_of_mo AT_of_sl_c vT_of_ng vT_of_sl_n fT_ga fT_bb) := hD
        refine lv_if_ne (tgt := 83) hx hb dX1_bestAdded_40 (by decide) (fun c_40 => ?_) (fun c_40 => ?_)
        · have hm := it_n c_40 hm
          refine lv_iinc (v := (x5 + 1)) (lv' := [(5, .int (x5 + 1)), (4, .int x4), (3, .int x3), (0, .ref AT), (1, .int p1), (2, .int p2)]) hx hb dX1_bestAdded_83 hl (k := 0) rfl rfl (by decide) rfl (fun ls hl => ?_)
          refine lv_goto (tgt := 27) hx hb dX1_bestAdded_86 (by decide) ?_
          exact ih_27 (x5 + 1) x4 x3 H locs ls hm hP hD hS (lv_sub hl [0, 1, 2, 3, 4, 5] rfl)
        · have hm := it_s c_40 hm
          refine lv_aload_n hx hb dX1_bestAdded_43 rfl (lv_at hl 3 rfl) ?_
          refine lv_iload_n hx hb dX1_bestAdded_44 rfl (lv_at hl 4 rfl) ?_
          refine lv_iload hx hb dX1_bestAdded_45 (lv_at hl 0 rfl) ?_
          obtain ⟨r_47, hc_47, hm⟩ := ob_s hm
          refine q_ci (q_rv (rest := []) ⟨hx, hb, hml, hown, hts⟩ hK hN hP hD (c_X1_addedOn l D cI cZ H.size AT AT_of AT_tr AT_ga AT_bb AT_fg AT_sg fT_ga fT_bb p1 x5 r_47 hc_47) mb_X1_addedOn mv_X1_addedOn wl_X1_108 [0, 3, 4] rfl rfl rfl (Nat.le_of_ble_eq_true rfl) (Nat.le_of_ble_eq_true rfl) rfl hl.1 rfl (Nat.le_of_ble_eq_true rfl) ⟨Nat.le_refl 0, Nat.le_refl 0⟩ dX1_bestAdded_47) hP hD hS hA [0, 3, 4] rfl rfl (fun H locs hP hD hS => ?_)
          have hP : va_P D vwCl (wd_X1_bestAdded cI cZ AT AT_of AT_tr AT_ga AT_bb AT_fg AT_sg AT_of_sl AT_of_fl AT_of_ro AT_of_nt AT_of_mk AT_of_mo AT_of_sl_c vT_of_ng vT_of_sl_n fT_ga fT_bb) H := hP
          have hD : va_D A (wd_X1_bestAdded cI cZ AT AT_of AT_tr AT_ga AT_bb AT_fg AT_sg AT_of_sl AT_of_fl AT_of_ro AT_of_nt AT_of_mk AT_of_mo AT_of_sl_c vT_of_ng vT_of_sl_n fT_ga fT_bb) := hD
          refine lv_istore (lv' := [(6, .int r_47), (5, .int x5), (4, .int x4), (3, .int x3), (0, .ref AT), (1, .int p1), (2, .int p2)]) hx hb dX1_bestAdded_50 hl (by decide) rfl (fun ls hl => ?_)
          refine lv_iload_n hx hb dX1_bestAdded_52 rfl (lv_at hl 3 rfl) ?_
          refine lv_if_eq (tgt := 77) hx hb dX1_bestAdded_53 (by decide) (fun c_53 => ?_) (fun c_53 => ?_)
          · have hm := it_s c_53 hm
            refine lv_iload hx hb dX1_bestAdded_77 (lv_at hl 0 rfl) ?_
            refine lv_istore (lv' := [(4, .int r_47), (6, .int r_47), (5, .int x5), (3, .int x3), (0, .ref AT), (1, .int p1), (2, .int p2)]) hx hb dX1_bestAdded_79 hl (by decide) rfl (fun ls hl => ?_)
            refine lv_iconst (v := 1) hx hb dX1_bestAdded_81 (by decide) ?_
            refine lv_istore_n (lv' := [(3, .int 1), (4, .int r_47), (6, .int r_47), (5, .int x5), (0, .ref AT), (1, .int p1), (2, .int p2)]) hx hb dX1_bestAdded_82 rfl hl (by decide) rfl (fun ls hl => ?_)
            refine lv_iinc (v := (x5 + 1)) (lv' := [(5, .int (x5 + 1)), (3, .int 1), (4, .int r_47), (6, .int r_47), (0, .ref AT), (1, .int p1), (2, .int p2)]) hx hb dX1_bestAdded_83 hl (k := 3) rfl rfl (by decide) rfl (fun ls hl => ?_)
            refine lv_goto (tgt := 27) hx hb dX1_bestAdded_86 (by decide) ?_
            exact ih_27 (x5 + 1) r_47 1 H locs ls hm hP hD hS (lv_sub hl [0, 2, 1, 4, 5, 6] rfl)
          · have hm := it_n c_53 hm
            refine lv_iload_n hx hb dX1_bestAdded_56 rfl (lv_at hl 6 rfl) ?_
            refine lv_if_eq (tgt := 70) hx hb dX1_bestAdded_57 (by decide) (fun c_57 => ?_) (fun c_57 => ?_)
            · have hm := it_s c_57 hm
              refine lv_iload hx hb dX1_bestAdded_70 (lv_at hl 0 rfl) ?_
              refine lv_iload hx hb dX1_bestAdded_72 (lv_at hl 2 rfl) ?_
              refine lv_icmp_ge (tgt := 83) hx hb dX1_bestAdded_74 (by decide) (fun c_74 => ?_) (fun c_74 => ?_)
              · have hm := it_s c_74 hm
                refine lv_iinc (v := (x5 + 1)) (lv' := [(5, .int (x5 + 1)), (6, .int r_47), (4, .int x4), (3, .int x3), (0, .ref AT), (1, .int p1), (2, .int p2)]) hx hb dX1_bestAdded_83 hl (k := 1) rfl rfl (by decide) rfl (fun ls hl => ?_)
                refine lv_goto (tgt := 27) hx hb dX1_bestAdded_86 (by decide) ?_
                exact ih_27 (x5 + 1) x4 x3 H locs ls hm hP hD hS (lv_sub hl [0, 2, 3, 4, 5, 6] rfl)
              · have hm := it_n c_74 hm
                refine lv_iload hx hb dX1_bestAdded_77 (lv_at hl 0 rfl) ?_
                refine lv_istore (lv' := [(4, .int r_47), (6, .int r_47), (5, .int x5), (3, .int x3), (0, .ref AT), (1, .int p1), (2, .int p2)]) hx hb dX1_bestAdded_79 hl (by decide) rfl (fun ls hl => ?_)
                refine lv_iconst (v := 1) hx hb dX1_bestAdded_81 (by decide) ?_
                refine lv_istore_n (lv' := [(3, .int 1), (4, .int r_47), (6, .int r_47), (5, .int x5), (0, .ref AT), (1, .int p1), (2, .int p2)]) hx hb dX1_bestAdded_82 rfl hl (by decide) rfl (fun ls hl => ?_)
                refine lv_iinc (v := (x5 + 1)) (lv' := [(5, .int (x5 + 1)), (3, .int 1), (4, .int r_47), (6, .int r_47), (0, .ref AT), (1, .int p1), (2, .int p2)]) hx hb dX1_bestAdded_83 hl (k := 3) rfl rfl (by decide) rfl (fun ls hl => ?_)
                refine lv_goto (tgt := 27) hx hb dX1_bestAdded_86 (by decide) ?_
                exact ih_27 (x5 + 1) r_47 1 H locs ls hm hP hD hS (lv_sub hl [0, 2, 1, 4, 5, 6] rfl)
            · have hm := it_n c_57 hm
              refine lv_iload hx hb dX1_bestAdded_60 (lv_at hl 0 rfl) ?_
              refine lv_iload hx hb dX1_bestAdded_62 (lv_at hl 2 rfl) ?_
              refine lv_icmp_le (tgt := 83) hx hb dX1_bestAdded_64 (by decide) (fun c_64 => ?_) (fun c_64 => ?_)
              · have hm := it_s c_64 hm
                refine lv_iinc (v := (x5 + 1)) (lv' := [(5, .int (x5 + 1)), (6, .int r_47), (4, .int x4), (3, .int x3), (0, .ref AT), (1, .int p1), (2, .int p2)]) hx hb dX1_bestAdded_83 hl (k := 1) rfl rfl (by decide) rfl (fun ls hl => ?_)
                refine lv_goto (tgt := 27) hx hb dX1_bestAdded_86 (by decide) ?_
                exact ih_27 (x5 + 1) x4 x3 H locs ls hm hP hD hS (lv_sub hl [0, 2, 3, 4, 5, 6] rfl)
              · have hm := it_n c_64 hm
                refine lv_goto (tgt := 77) hx hb dX1_bestAdded_67 (by decide) ?_
                refine lv_iload hx hb dX1_bestAdded_77 (lv_at hl 0 rfl) ?_
                refine lv_istore (lv' := [(4, .int r_47), (6, .int r_47), (5, .int x5), (3, .int x3), (0, .ref AT), (1, .int p1), (2, .int p2)]) hx hb dX1_bestAdded_79 hl (by decide) rfl (fun ls hl => ?_)
                refine lv_iconst (v := 1) hx hb dX1_bestAdded_81 (by decide) ?_
                refine lv_istore_n (lv' := [(3, .int 1), (4, .int r_47), (6, .int r_47), (5, .int x5), (0, .ref AT), (1, .int p1), (2, .int p2)]) hx hb dX1_bestAdded_82 rfl hl (by decide) rfl (fun ls hl => ?_)
                refine lv_iinc (v := (x5 + 1)) (lv' := [(5, .int (x5 + 1)), (3, .int 1), (4, .int r_47), (6, .int r_47), (0, .ref AT), (1, .int p1), (2, .int p2)]) hx hb dX1_bestAdded_83 hl (k := 3) rfl rfl (by decide) rfl (fun ls hl => ?_)
                refine lv_goto (tgt := 27) hx hb dX1_bestAdded_86 (by decide) ?_
                exact ih_27 (x5 + 1) r_47 1 H locs ls hm hP hD hS (lv_sub hl [0, 2, 1, 4, 5, 6] rfl)
  unfold fm_X1_bestAdded at hm
  refine q_gen hS hP ?_
  intro H locs hP hS
  refine lv_iload_n hx hb dX1_bestAdded_0 rfl (lv_at hl 1 rfl) ?_
  obtain ⟨r_1, hc_1, hm⟩ := ob_s hm
  refine q_ci (q_rs (rest := []) ⟨hx, hb, hml, hown, hts⟩ hK hN hP hD (c_J6_bitCount_0f7a4 l D cI cZ H.size p1 r_1 hc_1) mb_J6_bitCount_0f7a4 wt_J6_bitCount_0f7a4 wl_X1_100 [] rfl rfl (Nat.le_of_ble_eq_true rfl) (Nat.le_of_ble_eq_true rfl) rfl hl.1 rfl (Nat.le_of_ble_eq_true rfl) ⟨Nat.le_refl 0, Nat.le_refl 0⟩ dX1_bestAdded_1) hP hD hS hA [] rfl rfl (fun H locs hP hD hS => ?_)
  have hP : va_P D vwCl (wd_X1_bestAdded cI cZ AT AT_of AT_tr AT_ga AT_bb AT_fg AT_sg AT_of_sl AT_of_fl AT_of_ro AT_of_nt AT_of_mk AT_of_mo AT_of_sl_c vT_of_ng vT_of_sl_n fT_ga fT_bb) H := hP
  have hD : va_D A (wd_X1_bestAdded cI cZ AT AT_of AT_tr AT_ga AT_bb AT_fg AT_sg AT_of_sl AT_of_fl AT_of_ro AT_of_nt AT_of_mk AT_of_mo AT_of_sl_c vT_of_ng vT_of_sl_n fT_ga fT_bb) := hD
  refine lv_aload_n hx hb dX1_bestAdded_4 rfl (lv_at hl 0 rfl) ?_
  refine gf_X1_9 (v := .ref AT_of) hx hb hts hown hK hN hP 0 rfl rfl dX1_bestAdded_5 ?_
  refine gf_X1_34 (v := .ref AT_of_sl) hx hb hts hown hK hN hP 1 rfl rfl dX1_bestAdded_8 ?_
  obtain ⟨r_11, hc_11, hm⟩ := ob_s hm
  refine q_ci (q_rv (rest := [.int r_1]) ⟨hx, hb, hml, hown, hts⟩ hK hN hP hD (c_X3_size l D cI cZ H.size AT_of_sl AT_of_sl_c 4 vT_of_sl_n r_11 hc_11) mb_X3_size mv_X3_size wl_X1_64 [2] rfl rfl rfl (Nat.le_of_ble_eq_true rfl) (Nat.le_of_ble_eq_true rfl) rfl hl.1 rfl (Nat.le_of_ble_eq_true rfl) ⟨Nat.le_refl 0, Nat.le_refl 0⟩ dX1_bestAdded_11) hP hD hS hA [2] rfl rfl (fun H locs hP hD hS => ?_)
  have hP : va_P D vwCl (wd_X1_bestAdded cI cZ AT AT_of AT_tr AT_ga AT_bb AT_fg AT_sg AT_of_sl AT_of_fl AT_of_ro AT_of_nt AT_of_mk AT_of_mo AT_of_sl_c vT_of_ng vT_of_sl_n fT_ga fT_bb) H := hP
  have hD : va_D A (wd_X1_bestAdded cI cZ AT AT_of AT_tr AT_ga AT_bb AT_fg AT_sg AT_of_sl AT_of_fl AT_of_ro AT_of_nt AT_of_mk AT_of_mo AT_of_sl_c vT_of_ng vT_of_sl_n fT_ga fT_bb) := hD
  refine lv_icmp_lt (tgt := 19) hx hb dX1_bestAdded_14 (by decide) (fun c_14 => ?_) (fun c_14 => ?_)
  · have hm := it_s c_14 hm
    refine lv_iconst (v := 0) hx hb dX1_bestAdded_19 (by decide) ?_
    refine lv_istore_n (lv' := [(3, .int 0), (0, .ref AT), (1, .int p1), (2, .int p2)]) hx hb dX1_bestAdded_20 rfl hl (by decide) rfl (fun ls hl => ?_)
    refine lv_iconst (v := 0) hx hb dX1_bestAdded_21 (by decide) ?_
    refine lv_istore (lv' := [(4, .int 0), (3, .int 0), (0, .ref AT), (1, .int p1), (2, .int p2)]) hx hb dX1_bestAdded_22 hl (by decide) rfl (fun ls hl => ?_)
    refine lv_iconst (v := 0) hx hb dX1_bestAdded_24 (by decide) ?_
    refine lv_istore (lv' := [(5, .int 0), (4, .int 0), (3, .int 0), (0, .ref AT), (1, .int p1), (2, .int p2)]) hx hb dX1_bestAdded_25 hl (by decide) rfl (fun ls hl => ?_)
    exact hL_27 FU 0 0 0 H locs ls hm hP hD hS (lv_sub hl [0, 1, 2, 3, 4, 5] rfl)
  · have hm := it_n c_14 hm
    refine lv_iconst (v := 0) hx hb dX1_bestAdded_17 (by decide) ?_
    have hm := Option.some.inj hm
    subst hm
    exact q_iret (v := 0) hx hb hr hlocks hP hS dX1_bestAdded_18
theorem mb_X1_fillGains : q_mb yX1_fillGains cX1_fillGains 3 none 0 := ⟨wc_X1_fillGains, wn_X1, by decide, by decide, by decide +kernel⟩
theorem mv_X1_fillGains : q_mv yX1_fillGains 1 := ⟨wi_X1_fillGains, ws_X1_fillGains, _, rfl, rfl⟩
def wd_X1_fillGains (cI cZ : ClassId) (AT AT_of AT_tr AT_ga AT_bb AT_fg AT_sg AT_of_sl AT_of_fl AT_of_ro AT_of_nt AT_of_mk AT_of_mo AT_of_sl_c AT_of_fl_c : Nat) (vT_of_ng : Int32) (vT_of_sl_n : Int32) (fT_of_sl_c : Nat → Int32) (vT_of_fl_n : Int32) (fT_of_fl_c : Nat → Int32) (fT_ga : Nat → Int32) : va_W := [(AT, .inr (1, [.ref AT_of, .ref AT_tr, .ref AT_ga, .ref AT_bb, .ref AT_fg, .ref AT_sg])), (AT_of, .inr (4, [.ref AT_of_sl, .ref AT_of_fl, .ref AT_of_ro, .ref AT_of_nt, .ref AT_of_mk, .ref AT_of_mo, .int vT_of_ng])), (AT_of_sl, .inr (3, [.int 4, .ref AT_of_sl_c, .int vT_of_sl_n])), (AT_of_sl_c, .inl (cI, 24, .inl fT_of_sl_c)), (AT_of_fl, .inr (3, [.int 3, .ref AT_of_fl_c, .int vT_of_fl_n])), (AT_of_fl_c, .inl (cI, 18, .inl fT_of_fl_c)), (AT_ga, .inl (cI, 36, .inl fT_ga))]
def fL_X1_fillGains_18 (vT_of_ng : Int32) (vT_of_sl_n : Int32) (fT_of_sl_c : Nat → Int32) (vT_of_fl_n : Int32) (fT_of_fl_c : Nat → Int32) (k_2 : Int32 → (Nat → Int32) → Option ((Nat → Int32))) : Nat → Int32 → Int32 → (Nat → Int32) → Option ((Nat → Int32))
  | 0, _, _, _ => none
  | fu + 1, x2, x1, fT_ga => if 6 ≤ x2 then (k_2 (x1 + 1) fT_ga) else (Option.bind (fm_X4_believedOn x2 x1 (-1) vT_of_ng vT_of_sl_n fT_of_sl_c vT_of_fl_n fT_of_fl_c) (fun r_48 => Option.bind (fm_X7_put 36 ((x1 * 6) + x2) r_48 fT_ga) (fun r_51 => fL_X1_fillGains_18 vT_of_ng vT_of_sl_n fT_of_sl_c vT_of_fl_n fT_of_fl_c k_2 fu (x2 + 1) x1 r_51)))
def fL_X1_fillGains_2 (vT_of_ng : Int32) (vT_of_sl_n : Int32) (fT_of_sl_c : Nat → Int32) (vT_of_fl_n : Int32) (fT_of_fl_c : Nat → Int32) : Nat → Int32 → (Nat → Int32) → Option ((Nat → Int32))
  | 0, _, _ => none
  | fu + 1, x1, fT_ga => Option.bind (fm_X3_size vT_of_sl_n) (fun r_10 => if r_10 ≤ x1 then (some (fT_ga)) else (fL_X1_fillGains_18 vT_of_ng vT_of_sl_n fT_of_sl_c vT_of_fl_n fT_of_fl_c (fun x1 fT_ga => fL_X1_fillGains_2 vT_of_ng vT_of_sl_n fT_of_sl_c vT_of_fl_n fT_of_fl_c fu x1 fT_ga) FU 0 x1 fT_ga))
def fm_X1_fillGains (vT_of_ng : Int32) (vT_of_sl_n : Int32) (fT_of_sl_c : Nat → Int32) (vT_of_fl_n : Int32) (fT_of_fl_c : Nat → Int32) (fT_ga : Nat → Int32) : Option ((Nat → Int32)) := fL_X1_fillGains_2 vT_of_ng vT_of_sl_n fT_of_sl_c vT_of_fl_n fT_of_fl_c FU 0 fT_ga
set_option maxHeartbeats 4000000 in
set_option maxRecDepth 100000 in
theorem c_X1_fillGains (l : Launch) (D : va_G) (cI cZ : ClassId) (sz : Nat) (AT AT_of AT_tr AT_ga AT_bb AT_fg AT_sg AT_of_sl AT_of_fl AT_of_ro AT_of_nt AT_of_mk AT_of_mo AT_of_sl_c AT_of_fl_c : Nat) (vT_of_ng : Int32) (vT_of_sl_n : Int32) (fT_of_sl_c : Nat → Int32) (vT_of_fl_n : Int32) (fT_of_fl_c : Nat → Int32) (fT_ga : Nat → Int32) (out : ((Nat → Int32))) (hm : fm_X1_fillGains vT_of_ng vT_of_sl_n fT_of_sl_c vT_of_fl_n fT_of_fl_c fT_ga = some out) : Met l yX1_fillGains (Cond.code yX1_fillGains cX1_fillGains 3 none :: bg) { frames := 3, cells := 0, slots := 0, locals := 75 } (va_Pc [.ref AT] (q_pre D cI cZ sz (wd_X1_fillGains cI cZ AT AT_of AT_tr AT_ga AT_bb AT_fg AT_sg AT_of_sl AT_of_fl AT_of_ro AT_of_nt AT_of_mk AT_of_mo AT_of_sl_c AT_of_fl_c vT_of_ng vT_of_sl_n fT_of_sl_c vT_of_fl_n fT_of_fl_c fT_ga))) (q_Qv D (wd_X1_fillGains cI cZ AT AT_of AT_tr AT_ga AT_bb AT_fg AT_sg AT_of_sl AT_of_fl AT_of_ro AT_of_nt AT_of_mk AT_of_mo AT_of_sl_c AT_of_fl_c vT_of_ng vT_of_sl_n fT_of_sl_c vT_of_fl_n fT_of_fl_c out) (va_A (wd_X1_fillGains cI cZ AT AT_of AT_tr AT_ga AT_bb AT_fg AT_sg AT_of_sl AT_of_fl AT_of_ro AT_of_nt AT_of_mk AT_of_mo AT_of_sl_c AT_of_fl_c vT_of_ng vT_of_sl_n fT_of_sl_c vT_of_fl_n fT_of_fl_c fT_ga) sz)) 0 0 (va_A (wd_X1_fillGains cI cZ AT AT_of AT_tr AT_ga AT_bb AT_fg AT_sg AT_of_sl AT_of_fl AT_of_ro AT_of_nt AT_of_mk AT_of_mo AT_of_sl_c AT_of_fl_c vT_of_ng vT_of_sl_n fT_of_sl_c vT_of_fl_n fT_of_fl_c fT_ga) sz) := by
  refine q_met (fun A => q_Qv D (wd_X1_fillGains cI cZ AT AT_of AT_tr AT_ga AT_bb AT_fg AT_sg AT_of_sl AT_of_fl AT_of_ro AT_of_nt AT_of_mk AT_of_mo AT_of_sl_c AT_of_fl_c vT_of_ng vT_of_sl_n fT_of_sl_c vT_of_fl_n fT_of_fl_c out) A) (by decide) (Nat.le_of_ble_eq_true rfl) ?_
  intro p e s m below meth c ls A hx hb hr hml hown hts hlocks _ hA hS hP hD hK hN hl
  have hown : s.vm.findClass RX1 = some m.cls := hown
  have hl : lv_has ls 3 [(0, .ref AT)] := hl
  have hL_2 : ∀ (fu_2 : Nat) (x1 : Int32) (fT_ga : Nat → Int32) (H : Heap) (locs : List Loc) (ls : Array Slot), fL_X1_fillGains_2 vT_of_ng vT_of_sl_n fT_of_sl_c vT_of_fl_n fT_of_fl_c fu_2 x1 fT_ga = some out → va_P D vwCl (wd_X1_fillGains cI cZ AT AT_of AT_tr AT_ga AT_bb AT_fg AT_sg AT_of_sl AT_of_fl AT_of_ro AT_of_nt AT_of_mk AT_of_mo AT_of_sl_c AT_of_fl_c vT_of_ng vT_of_sl_n fT_of_sl_c vT_of_fl_n fT_of_fl_c fT_ga) H → va_D A (wd_X1_fillGains cI cZ AT AT_of AT_tr AT_ga AT_bb AT_fg AT_sg AT_of_sl AT_of_fl AT_of_ro AT_of_nt AT_of_mk AT_of_mo AT_of_sl_c AT_of_fl_c vT_of_ng vT_of_sl_n fT_of_sl_c vT_of_fl_n fT_of_fl_c fT_ga) → va_S A s.heap H locs → lv_has ls 3 [(1, .int x1), (0, .ref AT)] → W p l e { frames := 3, cells := 0, slots := 0, locals := 75 } s m ([.ref AT] : List Value).toArray below meth c H locs 0 0 (MQ below (q_Qv D (wd_X1_fillGains cI cZ AT AT_of AT_tr AT_ga AT_bb AT_fg AT_sg AT_of_sl AT_of_fl AT_of_ro AT_of_nt AT_of_mk AT_of_mo AT_of_sl_c AT_of_fl_c vT_of_ng vT_of_sl_n fT_of_sl_c vT_of_fl_n fT_of_fl_c out) A) ([.ref AT] : List Value).toArray s 0 0 A) (F0 m 2 ls []) := by
    intro fu_2
    induction fu_2 with
    | zero => intro x1 fT_ga H locs ls hm hP hD hS hl; exact absurd (show (none : Option ((Nat → Int32))) = some out from hm) (fun h => nomatch h)
    | succ fu_2 ih_2 =>
      have hL_18 : ∀ (fu_18 : Nat) (x2 : Int32) (x1 : Int32) (fT_ga : Nat → Int32) (H : Heap) (locs : List Loc) (ls : Array Slot), fL_X1_fillGains_18 vT_of_ng vT_of_sl_n fT_of_sl_c vT_of_fl_n fT_of_fl_c (fun x1 fT_ga => fL_X1_fillGains_2 vT_of_ng vT_of_sl_n fT_of_sl_c vT_of_fl_n fT_of_fl_c fu_2 x1 fT_ga) fu_18 x2 x1 fT_ga = some out → va_P D vwCl (wd_X1_fillGains cI cZ AT AT_of AT_tr AT_ga AT_bb AT_fg AT_sg AT_of_sl AT_of_fl AT_of_ro AT_of_nt AT_of_mk AT_of_mo AT_of_sl_c AT_of_fl_c vT_of_ng vT_of_sl_n fT_of_sl_c vT_of_fl_n fT_of_fl_c fT_ga) H → va_D A (wd_X1_fillGains cI cZ AT AT_of AT_tr AT_ga AT_bb AT_fg AT_sg AT_of_sl AT_of_fl AT_of_ro AT_of_nt AT_of_mk AT_of_mo AT_of_sl_c AT_of_fl_c vT_of_ng vT_of_sl_n fT_of_sl_c vT_of_fl_n fT_of_fl_c fT_ga) → va_S A s.heap H locs → lv_has ls 3 [(2, .int x2), (1, .int x1), (0, .ref AT)] → W p l e { frames := 3, cells := 0, slots := 0, locals := 75 } s m ([.ref AT] : List Value).toArray below meth c H locs 0 0 (MQ below (q_Qv D (wd_X1_fillGains cI cZ AT AT_of AT_tr AT_ga AT_bb AT_fg AT_sg AT_of_sl AT_of_fl AT_of_ro AT_of_nt AT_of_mk AT_of_mo AT_of_sl_c AT_of_fl_c vT_of_ng vT_of_sl_n fT_of_sl_c vT_of_fl_n fT_of_fl_c out) A) ([.ref AT] : List Value).toArray s 0 0 A) (F0 m 18 ls []) := by
        intro fu_18
        induction fu_18 with
        | zero => intro x2 x1 fT_ga H locs ls hm hP hD hS hl; exact absurd (show (none : Option ((Nat → Int32))) = some out from hm) (fun h => nomatch h)
        | succ fu_18 ih_18 =>
          intro x2 x1 fT_ga H locs ls hm hP hD hS hl
          rw [fL_X1_fillGains_18] at hm
          refine lv_iload_n hx hb dX1_fillGains_18 rfl (lv_at hl 0 rfl) ?_
          refine lv_bipush (v := 6) hx hb dX1_fillGains_19 (by decide) ?_
          refine lv_icmp_ge (tgt := 60) hx hb dX1_fillGains_21 (by decide) (fun c_21 => ?_) (fun c_21 => ?_)
          · have hm := it_s c_21 hm
            refine lv_iinc (v := (x1 + 1)) (lv' := [(1, .int (x1 + 1)), (2, .int x2), (0, .ref AT)]) hx hb dX1_fillGains_60 hl (k := 1) rfl rfl (by decide) rfl (fun ls hl => ?_)
            refine lv_goto (tgt := 2) hx hb dX1_fillGains_63 (by decide) ?_
            exact ih_2 (x1 + 1) fT_ga H locs ls hm hP hD hS (lv_sub hl [0, 2] rfl)
          · have hm := it_n c_21 hm
            refine lv_aload_n hx hb dX1_fillGains_24 rfl (lv_at hl 2 rfl) ?_
            refine gf_X1_21 (v := .ref AT_ga) hx hb hts hown hK hN hP 0 rfl rfl dX1_fillGains_25 ?_
            refine lv_iload_n hx hb dX1_fillGains_28 rfl (lv_at hl 1 rfl) ?_
            refine lv_bipush (v := 6) hx hb dX1_fillGains_29 (by decide) ?_
            refine lv_imul hx hb dX1_fillGains_31 ?_
            refine lv_iload_n hx hb dX1_fillGains_32 rfl (lv_at hl 0 rfl) ?_
            refine lv_iadd hx hb dX1_fillGains_33 ?_
            refine lv_aload_n hx hb dX1_fillGains_34 rfl (lv_at hl 2 rfl) ?_
            refine gf_X1_9 (v := .ref AT_of) hx hb hts hown hK hN hP 0 rfl rfl dX1_fillGains_35 ?_
            refine lv_iload_n hx hb dX1_fillGains_38 rfl (lv_at hl 0 rfl) ?_
            refine lv_iload_n hx hb dX1_fillGains_39 rfl (lv_at hl 1 rfl) ?_
            refine lv_iconst (v := (-1)) hx hb dX1_fillGains_40 (by decide) ?_
            refine lv_aload_n hx hb dX1_fillGains_41 rfl (lv_at hl 2 rfl) ?_
            refine gf_X1_9 (v := .ref AT_of) hx hb hts hown hK hN hP 0 rfl rfl dX1_fillGains_42 ?_
            refine gf_X1_48 (v := .int vT_of_ng) hx hb hts hown hK hN hP 1 rfl rfl dX1_fillGains_45 ?_
            obtain ⟨r_48, hc_48, hm⟩ := ob_s hm
            refine q_ci (q_rv (rest := [.int ((x1 * 6) + x2), .ref AT_ga]) ⟨hx, hb, hml, hown, hts⟩ hK hN hP hD (c_X4_believedOn l D cI cZ H.size AT_of AT_of_sl AT_of_fl AT_of_ro AT_of_nt AT_of_mk AT_of_mo AT_of_sl_c AT_of_fl_c vT_of_ng vT_of_sl_n fT_of_sl_c vT_of_fl_n fT_of_fl_c x2 x1 (-1) vT_of_ng r_48 hc_48) mb_X4_believedOn mv_X4_believedOn wl_X1_52 [1, 2, 3, 4, 5] rfl rfl rfl (Nat.le_of_ble_eq_true rfl) (Nat.le_of_ble_eq_true rfl) rfl hl.1 rfl (Nat.le_of_ble_eq_true rfl) ⟨Nat.le_refl 0, Nat.le_refl 0⟩ dX1_fillGains_48) hP hD hS hA [1, 2, 3, 4, 5] rfl rfl (fun H locs hP hD hS => ?_)
            have hP : va_P D vwCl (wd_X1_fillGains cI cZ AT AT_of AT_tr AT_ga AT_bb AT_fg AT_sg AT_of_sl AT_of_fl AT_of_ro AT_of_nt AT_of_mk AT_of_mo AT_of_sl_c AT_of_fl_c vT_of_ng vT_of_sl_n fT_of_sl_c vT_of_fl_n fT_of_fl_c fT_ga) H := hP
            have hD : va_D A (wd_X1_fillGains cI cZ AT AT_of AT_tr AT_ga AT_bb AT_fg AT_sg AT_of_sl AT_of_fl AT_of_ro AT_of_nt AT_of_mk AT_of_mo AT_of_sl_c AT_of_fl_c vT_of_ng vT_of_sl_n fT_of_sl_c vT_of_fl_n fT_of_fl_c fT_ga) := hD
            obtain ⟨r_51, hc_51, hm⟩ := ob_s hm
            refine q_cv (q_rn (rest := []) ⟨hx, hb, hml, hown, hts⟩ hK hN hP hD (c_X7_put l D cI cZ H.size AT_ga 36 fT_ga ((x1 * 6) + x2) r_48 r_51 hc_51) mb_X7_put wt_X7_put (nl_X1_89 hN) [6] rfl rfl (Nat.le_of_ble_eq_true rfl) (Nat.le_of_ble_eq_true rfl) rfl hl.1 rfl (Nat.le_of_ble_eq_true rfl) ⟨Nat.le_refl 0, Nat.le_refl 0⟩ dX1_fillGains_51) hP hD hS hA [6] rfl rfl (fun H locs hP hD hS => ?_)
            have hP : va_P D vwCl (wd_X1_fillGains cI cZ AT AT_of AT_tr AT_ga AT_bb AT_fg AT_sg AT_of_sl AT_of_fl AT_of_ro AT_of_nt AT_of_mk AT_of_mo AT_of_sl_c AT_of_fl_c vT_of_ng vT_of_sl_n fT_of_sl_c vT_of_fl_n fT_of_fl_c r_51) H := hP
            have hD : va_D A (wd_X1_fillGains cI cZ AT AT_of AT_tr AT_ga AT_bb AT_fg AT_sg AT_of_sl AT_of_fl AT_of_ro AT_of_nt AT_of_mk AT_of_mo AT_of_sl_c AT_of_fl_c vT_of_ng vT_of_sl_n fT_of_sl_c vT_of_fl_n fT_of_fl_c r_51) := hD
            refine lv_iinc (v := (x2 + 1)) (lv' := [(2, .int (x2 + 1)), (1, .int x1), (0, .ref AT)]) hx hb dX1_fillGains_54 hl (k := 0) rfl rfl (by decide) rfl (fun ls hl => ?_)
            refine lv_goto (tgt := 18) hx hb dX1_fillGains_57 (by decide) ?_
            exact ih_18 (x2 + 1) x1 r_51 H locs ls hm hP hD hS (lv_sub hl [0, 1, 2] rfl)
      intro x1 fT_ga H locs ls hm hP hD hS hl
      rw [fL_X1_fillGains_2] at hm
      refine lv_iload_n hx hb dX1_fillGains_2 rfl (lv_at hl 0 rfl) ?_
      refine lv_aload_n hx hb dX1_fillGains_3 rfl (lv_at hl 1 rfl) ?_
      refine gf_X1_9 (v := .ref AT_of) hx hb hts hown hK hN hP 0 rfl rfl dX1_fillGains_4 ?_
      refine gf_X1_34 (v := .ref AT_of_sl) hx hb hts hown hK hN hP 1 rfl rfl dX1_fillGains_7 ?_
      obtain ⟨r_10, hc_10, hm⟩ := ob_s hm
      refine q_ci (q_rv (rest := [.int x1]) ⟨hx, hb, hml, hown, hts⟩ hK hN hP hD (c_X3_size l D cI cZ H.size AT_of_sl AT_of_sl_c 4 vT_of_sl_n r_10 hc_10) mb_X3_size mv_X3_size wl_X1_64 [2] rfl rfl rfl (Nat.le_of_ble_eq_true rfl) (Nat.le_of_ble_eq_true rfl) rfl hl.1 rfl (Nat.le_of_ble_eq_true rfl) ⟨Nat.le_refl 0, Nat.le_refl 0⟩ dX1_fillGains_10) hP hD hS hA [2] rfl rfl (fun H locs hP hD hS => ?_)
      have hP : va_P D vwCl (wd_X1_fillGains cI cZ AT AT_of AT_tr AT_ga AT_bb AT_fg AT_sg AT_of_sl AT_of_fl AT_of_ro AT_of_nt AT_of_mk AT_of_mo AT_of_sl_c AT_of_fl_c vT_of_ng vT_of_sl_n fT_of_sl_c vT_of_fl_n fT_of_fl_c fT_ga) H := hP
      have hD : va_D A (wd_X1_fillGains cI cZ AT AT_of AT_tr AT_ga AT_bb AT_fg AT_sg AT_of_sl AT_of_fl AT_of_ro AT_of_nt AT_of_mk AT_of_mo AT_of_sl_c AT_of_fl_c vT_of_ng vT_of_sl_n fT_of_sl_c vT_of_fl_n fT_of_fl_c fT_ga) := hD
      refine lv_icmp_ge (tgt := 66) hx hb dX1_fillGains_13 (by decide) (fun c_13 => ?_) (fun c_13 => ?_)
      · have hm := it_s c_13 hm
        have hm := Option.some.inj hm
        subst hm
        exact q_vret hx hb hr hlocks hP hS dX1_fillGains_66
      · have hm := it_n c_13 hm
        refine lv_iconst (v := 0) hx hb dX1_fillGains_16 (by decide) ?_
        refine lv_istore_n (lv' := [(2, .int 0), (1, .int x1), (0, .ref AT)]) hx hb dX1_fillGains_17 rfl hl (by decide) rfl (fun ls hl => ?_)
        exact hL_18 FU 0 x1 fT_ga H locs ls hm hP hD hS (lv_sub hl [0, 1, 2] rfl)
  unfold fm_X1_fillGains at hm
  refine q_gen hS hP ?_
  intro H locs hP hS
  refine lv_iconst (v := 0) hx hb dX1_fillGains_0 (by decide) ?_
  refine lv_istore_n (lv' := [(1, .int 0), (0, .ref AT)]) hx hb dX1_fillGains_1 rfl hl (by decide) rfl (fun ls hl => ?_)
  exact hL_2 FU 0 fT_ga H locs ls hm hP hD hS (lv_sub hl [0, 1] rfl)
theorem mb_X1_firstBestPillow : q_mb yX1_firstBestPillow cX1_firstBestPillow 3 (some .int) 1 := ⟨wc_X1_firstBestPillow, wn_X1, by decide, by decide, by decide +kernel⟩
theorem mv_X1_firstBestPillow : q_mv yX1_firstBestPillow 1 := ⟨wi_X1_firstBestPillow, ws_X1_firstBestPillow, _, rfl, rfl⟩
def wd_X1_firstBestPillow (cI cZ : ClassId) (AT AT_of AT_tr AT_ga AT_bb AT_fg AT_sg : Nat) (fT_ga : Nat → Int32) (fT_bb : Nat → Int32) : va_W := [(AT, .inr (1, [.ref AT_of, .ref AT_tr, .ref AT_ga, .ref AT_bb, .ref AT_fg, .ref AT_sg])), (AT_ga, .inl (cI, 36, .inl fT_ga)), (AT_bb, .inl (cI, 64, .inl fT_bb))]
def fL_X1_firstBestPillow_2 (p1 : Int32) (fT_ga : Nat → Int32) (fT_bb : Nat → Int32) : Nat → Int32 → Option (Int32)
  | 0, _ => none
  | fu + 1, x2 => if 5 ≤ x2 then (some (x2)) else (Option.bind (fm_X7_holds p1 x2) (fun r_9 => if r_9 = 0 then (Option.bind (fm_X1_addedOn p1 x2 fT_ga fT_bb) (fun r_18 => Option.bind (fm_X7_at 64 p1 fT_bb) (fun r_26 => if r_18 = r_26 then (some (x2)) else (fL_X1_firstBestPillow_2 p1 fT_ga fT_bb fu (x2 + 1))))) else (fL_X1_firstBestPillow_2 p1 fT_ga fT_bb fu (x2 + 1))))
def fm_X1_firstBestPillow (p1 : Int32) (fT_ga : Nat → Int32) (fT_bb : Nat → Int32) : Option (Int32) := fL_X1_firstBestPillow_2 p1 fT_ga fT_bb FU 0
set_option maxHeartbeats 4000000 in
set_option maxRecDepth 100000 in
theorem c_X1_firstBestPillow (l : Launch) (D : va_G) (cI cZ : ClassId) (sz : Nat) (AT AT_of AT_tr AT_ga AT_bb AT_fg AT_sg : Nat) (fT_ga : Nat → Int32) (fT_bb : Nat → Int32) (p1 : Int32) (out : (Int32)) (hm : fm_X1_firstBestPillow p1 fT_ga fT_bb = some out) : Met l yX1_firstBestPillow (Cond.code yX1_firstBestPillow cX1_firstBestPillow 3 (some .int) :: bg) { frames := 2, cells := 0, slots := 0, locals := 44 } (va_Pc [.ref AT, .int p1] (q_pre D cI cZ sz (wd_X1_firstBestPillow cI cZ AT AT_of AT_tr AT_ga AT_bb AT_fg AT_sg fT_ga fT_bb))) (q_Qi D (wd_X1_firstBestPillow cI cZ AT AT_of AT_tr AT_ga AT_bb AT_fg AT_sg fT_ga fT_bb) out (va_A (wd_X1_firstBestPillow cI cZ AT AT_of AT_tr AT_ga AT_bb AT_fg AT_sg fT_ga fT_bb) sz)) 0 0 (va_A (wd_X1_firstBestPillow cI cZ AT AT_of AT_tr AT_ga AT_bb AT_fg AT_sg fT_ga fT_bb) sz) := by
  refine q_met (fun A => q_Qi D (wd_X1_firstBestPillow cI cZ AT AT_of AT_tr AT_ga AT_bb AT_fg AT_sg fT_ga fT_bb) out A) (by decide) (Nat.le_of_ble_eq_true rfl) ?_
  intro p e s m below meth c ls A hx hb hr hml hown hts hlocks _ hA hS hP hD hK hN hl
  have hown : s.vm.findClass RX1 = some m.cls := hown
  have hl : lv_has ls 3 [(0, .ref AT), (1, .int p1)] := hl
  have hL_2 : ∀ (fu_2 : Nat) (x2 : Int32) (H : Heap) (locs : List Loc) (ls : Array Slot), fL_X1_firstBestPillow_2 p1 fT_ga fT_bb fu_2 x2 = some out → va_P D vwCl (wd_X1_firstBestPillow cI cZ AT AT_of AT_tr AT_ga AT_bb AT_fg AT_sg fT_ga fT_bb) H → va_D A (wd_X1_firstBestPillow cI cZ AT AT_of AT_tr AT_ga AT_bb AT_fg AT_sg fT_ga fT_bb) → va_S A s.heap H locs → lv_has ls 3 [(2, .int x2), (0, .ref AT), (1, .int p1)] → W p l e { frames := 2, cells := 0, slots := 0, locals := 44 } s m ([.ref AT, .int p1] : List Value).toArray below meth c H locs 0 0 (MQ below (q_Qi D (wd_X1_firstBestPillow cI cZ AT AT_of AT_tr AT_ga AT_bb AT_fg AT_sg fT_ga fT_bb) out A) ([.ref AT, .int p1] : List Value).toArray s 0 0 A) (F0 m 2 ls []) := by
    intro fu_2
    induction fu_2 with
    | zero => intro x2 H locs ls hm hP hD hS hl; exact absurd (show (none : Option (Int32)) = some out from hm) (fun h => nomatch h)
    | succ fu_2 ih_2 =>
      intro x2 H locs ls hm hP hD hS hl
      rw [fL_X1_firstBestPillow_2] at hm
      refine lv_iload_n hx hb dX1_firstBestPillow_2 rfl (lv_at hl 0 rfl) ?_
      refine lv_iconst (v := 5) hx hb dX1_firstBestPillow_3 (by decide) ?_
      refine lv_icmp_ge (tgt := 38) hx hb dX1_firstBestPillow_4 (by decide) (fun c_4 => ?_) (fun c_4 => ?_)
      · have hm := it_s c_4 hm
        refine lv_iload_n hx hb dX1_firstBestPillow_38 rfl (lv_at hl 0 rfl) ?_
        have hm := Option.some.inj hm
        subst hm
        exact q_iret (v := x2) hx hb hr hlocks hP hS dX1_firstBestPillow_39
      · have hm := it_n c_4 hm
        refine lv_iload_n hx hb dX1_firstBestPillow_7 rfl (lv_at hl 2 rfl) ?_
        refine lv_iload_n hx hb dX1_firstBestPillow_8 rfl (lv_at hl 0 rfl) ?_
        obtain ⟨r_9, hc_9, hm⟩ := ob_s hm
        refine q_ci (q_rn (rest := []) ⟨hx, hb, hml, hown, hts⟩ hK hN hP hD (c_X7_holds l D cI cZ H.size p1 x2 r_9 hc_9) mb_X7_holds wt_X7_holds (nl_X1_105 hN) [] rfl rfl (Nat.le_of_ble_eq_true rfl) (Nat.le_of_ble_eq_true rfl) rfl hl.1 rfl (Nat.le_of_ble_eq_true rfl) ⟨Nat.le_refl 0, Nat.le_refl 0⟩ dX1_firstBestPillow_9) hP hD hS hA [] rfl rfl (fun H locs hP hD hS => ?_)
        have hP : va_P D vwCl (wd_X1_firstBestPillow cI cZ AT AT_of AT_tr AT_ga AT_bb AT_fg AT_sg fT_ga fT_bb) H := hP
        have hD : va_D A (wd_X1_firstBestPillow cI cZ AT AT_of AT_tr AT_ga AT_bb AT_fg AT_sg fT_ga fT_bb) := hD
        refine lv_if_ne (tgt := 32) hx hb dX1_firstBestPillow_12 (by decide) (fun c_12 => ?_) (fun c_12 => ?_)
        · have hm := it_n c_12 hm
          refine lv_iinc (v := (x2 + 1)) (lv' := [(2, .int (x2 + 1)), (0, .ref AT), (1, .int p1)]) hx hb dX1_firstBestPillow_32 hl (k := 0) rfl rfl (by decide) rfl (fun ls hl => ?_)
          refine lv_goto (tgt := 2) hx hb dX1_firstBestPillow_35 (by decide) ?_
          exact ih_2 (x2 + 1) H locs ls hm hP hD hS (lv_sub hl [0, 1, 2] rfl)
        · have hm := it_s c_12 hm
          refine lv_aload_n hx hb dX1_firstBestPillow_15 rfl (lv_at hl 1 rfl) ?_
          refine lv_iload_n hx hb dX1_firstBestPillow_16 rfl (lv_at hl 2 rfl) ?_
          refine lv_iload_n hx hb dX1_firstBestPillow_17 rfl (lv_at hl 0 rfl) ?_
          obtain ⟨r_18, hc_18, hm⟩ := ob_s hm
          refine q_ci (q_rv (rest := []) ⟨hx, hb, hml, hown, hts⟩ hK hN hP hD (c_X1_addedOn l D cI cZ H.size AT AT_of AT_tr AT_ga AT_bb AT_fg AT_sg fT_ga fT_bb p1 x2 r_18 hc_18) mb_X1_addedOn mv_X1_addedOn wl_X1_108 [0, 1, 2] rfl rfl rfl (Nat.le_of_ble_eq_true rfl) (Nat.le_of_ble_eq_true rfl) rfl hl.1 rfl (Nat.le_of_ble_eq_true rfl) ⟨Nat.le_refl 0, Nat.le_refl 0⟩ dX1_firstBestPillow_18) hP hD hS hA [0, 1, 2] rfl rfl (fun H locs hP hD hS => ?_)
          have hP : va_P D vwCl (wd_X1_firstBestPillow cI cZ AT AT_of AT_tr AT_ga AT_bb AT_fg AT_sg fT_ga fT_bb) H := hP
          have hD : va_D A (wd_X1_firstBestPillow cI cZ AT AT_of AT_tr AT_ga AT_bb AT_fg AT_sg fT_ga fT_bb) := hD
          refine lv_aload_n hx hb dX1_firstBestPillow_21 rfl (lv_at hl 1 rfl) ?_
          refine gf_X1_25 (v := .ref AT_bb) hx hb hts hown hK hN hP 0 rfl rfl dX1_firstBestPillow_22 ?_
          refine lv_iload_n hx hb dX1_firstBestPillow_25 rfl (lv_at hl 2 rfl) ?_
          obtain ⟨r_26, hc_26, hm⟩ := ob_s hm
          refine q_ci (q_rn (rest := [.int r_18]) ⟨hx, hb, hml, hown, hts⟩ hK hN hP hD (c_X7_at l D cI cZ H.size AT_bb 64 fT_bb p1 r_26 hc_26) mb_X7_at wt_X7_at (nl_X1_93 hN) [2] rfl rfl (Nat.le_of_ble_eq_true rfl) (Nat.le_of_ble_eq_true rfl) rfl hl.1 rfl (Nat.le_of_ble_eq_true rfl) ⟨Nat.le_refl 0, Nat.le_refl 0⟩ dX1_firstBestPillow_26) hP hD hS hA [2] rfl rfl (fun H locs hP hD hS => ?_)
          have hP : va_P D vwCl (wd_X1_firstBestPillow cI cZ AT AT_of AT_tr AT_ga AT_bb AT_fg AT_sg fT_ga fT_bb) H := hP
          have hD : va_D A (wd_X1_firstBestPillow cI cZ AT AT_of AT_tr AT_ga AT_bb AT_fg AT_sg fT_ga fT_bb) := hD
          refine lv_icmp_eq (tgt := 38) hx hb dX1_firstBestPillow_29 (by decide) (fun c_29 => ?_) (fun c_29 => ?_)
          · have hm := it_s c_29 hm
            refine lv_iload_n hx hb dX1_firstBestPillow_38 rfl (lv_at hl 0 rfl) ?_
            have hm := Option.some.inj hm
            subst hm
            exact q_iret (v := x2) hx hb hr hlocks hP hS dX1_firstBestPillow_39
          · have hm := it_n c_29 hm
            refine lv_iinc (v := (x2 + 1)) (lv' := [(2, .int (x2 + 1)), (0, .ref AT), (1, .int p1)]) hx hb dX1_firstBestPillow_32 hl (k := 0) rfl rfl (by decide) rfl (fun ls hl => ?_)
            refine lv_goto (tgt := 2) hx hb dX1_firstBestPillow_35 (by decide) ?_
            exact ih_2 (x2 + 1) H locs ls hm hP hD hS (lv_sub hl [0, 1, 2] rfl)
  unfold fm_X1_firstBestPillow at hm
  refine q_gen hS hP ?_
  intro H locs hP hS
  refine lv_iconst (v := 0) hx hb dX1_firstBestPillow_0 (by decide) ?_
  refine lv_istore_n (lv' := [(2, .int 0), (0, .ref AT), (1, .int p1)]) hx hb dX1_firstBestPillow_1 rfl hl (by decide) rfl (fun ls hl => ?_)
  exact hL_2 FU 0 H locs ls hm hP hD hS (lv_sub hl [0, 1, 2] rfl)
theorem mb_X1_firstPillowOf : q_mb yX1_firstPillowOf cX1_firstPillowOf 5 (some .int) 1 := ⟨wc_X1_firstPillowOf, wn_X1, by decide, by decide, by decide +kernel⟩
theorem mv_X1_firstPillowOf : q_mv yX1_firstPillowOf 1 := ⟨wi_X1_firstPillowOf, ws_X1_firstPillowOf, _, rfl, rfl⟩
def wd_X1_firstPillowOf (cI cZ : ClassId) (AT AT_of AT_tr AT_ga AT_bb AT_fg AT_sg : Nat) (fT_ga : Nat → Int32) (fT_bb : Nat → Int32) : va_W := [(AT, .inr (1, [.ref AT_of, .ref AT_tr, .ref AT_ga, .ref AT_bb, .ref AT_fg, .ref AT_sg])), (AT_ga, .inl (cI, 36, .inl fT_ga)), (AT_bb, .inl (cI, 64, .inl fT_bb))]
def fL_X1_firstPillowOf_7 (p1 : Int32) (fT_ga : Nat → Int32) (fT_bb : Nat → Int32) : Nat → Int32 → Int32 → Int32 → Option (Int32)
  | 0, _, _, _ => none
  | fu + 1, x4, x3, x2 => if p1 < x4 then (some (x3)) else (if 6 ≤ x4 then (some (x3)) else (Option.bind (fm_X1_firstBestPillow x2 fT_ga fT_bb) (fun r_22 => fL_X1_firstPillowOf_7 p1 fT_ga fT_bb fu (x4 + 1) r_22 (x2 ||| (1 <<< (r_22 &&& 31))))))
def fm_X1_firstPillowOf (p1 : Int32) (fT_ga : Nat → Int32) (fT_bb : Nat → Int32) : Option (Int32) := fL_X1_firstPillowOf_7 p1 fT_ga fT_bb FU 0 (-1) 0
set_option maxHeartbeats 4000000 in
set_option maxRecDepth 100000 in
theorem c_X1_firstPillowOf (l : Launch) (D : va_G) (cI cZ : ClassId) (sz : Nat) (AT AT_of AT_tr AT_ga AT_bb AT_fg AT_sg : Nat) (fT_ga : Nat → Int32) (fT_bb : Nat → Int32) (p1 : Int32) (out : (Int32)) (hm : fm_X1_firstPillowOf p1 fT_ga fT_bb = some out) : Met l yX1_firstPillowOf (Cond.code yX1_firstPillowOf cX1_firstPillowOf 5 (some .int) :: bg) { frames := 3, cells := 0, slots := 0, locals := 66 } (va_Pc [.ref AT, .int p1] (q_pre D cI cZ sz (wd_X1_firstPillowOf cI cZ AT AT_of AT_tr AT_ga AT_bb AT_fg AT_sg fT_ga fT_bb))) (q_Qi D (wd_X1_firstPillowOf cI cZ AT AT_of AT_tr AT_ga AT_bb AT_fg AT_sg fT_ga fT_bb) out (va_A (wd_X1_firstPillowOf cI cZ AT AT_of AT_tr AT_ga AT_bb AT_fg AT_sg fT_ga fT_bb) sz)) 0 0 (va_A (wd_X1_firstPillowOf cI cZ AT AT_of AT_tr AT_ga AT_bb AT_fg AT_sg fT_ga fT_bb) sz) := by
  refine q_met (fun A => q_Qi D (wd_X1_firstPillowOf cI cZ AT AT_of AT_tr AT_ga AT_bb AT_fg AT_sg fT_ga fT_bb) out A) (by decide) (Nat.le_of_ble_eq_true rfl) ?_
  intro p e s m below meth c ls A hx hb hr hml hown hts hlocks _ hA hS hP hD hK hN hl
  have hown : s.vm.findClass RX1 = some m.cls := hown
  have hl : lv_has ls 5 [(0, .ref AT), (1, .int p1)] := hl
  have hL_7 : ∀ (fu_7 : Nat) (x4 : Int32) (x3 : Int32) (x2 : Int32) (H : Heap) (locs : List Loc) (ls : Array Slot), fL_X1_firstPillowOf_7 p1 fT_ga fT_bb fu_7 x4 x3 x2 = some out → va_P D vwCl (wd_X1_firstPillowOf cI cZ AT AT_of AT_tr AT_ga AT_bb AT_fg AT_sg fT_ga fT_bb) H → va_D A (wd_X1_firstPillowOf cI cZ AT AT_of AT_tr AT_ga AT_bb AT_fg AT_sg fT_ga fT_bb) → va_S A s.heap H locs → lv_has ls 5 [(4, .int x4), (3, .int x3), (2, .int x2), (0, .ref AT), (1, .int p1)] → W p l e { frames := 3, cells := 0, slots := 0, locals := 66 } s m ([.ref AT, .int p1] : List Value).toArray below meth c H locs 0 0 (MQ below (q_Qi D (wd_X1_firstPillowOf cI cZ AT AT_of AT_tr AT_ga AT_bb AT_fg AT_sg fT_ga fT_bb) out A) ([.ref AT, .int p1] : List Value).toArray s 0 0 A) (F0 m 7 ls []) := by
    intro fu_7
    induction fu_7 with
    | zero => intro x4 x3 x2 H locs ls hm hP hD hS hl; exact absurd (show (none : Option (Int32)) = some out from hm) (fun h => nomatch h)
    | succ fu_7 ih_7 =>
      intro x4 x3 x2 H locs ls hm hP hD hS hl
      rw [fL_X1_firstPillowOf_7] at hm
      refine lv_iload hx hb dX1_firstPillowOf_7 (lv_at hl 0 rfl) ?_
      refine lv_iload_n hx hb dX1_firstPillowOf_9 rfl (lv_at hl 4 rfl) ?_
      refine lv_icmp_gt (tgt := 38) hx hb dX1_firstPillowOf_10 (by decide) (fun c_10 => ?_) (fun c_10 => ?_)
      · have hm := it_s c_10 hm
        refine lv_iload_n hx hb dX1_firstPillowOf_38 rfl (lv_at hl 1 rfl) ?_
        have hm := Option.some.inj hm
        subst hm
        exact q_iret (v := x3) hx hb hr hlocks hP hS dX1_firstPillowOf_39
      · have hm := it_n c_10 hm
        refine lv_iload hx hb dX1_firstPillowOf_13 (lv_at hl 0 rfl) ?_
        refine lv_bipush (v := 6) hx hb dX1_firstPillowOf_15 (by decide) ?_
        refine lv_icmp_ge (tgt := 38) hx hb dX1_firstPillowOf_17 (by decide) (fun c_17 => ?_) (fun c_17 => ?_)
        · have hm := it_s c_17 hm
          refine lv_iload_n hx hb dX1_firstPillowOf_38 rfl (lv_at hl 1 rfl) ?_
          have hm := Option.some.inj hm
          subst hm
          exact q_iret (v := x3) hx hb hr hlocks hP hS dX1_firstPillowOf_39
        · have hm := it_n c_17 hm
          refine lv_aload_n hx hb dX1_firstPillowOf_20 rfl (lv_at hl 3 rfl) ?_
          refine lv_iload_n hx hb dX1_firstPillowOf_21 rfl (lv_at hl 2 rfl) ?_
          obtain ⟨r_22, hc_22, hm⟩ := ob_s hm
          refine q_ci (q_rv (rest := []) ⟨hx, hb, hml, hown, hts⟩ hK hN hP hD (c_X1_firstBestPillow l D cI cZ H.size AT AT_of AT_tr AT_ga AT_bb AT_fg AT_sg fT_ga fT_bb x2 r_22 hc_22) mb_X1_firstBestPillow mv_X1_firstBestPillow wl_X1_111 [0, 1, 2] rfl rfl rfl (Nat.le_of_ble_eq_true rfl) (Nat.le_of_ble_eq_true rfl) rfl hl.1 rfl (Nat.le_of_ble_eq_true rfl) ⟨Nat.le_refl 0, Nat.le_refl 0⟩ dX1_firstPillowOf_22) hP hD hS hA [0, 1, 2] rfl rfl (fun H locs hP hD hS => ?_)
          have hP : va_P D vwCl (wd_X1_firstPillowOf cI cZ AT AT_of AT_tr AT_ga AT_bb AT_fg AT_sg fT_ga fT_bb) H := hP
          have hD : va_D A (wd_X1_firstPillowOf cI cZ AT AT_of AT_tr AT_ga AT_bb AT_fg AT_sg fT_ga fT_bb) := hD
          refine lv_istore_n (lv' := [(3, .int r_22), (4, .int x4), (2, .int x2), (0, .ref AT), (1, .int p1)]) hx hb dX1_firstPillowOf_25 rfl hl (by decide) rfl (fun ls hl => ?_)
          refine lv_iload_n hx hb dX1_firstPillowOf_26 rfl (lv_at hl 2 rfl) ?_
          refine lv_iconst (v := 1) hx hb dX1_firstPillowOf_27 (by decide) ?_
          refine lv_iload_n hx hb dX1_firstPillowOf_28 rfl (lv_at hl 0 rfl) ?_
          refine lv_ishl hx hb dX1_firstPillowOf_29 ?_
          refine lv_ior hx hb dX1_firstPillowOf_30 ?_
          refine lv_istore_n (lv' := [(2, .int (x2 ||| (1 <<< (r_22 &&& 31)))), (3, .int r_22), (4, .int x4), (0, .ref AT), (1, .int p1)]) hx hb dX1_firstPillowOf_31 rfl hl (by decide) rfl (fun ls hl => ?_)
          refine lv_iinc (v := (x4 + 1)) (lv' := [(4, .int (x4 + 1)), (2, .int (x2 ||| (1 <<< (r_22 &&& 31)))), (3, .int r_22), (0, .ref AT), (1, .int p1)]) hx hb dX1_firstPillowOf_32 hl (k := 2) rfl rfl (by decide) rfl (fun ls hl => ?_)
          refine lv_goto (tgt := 7) hx hb dX1_firstPillowOf_35 (by decide) ?_
          exact ih_7 (x4 + 1) r_22 (x2 ||| (1 <<< (r_22 &&& 31))) H locs ls hm hP hD hS (lv_sub hl [0, 2, 1, 3, 4] rfl)
  unfold fm_X1_firstPillowOf at hm
  refine q_gen hS hP ?_
  intro H locs hP hS
  refine lv_iconst (v := 0) hx hb dX1_firstPillowOf_0 (by decide) ?_
  refine lv_istore_n (lv' := [(2, .int 0), (0, .ref AT), (1, .int p1)]) hx hb dX1_firstPillowOf_1 rfl hl (by decide) rfl (fun ls hl => ?_)
  refine lv_iconst (v := (-1)) hx hb dX1_firstPillowOf_2 (by decide) ?_
  refine lv_istore_n (lv' := [(3, .int (-1)), (2, .int 0), (0, .ref AT), (1, .int p1)]) hx hb dX1_firstPillowOf_3 rfl hl (by decide) rfl (fun ls hl => ?_)
  refine lv_iconst (v := 0) hx hb dX1_firstPillowOf_4 (by decide) ?_
  refine lv_istore (lv' := [(4, .int 0), (3, .int (-1)), (2, .int 0), (0, .ref AT), (1, .int p1)]) hx hb dX1_firstPillowOf_5 hl (by decide) rfl (fun ls hl => ?_)
  exact hL_7 FU 0 (-1) 0 H locs ls hm hP hD hS (lv_sub hl [0, 1, 2, 3, 4] rfl)
theorem mb_X1_bestPlacing : q_mb yX1_bestPlacing cX1_bestPlacing 4 (some .int) 2 := ⟨wc_X1_bestPlacing, wn_X1, by decide, by decide, by decide +kernel⟩
theorem mv_X1_bestPlacing : q_mv yX1_bestPlacing 1 := ⟨wi_X1_bestPlacing, ws_X1_bestPlacing, _, rfl, rfl⟩
def wd_X1_bestPlacing (cI cZ : ClassId) (AT AT_of AT_tr AT_ga AT_bb AT_fg AT_sg AT_of_sl AT_of_fl AT_of_ro AT_of_nt AT_of_mk AT_of_mo AT_of_sl_c AT_of_fl_c : Nat) (vT_of_ng : Int32) (vT_of_sl_n : Int32) (fT_of_sl_c : Nat → Int32) (vT_of_fl_n : Int32) (fT_of_fl_c : Nat → Int32) (fT_ga : Nat → Int32) (fT_bb : Nat → Int32) : va_W := [(AT, .inr (1, [.ref AT_of, .ref AT_tr, .ref AT_ga, .ref AT_bb, .ref AT_fg, .ref AT_sg])), (AT_of, .inr (4, [.ref AT_of_sl, .ref AT_of_fl, .ref AT_of_ro, .ref AT_of_nt, .ref AT_of_mk, .ref AT_of_mo, .int vT_of_ng])), (AT_of_sl, .inr (3, [.int 4, .ref AT_of_sl_c, .int vT_of_sl_n])), (AT_of_sl_c, .inl (cI, 24, .inl fT_of_sl_c)), (AT_of_fl, .inr (3, [.int 3, .ref AT_of_fl_c, .int vT_of_fl_n])), (AT_of_fl_c, .inl (cI, 18, .inl fT_of_fl_c)), (AT_ga, .inl (cI, 36, .inl fT_ga)), (AT_bb, .inl (cI, 64, .inl fT_bb))]
def fL_X1_bestPlacing_7 (p1 : Int32) (p2 : Int32) (vT_of_ng : Int32) (vT_of_sl_n : Int32) (fT_of_sl_c : Nat → Int32) (vT_of_fl_n : Int32) (fT_of_fl_c : Nat → Int32) : Nat → Int32 → (Nat → Int32) → (Nat → Int32) → Option (Int32 × (Nat → Int32) × (Nat → Int32))
  | 0, _, _, _ => none
  | fu + 1, x3, fT_ga, fT_bb => if x3 < 0 then (if p2 = (-1) then (Option.bind (fm_X7_at 64 0 fT_bb) (fun r_41 => some (r_41, fT_ga, fT_bb))) else (Option.bind (fm_X1_firstPillowOf p2 fT_ga fT_bb) (fun r_49 => some (r_49, fT_ga, fT_bb)))) else (Option.bind (fm_X1_bestAdded x3 p1 vT_of_sl_n fT_ga fT_bb) (fun r_19 => Option.bind (fm_X7_put 64 x3 r_19 fT_bb) (fun r_22 => fL_X1_bestPlacing_7 p1 p2 vT_of_ng vT_of_sl_n fT_of_sl_c vT_of_fl_n fT_of_fl_c fu (x3 + (-1)) fT_ga r_22)))
def fm_X1_bestPlacing (p1 : Int32) (p2 : Int32) (vT_of_ng : Int32) (vT_of_sl_n : Int32) (fT_of_sl_c : Nat → Int32) (vT_of_fl_n : Int32) (fT_of_fl_c : Nat → Int32) (fT_ga : Nat → Int32) (fT_bb : Nat → Int32) : Option (Int32 × (Nat → Int32) × (Nat → Int32)) := Option.bind (fm_X1_fillGains vT_of_ng vT_of_sl_n fT_of_sl_c vT_of_fl_n fT_of_fl_c fT_ga) (fun r_1 => fL_X1_bestPlacing_7 p1 p2 vT_of_ng vT_of_sl_n fT_of_sl_c vT_of_fl_n fT_of_fl_c FU 63 r_1 fT_bb)
set_option maxHeartbeats 4000000 in
set_option maxRecDepth 100000 in
theorem c_X1_bestPlacing (l : Launch) (D : va_G) (cI cZ : ClassId) (sz : Nat) (AT AT_of AT_tr AT_ga AT_bb AT_fg AT_sg AT_of_sl AT_of_fl AT_of_ro AT_of_nt AT_of_mk AT_of_mo AT_of_sl_c AT_of_fl_c : Nat) (vT_of_ng : Int32) (vT_of_sl_n : Int32) (fT_of_sl_c : Nat → Int32) (vT_of_fl_n : Int32) (fT_of_fl_c : Nat → Int32) (fT_ga : Nat → Int32) (fT_bb : Nat → Int32) (p1 : Int32) (p2 : Int32) (out : (Int32 × (Nat → Int32) × (Nat → Int32))) (hm : fm_X1_bestPlacing p1 p2 vT_of_ng vT_of_sl_n fT_of_sl_c vT_of_fl_n fT_of_fl_c fT_ga fT_bb = some out) : Met l yX1_bestPlacing (Cond.code yX1_bestPlacing cX1_bestPlacing 4 (some .int) :: bg) { frames := 4, cells := 0, slots := 0, locals := 97 } (va_Pc [.ref AT, .int p1, .int p2] (q_pre D cI cZ sz (wd_X1_bestPlacing cI cZ AT AT_of AT_tr AT_ga AT_bb AT_fg AT_sg AT_of_sl AT_of_fl AT_of_ro AT_of_nt AT_of_mk AT_of_mo AT_of_sl_c AT_of_fl_c vT_of_ng vT_of_sl_n fT_of_sl_c vT_of_fl_n fT_of_fl_c fT_ga fT_bb))) (q_Qi D (wd_X1_bestPlacing cI cZ AT AT_of AT_tr AT_ga AT_bb AT_fg AT_sg AT_of_sl AT_of_fl AT_of_ro AT_of_nt AT_of_mk AT_of_mo AT_of_sl_c AT_of_fl_c vT_of_ng vT_of_sl_n fT_of_sl_c vT_of_fl_n fT_of_fl_c out.2.1 out.2.2) out.1 (va_A (wd_X1_bestPlacing cI cZ AT AT_of AT_tr AT_ga AT_bb AT_fg AT_sg AT_of_sl AT_of_fl AT_of_ro AT_of_nt AT_of_mk AT_of_mo AT_of_sl_c AT_of_fl_c vT_of_ng vT_of_sl_n fT_of_sl_c vT_of_fl_n fT_of_fl_c fT_ga fT_bb) sz)) 0 0 (va_A (wd_X1_bestPlacing cI cZ AT AT_of AT_tr AT_ga AT_bb AT_fg AT_sg AT_of_sl AT_of_fl AT_of_ro AT_of_nt AT_of_mk AT_of_mo AT_of_sl_c AT_of_fl_c vT_of_ng vT_of_sl_n fT_of_sl_c vT_of_fl_n fT_of_fl_c fT_ga fT_bb) sz) := by
  refine q_met (fun A => q_Qi D (wd_X1_bestPlacing cI cZ AT AT_of AT_tr AT_ga AT_bb AT_fg AT_sg AT_of_sl AT_of_fl AT_of_ro AT_of_nt AT_of_mk AT_of_mo AT_of_sl_c AT_of_fl_c vT_of_ng vT_of_sl_n fT_of_sl_c vT_of_fl_n fT_of_fl_c out.2.1 out.2.2) out.1 A) (by decide) (Nat.le_of_ble_eq_true rfl) ?_
  intro p e s m below meth c ls A hx hb hr hml hown hts hlocks _ hA hS hP hD hK hN hl
  have hown : s.vm.findClass RX1 = some m.cls := hown
  have hl : lv_has ls 4 [(0, .ref AT), (1, .int p1), (2, .int p2)] := hl
  have hL_7 : ∀ (fu_7 : Nat) (x3 : Int32) (fT_ga : Nat → Int32) (fT_bb : Nat → Int32) (H : Heap) (locs : List Loc) (ls : Array Slot), fL_X1_bestPlacing_7 p1 p2 vT_of_ng vT_of_sl_n fT_of_sl_c vT_of_fl_n fT_of_fl_c fu_7 x3 fT_ga fT_bb = some out → va_P D vwCl (wd_X1_bestPlacing cI cZ AT AT_of AT_tr AT_ga AT_bb AT_fg AT_sg AT_of_sl AT_of_fl AT_of_ro AT_of_nt AT_of_mk AT_of_mo AT_of_sl_c AT_of_fl_c vT_of_ng vT_of_sl_n fT_of_sl_c vT_of_fl_n fT_of_fl_c fT_ga fT_bb) H → va_D A (wd_X1_bestPlacing cI cZ AT AT_of AT_tr AT_ga AT_bb AT_fg AT_sg AT_of_sl AT_of_fl AT_of_ro AT_of_nt AT_of_mk AT_of_mo AT_of_sl_c AT_of_fl_c vT_of_ng vT_of_sl_n fT_of_sl_c vT_of_fl_n fT_of_fl_c fT_ga fT_bb) → va_S A s.heap H locs → lv_has ls 4 [(3, .int x3), (0, .ref AT), (1, .int p1), (2, .int p2)] → W p l e { frames := 4, cells := 0, slots := 0, locals := 97 } s m ([.ref AT, .int p1, .int p2] : List Value).toArray below meth c H locs 0 0 (MQ below (q_Qi D (wd_X1_bestPlacing cI cZ AT AT_of AT_tr AT_ga AT_bb AT_fg AT_sg AT_of_sl AT_of_fl AT_of_ro AT_of_nt AT_of_mk AT_of_mo AT_of_sl_c AT_of_fl_c vT_of_ng vT_of_sl_n fT_of_sl_c vT_of_fl_n fT_of_fl_c out.2.1 out.2.2) out.1 A) ([.ref AT, .int p1, .int p2] : List Value).toArray s 0 0 A) (F0 m 7 ls []) := by
    intro fu_7
    induction fu_7 with
    | zero => intro x3 fT_ga fT_bb H locs ls hm hP hD hS hl; exact absurd (show (none : Option (Int32 × (Nat → Int32) × (Nat → Int32))) = some out from hm) (fun h => nomatch h)
    | succ fu_7 ih_7 =>
      intro x3 fT_ga fT_bb H locs ls hm hP hD hS hl
      rw [fL_X1_bestPlacing_7] at hm
      refine lv_iload_n hx hb dX1_bestPlacing_7 rfl (lv_at hl 0 rfl) ?_
      refine lv_if_lt (tgt := 31) hx hb dX1_bestPlacing_8 (by decide) (fun c_8 => ?_) (fun c_8 => ?_)
      · have hm := it_s c_8 hm
        refine lv_iload_n hx hb dX1_bestPlacing_31 rfl (lv_at hl 3 rfl) ?_
        refine lv_iconst (v := (-1)) hx hb dX1_bestPlacing_32 (by decide) ?_
        refine lv_icmp_ne (tgt := 47) hx hb dX1_bestPlacing_33 (by decide) (fun c_33 => ?_) (fun c_33 => ?_)
        · have hm := it_n c_33 hm
          refine lv_aload_n hx hb dX1_bestPlacing_47 rfl (lv_at hl 1 rfl) ?_
          refine lv_iload_n hx hb dX1_bestPlacing_48 rfl (lv_at hl 3 rfl) ?_
          obtain ⟨r_49, hc_49, hm⟩ := ob_s hm
          refine q_ci (q_rv (rest := []) ⟨hx, hb, hml, hown, hts⟩ hK hN hP hD (c_X1_firstPillowOf l D cI cZ H.size AT AT_of AT_tr AT_ga AT_bb AT_fg AT_sg fT_ga fT_bb p2 r_49 hc_49) mb_X1_firstPillowOf mv_X1_firstPillowOf wl_X1_97 [0, 6, 7] rfl rfl rfl (Nat.le_of_ble_eq_true rfl) (Nat.le_of_ble_eq_true rfl) rfl hl.1 rfl (Nat.le_of_ble_eq_true rfl) ⟨Nat.le_refl 0, Nat.le_refl 0⟩ dX1_bestPlacing_49) hP hD hS hA [0, 6, 7] rfl rfl (fun H locs hP hD hS => ?_)
          have hP : va_P D vwCl (wd_X1_bestPlacing cI cZ AT AT_of AT_tr AT_ga AT_bb AT_fg AT_sg AT_of_sl AT_of_fl AT_of_ro AT_of_nt AT_of_mk AT_of_mo AT_of_sl_c AT_of_fl_c vT_of_ng vT_of_sl_n fT_of_sl_c vT_of_fl_n fT_of_fl_c fT_ga fT_bb) H := hP
          have hD : va_D A (wd_X1_bestPlacing cI cZ AT AT_of AT_tr AT_ga AT_bb AT_fg AT_sg AT_of_sl AT_of_fl AT_of_ro AT_of_nt AT_of_mk AT_of_mo AT_of_sl_c AT_of_fl_c vT_of_ng vT_of_sl_n fT_of_sl_c vT_of_fl_n fT_of_fl_c fT_ga fT_bb) := hD
          have hm := Option.some.inj hm
          subst hm
          exact q_iret (v := r_49) hx hb hr hlocks hP hS dX1_bestPlacing_52
        · have hm := it_s c_33 hm
          refine lv_aload_n hx hb dX1_bestPlacing_36 rfl (lv_at hl 1 rfl) ?_
          refine gf_X1_25 (v := .ref AT_bb) hx hb hts hown hK hN hP 0 rfl rfl dX1_bestPlacing_37 ?_
          refine lv_iconst (v := 0) hx hb dX1_bestPlacing_40 (by decide) ?_
          obtain ⟨r_41, hc_41, hm⟩ := ob_s hm
          refine q_ci (q_rn (rest := []) ⟨hx, hb, hml, hown, hts⟩ hK hN hP hD (c_X7_at l D cI cZ H.size AT_bb 64 fT_bb 0 r_41 hc_41) mb_X7_at wt_X7_at (nl_X1_93 hN) [7] rfl rfl (Nat.le_of_ble_eq_true rfl) (Nat.le_of_ble_eq_true rfl) rfl hl.1 rfl (Nat.le_of_ble_eq_true rfl) ⟨Nat.le_refl 0, Nat.le_refl 0⟩ dX1_bestPlacing_41) hP hD hS hA [7] rfl rfl (fun H locs hP hD hS => ?_)
          have hP : va_P D vwCl (wd_X1_bestPlacing cI cZ AT AT_of AT_tr AT_ga AT_bb AT_fg AT_sg AT_of_sl AT_of_fl AT_of_ro AT_of_nt AT_of_mk AT_of_mo AT_of_sl_c AT_of_fl_c vT_of_ng vT_of_sl_n fT_of_sl_c vT_of_fl_n fT_of_fl_c fT_ga fT_bb) H := hP
          have hD : va_D A (wd_X1_bestPlacing cI cZ AT AT_of AT_tr AT_ga AT_bb AT_fg AT_sg AT_of_sl AT_of_fl AT_of_ro AT_of_nt AT_of_mk AT_of_mo AT_of_sl_c AT_of_fl_c vT_of_ng vT_of_sl_n fT_of_sl_c vT_of_fl_n fT_of_fl_c fT_ga fT_bb) := hD
          refine lv_goto (tgt := 52) hx hb dX1_bestPlacing_44 (by decide) ?_
          have hm := Option.some.inj hm
          subst hm
          exact q_iret (v := r_41) hx hb hr hlocks hP hS dX1_bestPlacing_52
      · have hm := it_n c_8 hm
        refine lv_aload_n hx hb dX1_bestPlacing_11 rfl (lv_at hl 1 rfl) ?_
        refine gf_X1_25 (v := .ref AT_bb) hx hb hts hown hK hN hP 0 rfl rfl dX1_bestPlacing_12 ?_
        refine lv_iload_n hx hb dX1_bestPlacing_15 rfl (lv_at hl 0 rfl) ?_
        refine lv_aload_n hx hb dX1_bestPlacing_16 rfl (lv_at hl 1 rfl) ?_
        refine lv_iload_n hx hb dX1_bestPlacing_17 rfl (lv_at hl 0 rfl) ?_
        refine lv_iload_n hx hb dX1_bestPlacing_18 rfl (lv_at hl 2 rfl) ?_
        obtain ⟨r_19, hc_19, hm⟩ := ob_s hm
        refine q_ci (q_rv (rest := [.int x3, .ref AT_bb]) ⟨hx, hb, hml, hown, hts⟩ hK hN hP hD (c_X1_bestAdded l D cI cZ H.size AT AT_of AT_tr AT_ga AT_bb AT_fg AT_sg AT_of_sl AT_of_fl AT_of_ro AT_of_nt AT_of_mk AT_of_mo AT_of_sl_c vT_of_ng vT_of_sl_n fT_ga fT_bb x3 p1 r_19 hc_19) mb_X1_bestAdded mv_X1_bestAdded wl_X1_85 [0, 1, 2, 6, 7] rfl rfl rfl (Nat.le_of_ble_eq_true rfl) (Nat.le_of_ble_eq_true rfl) rfl hl.1 rfl (Nat.le_of_ble_eq_true rfl) ⟨Nat.le_refl 0, Nat.le_refl 0⟩ dX1_bestPlacing_19) hP hD hS hA [0, 1, 2, 6, 7] rfl rfl (fun H locs hP hD hS => ?_)
        have hP : va_P D vwCl (wd_X1_bestPlacing cI cZ AT AT_of AT_tr AT_ga AT_bb AT_fg AT_sg AT_of_sl AT_of_fl AT_of_ro AT_of_nt AT_of_mk AT_of_mo AT_of_sl_c AT_of_fl_c vT_of_ng vT_of_sl_n fT_of_sl_c vT_of_fl_n fT_of_fl_c fT_ga fT_bb) H := hP
        have hD : va_D A (wd_X1_bestPlacing cI cZ AT AT_of AT_tr AT_ga AT_bb AT_fg AT_sg AT_of_sl AT_of_fl AT_of_ro AT_of_nt AT_of_mk AT_of_mo AT_of_sl_c AT_of_fl_c vT_of_ng vT_of_sl_n fT_of_sl_c vT_of_fl_n fT_of_fl_c fT_ga fT_bb) := hD
        obtain ⟨r_22, hc_22, hm⟩ := ob_s hm
        refine q_cv (q_rn (rest := []) ⟨hx, hb, hml, hown, hts⟩ hK hN hP hD (c_X7_put l D cI cZ H.size AT_bb 64 fT_bb x3 r_19 r_22 hc_22) mb_X7_put wt_X7_put (nl_X1_89 hN) [7] rfl rfl (Nat.le_of_ble_eq_true rfl) (Nat.le_of_ble_eq_true rfl) rfl hl.1 rfl (Nat.le_of_ble_eq_true rfl) ⟨Nat.le_refl 0, Nat.le_refl 0⟩ dX1_bestPlacing_22) hP hD hS hA [7] rfl rfl (fun H locs hP hD hS => ?_)
        have hP : va_P D vwCl (wd_X1_bestPlacing cI cZ AT AT_of AT_tr AT_ga AT_bb AT_fg AT_sg AT_of_sl AT_of_fl AT_of_ro AT_of_nt AT_of_mk AT_of_mo AT_of_sl_c AT_of_fl_c vT_of_ng vT_of_sl_n fT_of_sl_c vT_of_fl_n fT_of_fl_c fT_ga r_22) H := hP
        have hD : va_D A (wd_X1_bestPlacing cI cZ AT AT_of AT_tr AT_ga AT_bb AT_fg AT_sg AT_of_sl AT_of_fl AT_of_ro AT_of_nt AT_of_mk AT_of_mo AT_of_sl_c AT_of_fl_c vT_of_ng vT_of_sl_n fT_of_sl_c vT_of_fl_n fT_of_fl_c fT_ga r_22) := hD
        refine lv_iinc (v := (x3 + (-1))) (lv' := [(3, .int (x3 + (-1))), (0, .ref AT), (1, .int p1), (2, .int p2)]) hx hb dX1_bestPlacing_25 hl (k := 0) rfl rfl (by decide) rfl (fun ls hl => ?_)
        refine lv_goto (tgt := 7) hx hb dX1_bestPlacing_28 (by decide) ?_
        exact ih_7 (x3 + (-1)) fT_ga r_22 H locs ls hm hP hD hS (lv_sub hl [0, 1, 2, 3] rfl)
  unfold fm_X1_bestPlacing at hm
  refine q_gen hS hP ?_
  intro H locs hP hS
  refine lv_aload_n hx hb dX1_bestPlacing_0 rfl (lv_at hl 0 rfl) ?_
  obtain ⟨r_1, hc_1, hm⟩ := ob_s hm
  refine q_cv (q_rv (rest := []) ⟨hx, hb, hml, hown, hts⟩ hK hN hP hD (c_X1_fillGains l D cI cZ H.size AT AT_of AT_tr AT_ga AT_bb AT_fg AT_sg AT_of_sl AT_of_fl AT_of_ro AT_of_nt AT_of_mk AT_of_mo AT_of_sl_c AT_of_fl_c vT_of_ng vT_of_sl_n fT_of_sl_c vT_of_fl_n fT_of_fl_c fT_ga r_1 hc_1) mb_X1_fillGains mv_X1_fillGains wl_X1_82 [0, 1, 2, 3, 4, 5, 6] rfl rfl rfl (Nat.le_of_ble_eq_true rfl) (Nat.le_of_ble_eq_true rfl) rfl hl.1 rfl (Nat.le_of_ble_eq_true rfl) ⟨Nat.le_refl 0, Nat.le_refl 0⟩ dX1_bestPlacing_1) hP hD hS hA [0, 1, 2, 3, 4, 5, 6] rfl rfl (fun H locs hP hD hS => ?_)
  have hP : va_P D vwCl (wd_X1_bestPlacing cI cZ AT AT_of AT_tr AT_ga AT_bb AT_fg AT_sg AT_of_sl AT_of_fl AT_of_ro AT_of_nt AT_of_mk AT_of_mo AT_of_sl_c AT_of_fl_c vT_of_ng vT_of_sl_n fT_of_sl_c vT_of_fl_n fT_of_fl_c r_1 fT_bb) H := hP
  have hD : va_D A (wd_X1_bestPlacing cI cZ AT AT_of AT_tr AT_ga AT_bb AT_fg AT_sg AT_of_sl AT_of_fl AT_of_ro AT_of_nt AT_of_mk AT_of_mo AT_of_sl_c AT_of_fl_c vT_of_ng vT_of_sl_n fT_of_sl_c vT_of_fl_n fT_of_fl_c r_1 fT_bb) := hD
  refine lv_bipush (v := 63) hx hb dX1_bestPlacing_4 (by decide) ?_
  refine lv_istore_n (lv' := [(3, .int 63), (0, .ref AT), (1, .int p1), (2, .int p2)]) hx hb dX1_bestPlacing_6 rfl hl (by decide) rfl (fun ls hl => ?_)
  exact hL_7 FU 63 r_1 fT_bb H locs ls hm hP hD hS (lv_sub hl [0, 1, 2, 3] rfl)
theorem mb_X1_fillGets : q_mb yX1_fillGets cX1_fillGets 5 none 2 := ⟨wc_X1_fillGets, wn_X1, by decide, by decide, by decide +kernel⟩
theorem mv_X1_fillGets : q_mv yX1_fillGets 1 := ⟨wi_X1_fillGets, ws_X1_fillGets, _, rfl, rfl⟩
def wd_X1_fillGets (cI cZ : ClassId) (AT A1 AT_of AT_tr AT_ga AT_bb AT_fg AT_sg AT_of_sl AT_of_fl AT_of_ro AT_of_nt AT_of_mk AT_of_mo AT_of_sl_c AT_of_fl_c : Nat) (n1 : Nat) (vT_of_ng : Int32) (vT_of_sl_n : Int32) (fT_of_sl_c : Nat → Int32) (vT_of_fl_n : Int32) (fT_of_fl_c : Nat → Int32) (f1 : Nat → Int32) : va_W := [(AT, .inr (1, [.ref AT_of, .ref AT_tr, .ref AT_ga, .ref AT_bb, .ref AT_fg, .ref AT_sg])), (AT_of, .inr (4, [.ref AT_of_sl, .ref AT_of_fl, .ref AT_of_ro, .ref AT_of_nt, .ref AT_of_mk, .ref AT_of_mo, .int vT_of_ng])), (AT_of_sl, .inr (3, [.int 4, .ref AT_of_sl_c, .int vT_of_sl_n])), (AT_of_sl_c, .inl (cI, 24, .inl fT_of_sl_c)), (AT_of_fl, .inr (3, [.int 3, .ref AT_of_fl_c, .int vT_of_fl_n])), (AT_of_fl_c, .inl (cI, 18, .inl fT_of_fl_c)), (A1, .inl (cI, n1, .inl f1))]
def fL_X1_fillGets_2 (n1 : Nat) (p2 : Int32) (vT_of_ng : Int32) (vT_of_sl_n : Int32) (fT_of_sl_c : Nat → Int32) (vT_of_fl_n : Int32) (fT_of_fl_c : Nat → Int32) : Nat → Int32 → (Nat → Int32) → Option ((Nat → Int32))
  | 0, _, _ => none
  | fu + 1, x3, f1 => if 6 ≤ x3 then (some (f1)) else (Option.bind (fm_X4_sleeperOn x3 vT_of_sl_n fT_of_sl_c) (fun r_13 => if r_13 = (-1) then (Option.bind (fm_X7_put n1 x3 0 f1) (fun r_47 => fL_X1_fillGets_2 n1 p2 vT_of_ng vT_of_sl_n fT_of_sl_c vT_of_fl_n fT_of_fl_c fu (x3 + 1) r_47)) else (Option.bind (fm_X4_believedOf r_13 p2 vT_of_ng vT_of_sl_n fT_of_sl_c vT_of_fl_n fT_of_fl_c) (fun r_44 => Option.bind (fm_X7_put n1 x3 r_44 f1) (fun r_47 => fL_X1_fillGets_2 n1 p2 vT_of_ng vT_of_sl_n fT_of_sl_c vT_of_fl_n fT_of_fl_c fu (x3 + 1) r_47)))))
def fm_X1_fillGets (n1 : Nat) (p2 : Int32) (vT_of_ng : Int32) (vT_of_sl_n : Int32) (fT_of_sl_c : Nat → Int32) (vT_of_fl_n : Int32) (fT_of_fl_c : Nat → Int32) (f1 : Nat → Int32) : Option ((Nat → Int32)) := fL_X1_fillGets_2 n1 p2 vT_of_ng vT_of_sl_n fT_of_sl_c vT_of_fl_n fT_of_fl_c FU 0 f1
set_option maxHeartbeats 4000000 in
set_option maxRecDepth 100000 in
theorem c_X1_fillGets (l : Launch) (D : va_G) (cI cZ : ClassId) (sz : Nat) (AT A1 AT_of AT_tr AT_ga AT_bb AT_fg AT_sg AT_of_sl AT_of_fl AT_of_ro AT_of_nt AT_of_mk AT_of_mo AT_of_sl_c AT_of_fl_c : Nat) (n1 : Nat) (vT_of_ng : Int32) (vT_of_sl_n : Int32) (fT_of_sl_c : Nat → Int32) (vT_of_fl_n : Int32) (fT_of_fl_c : Nat → Int32) (f1 : Nat → Int32) (p2 : Int32) (out : ((Nat → Int32))) (hm : fm_X1_fillGets n1 p2 vT_of_ng vT_of_sl_n fT_of_sl_c vT_of_fl_n fT_of_fl_c f1 = some out) : Met l yX1_fillGets (Cond.code yX1_fillGets cX1_fillGets 5 none :: bg) { frames := 3, cells := 0, slots := 0, locals := 70 } (va_Pc [.ref AT, .ref A1, .int p2] (q_pre D cI cZ sz (wd_X1_fillGets cI cZ AT A1 AT_of AT_tr AT_ga AT_bb AT_fg AT_sg AT_of_sl AT_of_fl AT_of_ro AT_of_nt AT_of_mk AT_of_mo AT_of_sl_c AT_of_fl_c n1 vT_of_ng vT_of_sl_n fT_of_sl_c vT_of_fl_n fT_of_fl_c f1))) (q_Qv D (wd_X1_fillGets cI cZ AT A1 AT_of AT_tr AT_ga AT_bb AT_fg AT_sg AT_of_sl AT_of_fl AT_of_ro AT_of_nt AT_of_mk AT_of_mo AT_of_sl_c AT_of_fl_c n1 vT_of_ng vT_of_sl_n fT_of_sl_c vT_of_fl_n fT_of_fl_c out) (va_A (wd_X1_fillGets cI cZ AT A1 AT_of AT_tr AT_ga AT_bb AT_fg AT_sg AT_of_sl AT_of_fl AT_of_ro AT_of_nt AT_of_mk AT_of_mo AT_of_sl_c AT_of_fl_c n1 vT_of_ng vT_of_sl_n fT_of_sl_c vT_of_fl_n fT_of_fl_c f1) sz)) 0 0 (va_A (wd_X1_fillGets cI cZ AT A1 AT_of AT_tr AT_ga AT_bb AT_fg AT_sg AT_of_sl AT_of_fl AT_of_ro AT_of_nt AT_of_mk AT_of_mo AT_of_sl_c AT_of_fl_c n1 vT_of_ng vT_of_sl_n fT_of_sl_c vT_of_fl_n fT_of_fl_c f1) sz) := by
  refine q_met (fun A => q_Qv D (wd_X1_fillGets cI cZ AT A1 AT_of AT_tr AT_ga AT_bb AT_fg AT_sg AT_of_sl AT_of_fl AT_of_ro AT_of_nt AT_of_mk AT_of_mo AT_of_sl_c AT_of_fl_c n1 vT_of_ng vT_of_sl_n fT_of_sl_c vT_of_fl_n fT_of_fl_c out) A) (by decide) (Nat.le_of_ble_eq_true rfl) ?_
  intro p e s m below meth c ls A hx hb hr hml hown hts hlocks _ hA hS hP hD hK hN hl
  have hown : s.vm.findClass RX1 = some m.cls := hown
  have hl : lv_has ls 5 [(0, .ref AT), (1, .ref A1), (2, .int p2)] := hl
  have hL_2 : ∀ (fu_2 : Nat) (x3 : Int32) (f1 : Nat → Int32) (H : Heap) (locs : List Loc) (ls : Array Slot), fL_X1_fillGets_2 n1 p2 vT_of_ng vT_of_sl_n fT_of_sl_c vT_of_fl_n fT_of_fl_c fu_2 x3 f1 = some out → va_P D vwCl (wd_X1_fillGets cI cZ AT A1 AT_of AT_tr AT_ga AT_bb AT_fg AT_sg AT_of_sl AT_of_fl AT_of_ro AT_of_nt AT_of_mk AT_of_mo AT_of_sl_c AT_of_fl_c n1 vT_of_ng vT_of_sl_n fT_of_sl_c vT_of_fl_n fT_of_fl_c f1) H → va_D A (wd_X1_fillGets cI cZ AT A1 AT_of AT_tr AT_ga AT_bb AT_fg AT_sg AT_of_sl AT_of_fl AT_of_ro AT_of_nt AT_of_mk AT_of_mo AT_of_sl_c AT_of_fl_c n1 vT_of_ng vT_of_sl_n fT_of_sl_c vT_of_fl_n fT_of_fl_c f1) → va_S A s.heap H locs → lv_has ls 5 [(3, .int x3), (0, .ref AT), (1, .ref A1), (2, .int p2)] → W p l e { frames := 3, cells := 0, slots := 0, locals := 70 } s m ([.ref AT, .ref A1, .int p2] : List Value).toArray below meth c H locs 0 0 (MQ below (q_Qv D (wd_X1_fillGets cI cZ AT A1 AT_of AT_tr AT_ga AT_bb AT_fg AT_sg AT_of_sl AT_of_fl AT_of_ro AT_of_nt AT_of_mk AT_of_mo AT_of_sl_c AT_of_fl_c n1 vT_of_ng vT_of_sl_n fT_of_sl_c vT_of_fl_n fT_of_fl_c out) A) ([.ref AT, .ref A1, .int p2] : List Value).toArray s 0 0 A) (F0 m 2 ls []) := by
    intro fu_2
    induction fu_2 with
    | zero => intro x3 f1 H locs ls hm hP hD hS hl; exact absurd (show (none : Option ((Nat → Int32))) = some out from hm) (fun h => nomatch h)
    | succ fu_2 ih_2 =>
      intro x3 f1 H locs ls hm hP hD hS hl
      rw [fL_X1_fillGets_2] at hm
      refine lv_iload_n hx hb dX1_fillGets_2 rfl (lv_at hl 0 rfl) ?_
      refine lv_bipush (v := 6) hx hb dX1_fillGets_3 (by decide) ?_
      refine lv_icmp_ge (tgt := 56) hx hb dX1_fillGets_5 (by decide) (fun c_5 => ?_) (fun c_5 => ?_)
      · have hm := it_s c_5 hm
        have hm := Option.some.inj hm
        subst hm
        exact q_vret hx hb hr hlocks hP hS dX1_fillGets_56
      · have hm := it_n c_5 hm
        refine lv_aload_n hx hb dX1_fillGets_8 rfl (lv_at hl 1 rfl) ?_
        refine gf_X1_9 (v := .ref AT_of) hx hb hts hown hK hN hP 0 rfl rfl dX1_fillGets_9 ?_
        refine lv_iload_n hx hb dX1_fillGets_12 rfl (lv_at hl 0 rfl) ?_
        obtain ⟨r_13, hc_13, hm⟩ := ob_s hm
        refine q_ci (q_rv (rest := []) ⟨hx, hb, hml, hown, hts⟩ hK hN hP hD (c_X4_sleeperOn l D cI cZ H.size AT_of AT_of_sl AT_of_fl AT_of_ro AT_of_nt AT_of_mk AT_of_mo AT_of_sl_c vT_of_ng vT_of_sl_n fT_of_sl_c x3 r_13 hc_13) mb_X4_sleeperOn mv_X4_sleeperOn wl_X1_122 [1, 2, 3] rfl rfl rfl (Nat.le_of_ble_eq_true rfl) (Nat.le_of_ble_eq_true rfl) rfl hl.1 rfl (Nat.le_of_ble_eq_true rfl) ⟨Nat.le_refl 0, Nat.le_refl 0⟩ dX1_fillGets_13) hP hD hS hA [1, 2, 3] rfl rfl (fun H locs hP hD hS => ?_)
        have hP : va_P D vwCl (wd_X1_fillGets cI cZ AT A1 AT_of AT_tr AT_ga AT_bb AT_fg AT_sg AT_of_sl AT_of_fl AT_of_ro AT_of_nt AT_of_mk AT_of_mo AT_of_sl_c AT_of_fl_c n1 vT_of_ng vT_of_sl_n fT_of_sl_c vT_of_fl_n fT_of_fl_c f1) H := hP
        have hD : va_D A (wd_X1_fillGets cI cZ AT A1 AT_of AT_tr AT_ga AT_bb AT_fg AT_sg AT_of_sl AT_of_fl AT_of_ro AT_of_nt AT_of_mk AT_of_mo AT_of_sl_c AT_of_fl_c n1 vT_of_ng vT_of_sl_n fT_of_sl_c vT_of_fl_n fT_of_fl_c f1) := hD
        refine lv_istore (lv' := [(4, .int r_13), (3, .int x3), (0, .ref AT), (1, .ref A1), (2, .int p2)]) hx hb dX1_fillGets_16 hl (by decide) rfl (fun ls hl => ?_)
        refine lv_aload_n hx hb dX1_fillGets_18 rfl (lv_at hl 3 rfl) ?_
        refine lv_iload_n hx hb dX1_fillGets_19 rfl (lv_at hl 1 rfl) ?_
        refine lv_iload hx hb dX1_fillGets_20 (lv_at hl 0 rfl) ?_
        refine lv_iconst (v := (-1)) hx hb dX1_fillGets_22 (by decide) ?_
        refine lv_icmp_ne (tgt := 30) hx hb dX1_fillGets_23 (by decide) (fun c_23 => ?_) (fun c_23 => ?_)
        · have hm := it_n c_23 hm
          refine lv_aload_n hx hb dX1_fillGets_30 rfl (lv_at hl 2 rfl) ?_
          refine gf_X1_9 (v := .ref AT_of) hx hb hts hown hK hN hP 0 rfl rfl dX1_fillGets_31 ?_
          refine lv_iload hx hb dX1_fillGets_34 (lv_at hl 0 rfl) ?_
          refine lv_iload_n hx hb dX1_fillGets_36 rfl (lv_at hl 4 rfl) ?_
          refine lv_aload_n hx hb dX1_fillGets_37 rfl (lv_at hl 2 rfl) ?_
          refine gf_X1_9 (v := .ref AT_of) hx hb hts hown hK hN hP 0 rfl rfl dX1_fillGets_38 ?_
          refine gf_X1_48 (v := .int vT_of_ng) hx hb hts hown hK hN hP 1 rfl rfl dX1_fillGets_41 ?_
          obtain ⟨r_44, hc_44, hm⟩ := ob_s hm
          refine q_ci (q_rv (rest := [.int x3, .ref A1]) ⟨hx, hb, hml, hown, hts⟩ hK hN hP hD (c_X4_believedOf l D cI cZ H.size AT_of AT_of_sl AT_of_fl AT_of_ro AT_of_nt AT_of_mk AT_of_mo AT_of_sl_c AT_of_fl_c vT_of_ng vT_of_sl_n fT_of_sl_c vT_of_fl_n fT_of_fl_c r_13 p2 vT_of_ng r_44 hc_44) mb_X4_believedOf mv_X4_believedOf wl_X1_125 [1, 2, 3, 4, 5] rfl rfl rfl (Nat.le_of_ble_eq_true rfl) (Nat.le_of_ble_eq_true rfl) rfl hl.1 rfl (Nat.le_of_ble_eq_true rfl) ⟨Nat.le_refl 0, Nat.le_refl 0⟩ dX1_fillGets_44) hP hD hS hA [1, 2, 3, 4, 5] rfl rfl (fun H locs hP hD hS => ?_)
          have hP : va_P D vwCl (wd_X1_fillGets cI cZ AT A1 AT_of AT_tr AT_ga AT_bb AT_fg AT_sg AT_of_sl AT_of_fl AT_of_ro AT_of_nt AT_of_mk AT_of_mo AT_of_sl_c AT_of_fl_c n1 vT_of_ng vT_of_sl_n fT_of_sl_c vT_of_fl_n fT_of_fl_c f1) H := hP
          have hD : va_D A (wd_X1_fillGets cI cZ AT A1 AT_of AT_tr AT_ga AT_bb AT_fg AT_sg AT_of_sl AT_of_fl AT_of_ro AT_of_nt AT_of_mk AT_of_mo AT_of_sl_c AT_of_fl_c n1 vT_of_ng vT_of_sl_n fT_of_sl_c vT_of_fl_n fT_of_fl_c f1) := hD
          obtain ⟨r_47, hc_47, hm⟩ := ob_s hm
          refine q_cv (q_rn (rest := []) ⟨hx, hb, hml, hown, hts⟩ hK hN hP hD (c_X7_put l D cI cZ H.size A1 n1 f1 x3 r_44 r_47 hc_47) mb_X7_put wt_X7_put (nl_X1_89 hN) [6] rfl rfl (Nat.le_of_ble_eq_true rfl) (Nat.le_of_ble_eq_true rfl) rfl hl.1 rfl (Nat.le_of_ble_eq_true rfl) ⟨Nat.le_refl 0, Nat.le_refl 0⟩ dX1_fillGets_47) hP hD hS hA [6] rfl rfl (fun H locs hP hD hS => ?_)
          have hP : va_P D vwCl (wd_X1_fillGets cI cZ AT A1 AT_of AT_tr AT_ga AT_bb AT_fg AT_sg AT_of_sl AT_of_fl AT_of_ro AT_of_nt AT_of_mk AT_of_mo AT_of_sl_c AT_of_fl_c n1 vT_of_ng vT_of_sl_n fT_of_sl_c vT_of_fl_n fT_of_fl_c r_47) H := hP
          have hD : va_D A (wd_X1_fillGets cI cZ AT A1 AT_of AT_tr AT_ga AT_bb AT_fg AT_sg AT_of_sl AT_of_fl AT_of_ro AT_of_nt AT_of_mk AT_of_mo AT_of_sl_c AT_of_fl_c n1 vT_of_ng vT_of_sl_n fT_of_sl_c vT_of_fl_n fT_of_fl_c r_47) := hD
          refine lv_iinc (v := (x3 + 1)) (lv' := [(3, .int (x3 + 1)), (4, .int r_13), (0, .ref AT), (1, .ref A1), (2, .int p2)]) hx hb dX1_fillGets_50 hl (k := 1) rfl rfl (by decide) rfl (fun ls hl => ?_)
          refine lv_goto (tgt := 2) hx hb dX1_fillGets_53 (by decide) ?_
          exact ih_2 (x3 + 1) r_47 H locs ls hm hP hD hS (lv_sub hl [0, 2, 3, 4] rfl)
        · have hm := it_s c_23 hm
          refine lv_iconst (v := 0) hx hb dX1_fillGets_26 (by decide) ?_
          refine lv_goto (tgt := 47) hx hb dX1_fillGets_27 (by decide) ?_
          obtain ⟨r_47, hc_47, hm⟩ := ob_s hm
          refine q_cv (q_rn (rest := []) ⟨hx, hb, hml, hown, hts⟩ hK hN hP hD (c_X7_put l D cI cZ H.size A1 n1 f1 x3 0 r_47 hc_47) mb_X7_put wt_X7_put (nl_X1_89 hN) [6] rfl rfl (Nat.le_of_ble_eq_true rfl) (Nat.le_of_ble_eq_true rfl) rfl hl.1 rfl (Nat.le_of_ble_eq_true rfl) ⟨Nat.le_refl 0, Nat.le_refl 0⟩ dX1_fillGets_47) hP hD hS hA [6] rfl rfl (fun H locs hP hD hS => ?_)
          have hP : va_P D vwCl (wd_X1_fillGets cI cZ AT A1 AT_of AT_tr AT_ga AT_bb AT_fg AT_sg AT_of_sl AT_of_fl AT_of_ro AT_of_nt AT_of_mk AT_of_mo AT_of_sl_c AT_of_fl_c n1 vT_of_ng vT_of_sl_n fT_of_sl_c vT_of_fl_n fT_of_fl_c r_47) H := hP
          have hD : va_D A (wd_X1_fillGets cI cZ AT A1 AT_of AT_tr AT_ga AT_bb AT_fg AT_sg AT_of_sl AT_of_fl AT_of_ro AT_of_nt AT_of_mk AT_of_mo AT_of_sl_c AT_of_fl_c n1 vT_of_ng vT_of_sl_n fT_of_sl_c vT_of_fl_n fT_of_fl_c r_47) := hD
          refine lv_iinc (v := (x3 + 1)) (lv' := [(3, .int (x3 + 1)), (4, .int r_13), (0, .ref AT), (1, .ref A1), (2, .int p2)]) hx hb dX1_fillGets_50 hl (k := 1) rfl rfl (by decide) rfl (fun ls hl => ?_)
          refine lv_goto (tgt := 2) hx hb dX1_fillGets_53 (by decide) ?_
          exact ih_2 (x3 + 1) r_47 H locs ls hm hP hD hS (lv_sub hl [0, 2, 3, 4] rfl)
  unfold fm_X1_fillGets at hm
  refine q_gen hS hP ?_
  intro H locs hP hS
  refine lv_iconst (v := 0) hx hb dX1_fillGets_0 (by decide) ?_
  refine lv_istore_n (lv' := [(3, .int 0), (0, .ref AT), (1, .ref A1), (2, .int p2)]) hx hb dX1_fillGets_1 rfl hl (by decide) rfl (fun ls hl => ?_)
  exact hL_2 FU 0 f1 H locs ls hm hP hD hS (lv_sub hl [0, 1, 2, 3] rfl)
theorem mb_X1_getsOn : q_mb yX1_getsOn cX1_getsOn 4 (some .int) 3 := ⟨wc_X1_getsOn, wn_X1, by decide, by decide, by decide +kernel⟩
theorem mv_X1_getsOn : q_mv yX1_getsOn 1 := ⟨wi_X1_getsOn, ws_X1_getsOn, _, rfl, rfl⟩
def wd_X1_getsOn (cI cZ : ClassId) (AT A1 AT_of AT_tr AT_ga AT_bb AT_fg AT_sg : Nat) (n1 : Nat) (f1 : Nat → Int32) : va_W := [(AT, .inr (1, [.ref AT_of, .ref AT_tr, .ref AT_ga, .ref AT_bb, .ref AT_fg, .ref AT_sg])), (A1, .inl (cI, n1, .inl f1))]
def fm_X1_getsOn (n1 : Nat) (p2 : Int32) (p3 : Int32) (f1 : Nat → Int32) : Option (Int32) := if p2 = p3 then (Option.bind (fm_X7_at n1 p2 f1) (fun r_7 => some ((r_7 - 2)))) else (Option.bind (fm_X7_at n1 p2 f1) (fun r_17 => some (r_17)))
set_option maxHeartbeats 4000000 in
set_option maxRecDepth 100000 in
theorem c_X1_getsOn (l : Launch) (D : va_G) (cI cZ : ClassId) (sz : Nat) (AT A1 AT_of AT_tr AT_ga AT_bb AT_fg AT_sg : Nat) (n1 : Nat) (f1 : Nat → Int32) (p2 : Int32) (p3 : Int32) (out : (Int32)) (hm : fm_X1_getsOn n1 p2 p3 f1 = some out) : Met l yX1_getsOn (Cond.code yX1_getsOn cX1_getsOn 4 (some .int) :: bg) { frames := 1, cells := 0, slots := 0, locals := 21 } (va_Pc [.ref AT, .ref A1, .int p2, .int p3] (q_pre D cI cZ sz (wd_X1_getsOn cI cZ AT A1 AT_of AT_tr AT_ga AT_bb AT_fg AT_sg n1 f1))) (q_Qi D (wd_X1_getsOn cI cZ AT A1 AT_of AT_tr AT_ga AT_bb AT_fg AT_sg n1 f1) out (va_A (wd_X1_getsOn cI cZ AT A1 AT_of AT_tr AT_ga AT_bb AT_fg AT_sg n1 f1) sz)) 0 0 (va_A (wd_X1_getsOn cI cZ AT A1 AT_of AT_tr AT_ga AT_bb AT_fg AT_sg n1 f1) sz) := by
  refine q_met (fun A => q_Qi D (wd_X1_getsOn cI cZ AT A1 AT_of AT_tr AT_ga AT_bb AT_fg AT_sg n1 f1) out A) (by decide) (Nat.le_of_ble_eq_true rfl) ?_
  intro p e s m below meth c ls A hx hb hr hml hown hts hlocks _ hA hS hP hD hK hN hl
  have hown : s.vm.findClass RX1 = some m.cls := hown
  have hl : lv_has ls 4 [(0, .ref AT), (1, .ref A1), (2, .int p2), (3, .int p3)] := hl
  unfold fm_X1_getsOn at hm
  refine q_gen hS hP ?_
  intro H locs hP hS
  refine lv_iload_n hx hb dX1_getsOn_0 rfl (lv_at hl 2 rfl) ?_
  refine lv_iload_n hx hb dX1_getsOn_1 rfl (lv_at hl 3 rfl) ?_
  refine lv_icmp_ne (tgt := 15) hx hb dX1_getsOn_2 (by decide) (fun c_2 => ?_) (fun c_2 => ?_)
  · have hm := it_n c_2 hm
    refine lv_aload_n hx hb dX1_getsOn_15 rfl (lv_at hl 1 rfl) ?_
    refine lv_iload_n hx hb dX1_getsOn_16 rfl (lv_at hl 2 rfl) ?_
    obtain ⟨r_17, hc_17, hm⟩ := ob_s hm
    refine q_ci (q_rn (rest := []) ⟨hx, hb, hml, hown, hts⟩ hK hN hP hD (c_X7_at l D cI cZ H.size A1 n1 f1 p2 r_17 hc_17) mb_X7_at wt_X7_at (nl_X1_93 hN) [1] rfl rfl (Nat.le_of_ble_eq_true rfl) (Nat.le_of_ble_eq_true rfl) rfl hl.1 rfl (Nat.le_of_ble_eq_true rfl) ⟨Nat.le_refl 0, Nat.le_refl 0⟩ dX1_getsOn_17) hP hD hS hA [1] rfl rfl (fun H locs hP hD hS => ?_)
    have hP : va_P D vwCl (wd_X1_getsOn cI cZ AT A1 AT_of AT_tr AT_ga AT_bb AT_fg AT_sg n1 f1) H := hP
    have hD : va_D A (wd_X1_getsOn cI cZ AT A1 AT_of AT_tr AT_ga AT_bb AT_fg AT_sg n1 f1) := hD
    have hm := Option.some.inj hm
    subst hm
    exact q_iret (v := r_17) hx hb hr hlocks hP hS dX1_getsOn_20
  · have hm := it_s c_2 hm
    refine lv_aload_n hx hb dX1_getsOn_5 rfl (lv_at hl 1 rfl) ?_
    refine lv_iload_n hx hb dX1_getsOn_6 rfl (lv_at hl 2 rfl) ?_
    obtain ⟨r_7, hc_7, hm⟩ := ob_s hm
    refine q_ci (q_rn (rest := []) ⟨hx, hb, hml, hown, hts⟩ hK hN hP hD (c_X7_at l D cI cZ H.size A1 n1 f1 p2 r_7 hc_7) mb_X7_at wt_X7_at (nl_X1_93 hN) [1] rfl rfl (Nat.le_of_ble_eq_true rfl) (Nat.le_of_ble_eq_true rfl) rfl hl.1 rfl (Nat.le_of_ble_eq_true rfl) ⟨Nat.le_refl 0, Nat.le_refl 0⟩ dX1_getsOn_7) hP hD hS hA [1] rfl rfl (fun H locs hP hD hS => ?_)
    have hP : va_P D vwCl (wd_X1_getsOn cI cZ AT A1 AT_of AT_tr AT_ga AT_bb AT_fg AT_sg n1 f1) H := hP
    have hD : va_D A (wd_X1_getsOn cI cZ AT A1 AT_of AT_tr AT_ga AT_bb AT_fg AT_sg n1 f1) := hD
    refine lv_iconst (v := 2) hx hb dX1_getsOn_10 (by decide) ?_
    refine lv_isub hx hb dX1_getsOn_11 ?_
    refine lv_goto (tgt := 20) hx hb dX1_getsOn_12 (by decide) ?_
    have hm := Option.some.inj hm
    subst hm
    exact q_iret (v := (r_7 - 2)) hx hb hr hlocks hP hS dX1_getsOn_20
theorem mb_X1_stays : q_mb yX1_stays cX1_stays 5 (some .boolean) 3 := ⟨wc_X1_stays, wn_X1, by decide, by decide, by decide +kernel⟩
theorem mv_X1_stays : q_mv yX1_stays 1 := ⟨wi_X1_stays, ws_X1_stays, _, rfl, rfl⟩
def wd_X1_stays (cI cZ : ClassId) (AT A1 AT_of AT_tr AT_ga AT_bb AT_fg AT_sg : Nat) (n1 : Nat) (f1 : Nat → Int32) : va_W := [(AT, .inr (1, [.ref AT_of, .ref AT_tr, .ref AT_ga, .ref AT_bb, .ref AT_fg, .ref AT_sg])), (A1, .inl (cI, n1, .inl f1))]
def fL_X1_stays_3 (n1 : Nat) (p2 : Int32) (p3 : Int32) (f1 : Nat → Int32) : Nat → Int32 → Option (Int32)
  | 0, _ => none
  | fu + 1, x4 => if 6 ≤ x4 then (some (1)) else (Option.bind (fm_X1_getsOn n1 x4 p3 f1) (fun r_15 => Option.bind (fm_X1_getsOn n1 p2 p3 f1) (fun r_22 => if r_15 ≤ r_22 then (fL_X1_stays_3 n1 p2 p3 f1 fu (x4 + 1)) else (some (0)))))
def fm_X1_stays (n1 : Nat) (p2 : Int32) (p3 : Int32) (f1 : Nat → Int32) : Option (Int32) := fL_X1_stays_3 n1 p2 p3 f1 FU 0
set_option maxHeartbeats 4000000 in
set_option maxRecDepth 100000 in
theorem c_X1_stays (l : Launch) (D : va_G) (cI cZ : ClassId) (sz : Nat) (AT A1 AT_of AT_tr AT_ga AT_bb AT_fg AT_sg : Nat) (n1 : Nat) (f1 : Nat → Int32) (p2 : Int32) (p3 : Int32) (out : (Int32)) (hm : fm_X1_stays n1 p2 p3 f1 = some out) : Met l yX1_stays (Cond.code yX1_stays cX1_stays 5 (some .boolean) :: bg) { frames := 2, cells := 0, slots := 0, locals := 44 } (va_Pc [.ref AT, .ref A1, .int p2, .int p3] (q_pre D cI cZ sz (wd_X1_stays cI cZ AT A1 AT_of AT_tr AT_ga AT_bb AT_fg AT_sg n1 f1))) (q_Qi D (wd_X1_stays cI cZ AT A1 AT_of AT_tr AT_ga AT_bb AT_fg AT_sg n1 f1) out (va_A (wd_X1_stays cI cZ AT A1 AT_of AT_tr AT_ga AT_bb AT_fg AT_sg n1 f1) sz)) 0 0 (va_A (wd_X1_stays cI cZ AT A1 AT_of AT_tr AT_ga AT_bb AT_fg AT_sg n1 f1) sz) := by
  refine q_met (fun A => q_Qi D (wd_X1_stays cI cZ AT A1 AT_of AT_tr AT_ga AT_bb AT_fg AT_sg n1 f1) out A) (by decide) (Nat.le_of_ble_eq_true rfl) ?_
  intro p e s m below meth c ls A hx hb hr hml hown hts hlocks _ hA hS hP hD hK hN hl
  have hown : s.vm.findClass RX1 = some m.cls := hown
  have hl : lv_has ls 5 [(0, .ref AT), (1, .ref A1), (2, .int p2), (3, .int p3)] := hl
  have hL_3 : ∀ (fu_3 : Nat) (x4 : Int32) (H : Heap) (locs : List Loc) (ls : Array Slot), fL_X1_stays_3 n1 p2 p3 f1 fu_3 x4 = some out → va_P D vwCl (wd_X1_stays cI cZ AT A1 AT_of AT_tr AT_ga AT_bb AT_fg AT_sg n1 f1) H → va_D A (wd_X1_stays cI cZ AT A1 AT_of AT_tr AT_ga AT_bb AT_fg AT_sg n1 f1) → va_S A s.heap H locs → lv_has ls 5 [(4, .int x4), (0, .ref AT), (1, .ref A1), (2, .int p2), (3, .int p3)] → W p l e { frames := 2, cells := 0, slots := 0, locals := 44 } s m ([.ref AT, .ref A1, .int p2, .int p3] : List Value).toArray below meth c H locs 0 0 (MQ below (q_Qi D (wd_X1_stays cI cZ AT A1 AT_of AT_tr AT_ga AT_bb AT_fg AT_sg n1 f1) out A) ([.ref AT, .ref A1, .int p2, .int p3] : List Value).toArray s 0 0 A) (F0 m 3 ls []) := by
    intro fu_3
    induction fu_3 with
    | zero => intro x4 H locs ls hm hP hD hS hl; exact absurd (show (none : Option (Int32)) = some out from hm) (fun h => nomatch h)
    | succ fu_3 ih_3 =>
      intro x4 H locs ls hm hP hD hS hl
      rw [fL_X1_stays_3] at hm
      refine lv_iload hx hb dX1_stays_3 (lv_at hl 0 rfl) ?_
      refine lv_bipush (v := 6) hx hb dX1_stays_5 (by decide) ?_
      refine lv_icmp_ge (tgt := 36) hx hb dX1_stays_7 (by decide) (fun c_7 => ?_) (fun c_7 => ?_)
      · have hm := it_s c_7 hm
        refine lv_iconst (v := 1) hx hb dX1_stays_36 (by decide) ?_
        have hm := Option.some.inj hm
        subst hm
        exact q_zret (v := 1) hx hb hr hlocks rfl hP hS dX1_stays_37
      · have hm := it_n c_7 hm
        refine lv_aload_n hx hb dX1_stays_10 rfl (lv_at hl 1 rfl) ?_
        refine lv_aload_n hx hb dX1_stays_11 rfl (lv_at hl 2 rfl) ?_
        refine lv_iload hx hb dX1_stays_12 (lv_at hl 0 rfl) ?_
        refine lv_iload_n hx hb dX1_stays_14 rfl (lv_at hl 4 rfl) ?_
        obtain ⟨r_15, hc_15, hm⟩ := ob_s hm
        refine q_ci (q_rv (rest := []) ⟨hx, hb, hml, hown, hts⟩ hK hN hP hD (c_X1_getsOn l D cI cZ H.size AT A1 AT_of AT_tr AT_ga AT_bb AT_fg AT_sg n1 f1 x4 p3 r_15 hc_15) mb_X1_getsOn mv_X1_getsOn wl_X1_128 [0, 1] rfl rfl rfl (Nat.le_of_ble_eq_true rfl) (Nat.le_of_ble_eq_true rfl) rfl hl.1 rfl (Nat.le_of_ble_eq_true rfl) ⟨Nat.le_refl 0, Nat.le_refl 0⟩ dX1_stays_15) hP hD hS hA [0, 1] rfl rfl (fun H locs hP hD hS => ?_)
        have hP : va_P D vwCl (wd_X1_stays cI cZ AT A1 AT_of AT_tr AT_ga AT_bb AT_fg AT_sg n1 f1) H := hP
        have hD : va_D A (wd_X1_stays cI cZ AT A1 AT_of AT_tr AT_ga AT_bb AT_fg AT_sg n1 f1) := hD
        refine lv_aload_n hx hb dX1_stays_18 rfl (lv_at hl 1 rfl) ?_
        refine lv_aload_n hx hb dX1_stays_19 rfl (lv_at hl 2 rfl) ?_
        refine lv_iload_n hx hb dX1_stays_20 rfl (lv_at hl 3 rfl) ?_
        refine lv_iload_n hx hb dX1_stays_21 rfl (lv_at hl 4 rfl) ?_
        obtain ⟨r_22, hc_22, hm⟩ := ob_s hm
        refine q_ci (q_rv (rest := [.int r_15]) ⟨hx, hb, hml, hown, hts⟩ hK hN hP hD (c_X1_getsOn l D cI cZ H.size AT A1 AT_of AT_tr AT_ga AT_bb AT_fg AT_sg n1 f1 p2 p3 r_22 hc_22) mb_X1_getsOn mv_X1_getsOn wl_X1_128 [0, 1] rfl rfl rfl (Nat.le_of_ble_eq_true rfl) (Nat.le_of_ble_eq_true rfl) rfl hl.1 rfl (Nat.le_of_ble_eq_true rfl) ⟨Nat.le_refl 0, Nat.le_refl 0⟩ dX1_stays_22) hP hD hS hA [0, 1] rfl rfl (fun H locs hP hD hS => ?_)
        have hP : va_P D vwCl (wd_X1_stays cI cZ AT A1 AT_of AT_tr AT_ga AT_bb AT_fg AT_sg n1 f1) H := hP
        have hD : va_D A (wd_X1_stays cI cZ AT A1 AT_of AT_tr AT_ga AT_bb AT_fg AT_sg n1 f1) := hD
        refine lv_icmp_le (tgt := 30) hx hb dX1_stays_25 (by decide) (fun c_25 => ?_) (fun c_25 => ?_)
        · have hm := it_s c_25 hm
          refine lv_iinc (v := (x4 + 1)) (lv' := [(4, .int (x4 + 1)), (0, .ref AT), (1, .ref A1), (2, .int p2), (3, .int p3)]) hx hb dX1_stays_30 hl (k := 0) rfl rfl (by decide) rfl (fun ls hl => ?_)
          refine lv_goto (tgt := 3) hx hb dX1_stays_33 (by decide) ?_
          exact ih_3 (x4 + 1) H locs ls hm hP hD hS (lv_sub hl [0, 1, 2, 3, 4] rfl)
        · have hm := it_n c_25 hm
          refine lv_iconst (v := 0) hx hb dX1_stays_28 (by decide) ?_
          have hm := Option.some.inj hm
          subst hm
          exact q_zret (v := 0) hx hb hr hlocks rfl hP hS dX1_stays_29
  unfold fm_X1_stays at hm
  refine q_gen hS hP ?_
  intro H locs hP hS
  refine lv_iconst (v := 0) hx hb dX1_stays_0 (by decide) ?_
  refine lv_istore (lv' := [(4, .int 0), (0, .ref AT), (1, .ref A1), (2, .int p2), (3, .int p3)]) hx hb dX1_stays_1 hl (by decide) rfl (fun ls hl => ?_)
  exact hL_3 FU 0 H locs ls hm hP hD hS (lv_sub hl [0, 1, 2, 3, 4] rfl)
theorem gf_X1_28 {p : Program} {l : Launch} {e : Env} {R : Room} {s : State} {m : MethodId} {args : Array Value} {below : List Frame} {meth : Method} {c : Code} {H : Heap} {locs : List Loc} {cells slots : Nat} {Q : State → Prop} {pc : Nat} {ls : Array Slot} {cc : ByteArray} {D : va_G} {cI cZ : ClassId} {ws : va_W} {a : Nat} {rest fs : List Value} (hx : p.tables.exec = Jvm.exec) (hb : c.code = cc) (hts : ∀ w ∈ bg, w.before args s = true) (hown : s.vm.findClass RX1 = some m.cls) (hK : va_K D vwCl (q_tys cI cZ) s) (hN : q_N s) (hP : va_P D vwCl ws H) (q0 : Nat) (he : ws[q0]? = some (a, .inr (1, fs))) {v : Value} (hv : fs[4]? = some v) (hdg : decode cc pc = .ok (.getfield 28, 3)) (kk : W p l e R s m args below meth c H locs cells slots Q (F0 m (pc + 3) ls (v :: rest))) : W p l e R s m args below meth c H locs cells slots Q (F0 m pc ls (.ref a :: rest)) :=
  va_get (C := RX1) (T := TX1) (N := 6) hx hb hts wu_X1 hown hK hP q0 he rfl 4 (by decide) (hts _ wf_X1_28) (fun _ h9 => h9) hv hdg kk
theorem gf_X1_31 {p : Program} {l : Launch} {e : Env} {R : Room} {s : State} {m : MethodId} {args : Array Value} {below : List Frame} {meth : Method} {c : Code} {H : Heap} {locs : List Loc} {cells slots : Nat} {Q : State → Prop} {pc : Nat} {ls : Array Slot} {cc : ByteArray} {D : va_G} {cI cZ : ClassId} {ws : va_W} {a : Nat} {rest fs : List Value} (hx : p.tables.exec = Jvm.exec) (hb : c.code = cc) (hts : ∀ w ∈ bg, w.before args s = true) (hown : s.vm.findClass RX1 = some m.cls) (hK : va_K D vwCl (q_tys cI cZ) s) (hN : q_N s) (hP : va_P D vwCl ws H) (q0 : Nat) (he : ws[q0]? = some (a, .inr (1, fs))) {v : Value} (hv : fs[5]? = some v) (hdg : decode cc pc = .ok (.getfield 31, 3)) (kk : W p l e R s m args below meth c H locs cells slots Q (F0 m (pc + 3) ls (v :: rest))) : W p l e R s m args below meth c H locs cells slots Q (F0 m pc ls (.ref a :: rest)) :=
  va_get (C := RX1) (T := TX1) (N := 6) hx hb hts wu_X1 hown hK hP q0 he rfl 5 (by decide) (hts _ wf_X1_31) (fun _ h9 => h9) hv hdg kk
theorem mb_X1_restingPair : q_mb yX1_restingPair cX1_restingPair 7 (some .int) 3 := ⟨wc_X1_restingPair, wn_X1, by decide, by decide, by decide +kernel⟩
theorem mv_X1_restingPair : q_mv yX1_restingPair 1 := ⟨wi_X1_restingPair, ws_X1_restingPair, _, rfl, rfl⟩
def wd_X1_restingPair (cI cZ : ClassId) (AT AT_of AT_tr AT_ga AT_bb AT_fg AT_sg AT_of_sl AT_of_fl AT_of_ro AT_of_nt AT_of_mk AT_of_mo AT_of_sl_c AT_of_fl_c : Nat) (vT_of_ng : Int32) (vT_of_sl_n : Int32) (fT_of_sl_c : Nat → Int32) (vT_of_fl_n : Int32) (fT_of_fl_c : Nat → Int32) (fT_fg : Nat → Int32) (fT_sg : Nat → Int32) : va_W := [(AT, .inr (1, [.ref AT_of, .ref AT_tr, .ref AT_ga, .ref AT_bb, .ref AT_fg, .ref AT_sg])), (AT_of, .inr (4, [.ref AT_of_sl, .ref AT_of_fl, .ref AT_of_ro, .ref AT_of_nt, .ref AT_of_mk, .ref AT_of_mo, .int vT_of_ng])), (AT_of_sl, .inr (3, [.int 4, .ref AT_of_sl_c, .int vT_of_sl_n])), (AT_of_sl_c, .inl (cI, 24, .inl fT_of_sl_c)), (AT_of_fl, .inr (3, [.int 3, .ref AT_of_fl_c, .int vT_of_fl_n])), (AT_of_fl_c, .inl (cI, 18, .inl fT_of_fl_c)), (AT_fg, .inl (cI, 6, .inl fT_fg)), (AT_sg, .inl (cI, 6, .inl fT_sg))]
def fL_X1_restingPair_34 (p1 : Int32) (p2 : Int32) (p3 : Int32) (vT_of_ng : Int32) (vT_of_sl_n : Int32) (fT_of_sl_c : Nat → Int32) (vT_of_fl_n : Int32) (fT_of_fl_c : Nat → Int32) (k_24 : Int32 → Int32 → (Nat → Int32) → (Nat → Int32) → Option (Int32 × (Nat → Int32) × (Nat → Int32))) : Nat → Int32 → Int32 → Int32 → (Nat → Int32) → (Nat → Int32) → Option (Int32 × (Nat → Int32) × (Nat → Int32))
  | 0, _, _, _, _, _ => none
  | fu + 1, x6, x5, x4, fT_fg, fT_sg => if 6 ≤ x6 then (k_24 (x5 + 1) x4 fT_fg fT_sg) else (Option.bind (fm_X1_stays 6 x5 x6 fT_fg) (fun r_50 => if r_50 = 0 then (fL_X1_restingPair_34 p1 p2 p3 vT_of_ng vT_of_sl_n fT_of_sl_c vT_of_fl_n fT_of_fl_c k_24 fu (x6 + 1) x5 x4 fT_fg fT_sg) else (Option.bind (fm_X1_stays 6 x6 x5 fT_sg) (fun r_65 => if r_65 = 0 then (fL_X1_restingPair_34 p1 p2 p3 vT_of_ng vT_of_sl_n fT_of_sl_c vT_of_fl_n fT_of_fl_c k_24 fu (x6 + 1) x5 x4 fT_fg fT_sg) else (if x4 = p3 then (some (((10 * x5) + x6), fT_fg, fT_sg)) else (fL_X1_restingPair_34 p1 p2 p3 vT_of_ng vT_of_sl_n fT_of_sl_c vT_of_fl_n fT_of_fl_c k_24 fu (x6 + 1) x5 (x4 + 1) fT_fg fT_sg))))))
def fL_X1_restingPair_24 (p1 : Int32) (p2 : Int32) (p3 : Int32) (vT_of_ng : Int32) (vT_of_sl_n : Int32) (fT_of_sl_c : Nat → Int32) (vT_of_fl_n : Int32) (fT_of_fl_c : Nat → Int32) : Nat → Int32 → Int32 → (Nat → Int32) → (Nat → Int32) → Option (Int32 × (Nat → Int32) × (Nat → Int32))
  | 0, _, _, _, _ => none
  | fu + 1, x5, x4, fT_fg, fT_sg => if 6 ≤ x5 then (if p3 = (-1) then (some (x4, fT_fg, fT_sg)) else (some ((-5), fT_fg, fT_sg))) else (fL_X1_restingPair_34 p1 p2 p3 vT_of_ng vT_of_sl_n fT_of_sl_c vT_of_fl_n fT_of_fl_c (fun x5 x4 fT_fg fT_sg => fL_X1_restingPair_24 p1 p2 p3 vT_of_ng vT_of_sl_n fT_of_sl_c vT_of_fl_n fT_of_fl_c fu x5 x4 fT_fg fT_sg) FU 0 x5 x4 fT_fg fT_sg)
def fm_X1_restingPair (p1 : Int32) (p2 : Int32) (p3 : Int32) (vT_of_ng : Int32) (vT_of_sl_n : Int32) (fT_of_sl_c : Nat → Int32) (vT_of_fl_n : Int32) (fT_of_fl_c : Nat → Int32) (fT_fg : Nat → Int32) (fT_sg : Nat → Int32) : Option (Int32 × (Nat → Int32) × (Nat → Int32)) := Option.bind (fm_X1_fillGets 6 p1 vT_of_ng vT_of_sl_n fT_of_sl_c vT_of_fl_n fT_of_fl_c fT_fg) (fun r_6 => Option.bind (fm_X1_fillGets 6 p2 vT_of_ng vT_of_sl_n fT_of_sl_c vT_of_fl_n fT_of_fl_c fT_sg) (fun r_15 => fL_X1_restingPair_24 p1 p2 p3 vT_of_ng vT_of_sl_n fT_of_sl_c vT_of_fl_n fT_of_fl_c FU 0 0 r_6 r_15))
set_option maxHeartbeats 4000000 in
set_option maxRecDepth 100000 in
theorem c_X1_restingPair (l : Launch) (D : va_G) (cI cZ : ClassId) (sz : Nat) (AT AT_of AT_tr AT_ga AT_bb AT_fg AT_sg AT_of_sl AT_of_fl AT_of_ro AT_of_nt AT_of_mk AT_of_mo AT_of_sl_c AT_of_fl_c : Nat) (vT_of_ng : Int32) (vT_of_sl_n : Int32) (fT_of_sl_c : Nat → Int32) (vT_of_fl_n : Int32) (fT_of_fl_c : Nat → Int32) (fT_fg : Nat → Int32) (fT_sg : Nat → Int32) (p1 : Int32) (p2 : Int32) (p3 : Int32) (out : (Int32 × (Nat → Int32) × (Nat → Int32))) (hm : fm_X1_restingPair p1 p2 p3 vT_of_ng vT_of_sl_n fT_of_sl_c vT_of_fl_n fT_of_fl_c fT_fg fT_sg = some out) : Met l yX1_restingPair (Cond.code yX1_restingPair cX1_restingPair 7 (some .int) :: bg) { frames := 4, cells := 0, slots := 0, locals := 94 } (va_Pc [.ref AT, .int p1, .int p2, .int p3] (q_pre D cI cZ sz (wd_X1_restingPair cI cZ AT AT_of AT_tr AT_ga AT_bb AT_fg AT_sg AT_of_sl AT_of_fl AT_of_ro AT_of_nt AT_of_mk AT_of_mo AT_of_sl_c AT_of_fl_c vT_of_ng vT_of_sl_n fT_of_sl_c vT_of_fl_n fT_of_fl_c fT_fg fT_sg))) (q_Qi D (wd_X1_restingPair cI cZ AT AT_of AT_tr AT_ga AT_bb AT_fg AT_sg AT_of_sl AT_of_fl AT_of_ro AT_of_nt AT_of_mk AT_of_mo AT_of_sl_c AT_of_fl_c vT_of_ng vT_of_sl_n fT_of_sl_c vT_of_fl_n fT_of_fl_c out.2.1 out.2.2) out.1 (va_A (wd_X1_restingPair cI cZ AT AT_of AT_tr AT_ga AT_bb AT_fg AT_sg AT_of_sl AT_of_fl AT_of_ro AT_of_nt AT_of_mk AT_of_mo AT_of_sl_c AT_of_fl_c vT_of_ng vT_of_sl_n fT_of_sl_c vT_of_fl_n fT_of_fl_c fT_fg fT_sg) sz)) 0 0 (va_A (wd_X1_restingPair cI cZ AT AT_of AT_tr AT_ga AT_bb AT_fg AT_sg AT_of_sl AT_of_fl AT_of_ro AT_of_nt AT_of_mk AT_of_mo AT_of_sl_c AT_of_fl_c vT_of_ng vT_of_sl_n fT_of_sl_c vT_of_fl_n fT_of_fl_c fT_fg fT_sg) sz) := by
  refine q_met (fun A => q_Qi D (wd_X1_restingPair cI cZ AT AT_of AT_tr AT_ga AT_bb AT_fg AT_sg AT_of_sl AT_of_fl AT_of_ro AT_of_nt AT_of_mk AT_of_mo AT_of_sl_c AT_of_fl_c vT_of_ng vT_of_sl_n fT_of_sl_c vT_of_fl_n fT_of_fl_c out.2.1 out.2.2) out.1 A) (by decide) (Nat.le_of_ble_eq_true rfl) ?_
  intro p e s m below meth c ls A hx hb hr hml hown hts hlocks _ hA hS hP hD hK hN hl
  have hown : s.vm.findClass RX1 = some m.cls := hown
  have hl : lv_has ls 7 [(0, .ref AT), (1, .int p1), (2, .int p2), (3, .int p3)] := hl
  have hL_24 : ∀ (fu_24 : Nat) (x5 : Int32) (x4 : Int32) (fT_fg : Nat → Int32) (fT_sg : Nat → Int32) (H : Heap) (locs : List Loc) (ls : Array Slot), fL_X1_restingPair_24 p1 p2 p3 vT_of_ng vT_of_sl_n fT_of_sl_c vT_of_fl_n fT_of_fl_c fu_24 x5 x4 fT_fg fT_sg = some out → va_P D vwCl (wd_X1_restingPair cI cZ AT AT_of AT_tr AT_ga AT_bb AT_fg AT_sg AT_of_sl AT_of_fl AT_of_ro AT_of_nt AT_of_mk AT_of_mo AT_of_sl_c AT_of_fl_c vT_of_ng vT_of_sl_n fT_of_sl_c vT_of_fl_n fT_of_fl_c fT_fg fT_sg) H → va_D A (wd_X1_restingPair cI cZ AT AT_of AT_tr AT_ga AT_bb AT_fg AT_sg AT_of_sl AT_of_fl AT_of_ro AT_of_nt AT_of_mk AT_of_mo AT_of_sl_c AT_of_fl_c vT_of_ng vT_of_sl_n fT_of_sl_c vT_of_fl_n fT_of_fl_c fT_fg fT_sg) → va_S A s.heap H locs → lv_has ls 7 [(5, .int x5), (4, .int x4), (0, .ref AT), (3, .int p3)] → W p l e { frames := 4, cells := 0, slots := 0, locals := 94 } s m ([.ref AT, .int p1, .int p2, .int p3] : List Value).toArray below meth c H locs 0 0 (MQ below (q_Qi D (wd_X1_restingPair cI cZ AT AT_of AT_tr AT_ga AT_bb AT_fg AT_sg AT_of_sl AT_of_fl AT_of_ro AT_of_nt AT_of_mk AT_of_mo AT_of_sl_c AT_of_fl_c vT_of_ng vT_of_sl_n fT_of_sl_c vT_of_fl_n fT_of_fl_c out.2.1 out.2.2) out.1 A) ([.ref AT, .int p1, .int p2, .int p3] : List Value).toArray s 0 0 A) (F0 m 24 ls []) := by
    intro fu_24
    induction fu_24 with
    | zero => intro x5 x4 fT_fg fT_sg H locs ls hm hP hD hS hl; exact absurd (show (none : Option (Int32 × (Nat → Int32) × (Nat → Int32))) = some out from hm) (fun h => nomatch h)
    | succ fu_24 ih_24 =>
      have hL_34 : ∀ (fu_34 : Nat) (x6 : Int32) (x5 : Int32) (x4 : Int32) (fT_fg : Nat → Int32) (fT_sg : Nat → Int32) (H : Heap) (locs : List Loc) (ls : Array Slot), fL_X1_restingPair_34 p1 p2 p3 vT_of_ng vT_of_sl_n fT_of_sl_c vT_of_fl_n fT_of_fl_c (fun x5 x4 fT_fg fT_sg => fL_X1_restingPair_24 p1 p2 p3 vT_of_ng vT_of_sl_n fT_of_sl_c vT_of_fl_n fT_of_fl_c fu_24 x5 x4 fT_fg fT_sg) fu_34 x6 x5 x4 fT_fg fT_sg = some out → va_P D vwCl (wd_X1_restingPair cI cZ AT AT_of AT_tr AT_ga AT_bb AT_fg AT_sg AT_of_sl AT_of_fl AT_of_ro AT_of_nt AT_of_mk AT_of_mo AT_of_sl_c AT_of_fl_c vT_of_ng vT_of_sl_n fT_of_sl_c vT_of_fl_n fT_of_fl_c fT_fg fT_sg) H → va_D A (wd_X1_restingPair cI cZ AT AT_of AT_tr AT_ga AT_bb AT_fg AT_sg AT_of_sl AT_of_fl AT_of_ro AT_of_nt AT_of_mk AT_of_mo AT_of_sl_c AT_of_fl_c vT_of_ng vT_of_sl_n fT_of_sl_c vT_of_fl_n fT_of_fl_c fT_fg fT_sg) → va_S A s.heap H locs → lv_has ls 7 [(6, .int x6), (5, .int x5), (4, .int x4), (0, .ref AT), (3, .int p3)] → W p l e { frames := 4, cells := 0, slots := 0, locals := 94 } s m ([.ref AT, .int p1, .int p2, .int p3] : List Value).toArray below meth c H locs 0 0 (MQ below (q_Qi D (wd_X1_restingPair cI cZ AT AT_of AT_tr AT_ga AT_bb AT_fg AT_sg AT_of_sl AT_of_fl AT_of_ro AT_of_nt AT_of_mk AT_of_mo AT_of_sl_c AT_of_fl_c vT_of_ng vT_of_sl_n fT_of_sl_c vT_of_fl_n fT_of_fl_c out.2.1 out.2.2) out.1 A) ([.ref AT, .int p1, .int p2, .int p3] : List Value).toArray s 0 0 A) (F0 m 34 ls []) := by
        intro fu_34
        induction fu_34 with
        | zero => intro x6 x5 x4 fT_fg fT_sg H locs ls hm hP hD hS hl; exact absurd (show (none : Option (Int32 × (Nat → Int32) × (Nat → Int32))) = some out from hm) (fun h => nomatch h)
        | succ fu_34 ih_34 =>
          intro x6 x5 x4 fT_fg fT_sg H locs ls hm hP hD hS hl
          rw [fL_X1_restingPair_34] at hm
          refine lv_iload hx hb dX1_restingPair_34 (lv_at hl 0 rfl) ?_
          refine lv_bipush (v := 6) hx hb dX1_restingPair_36 (by decide) ?_
          refine lv_icmp_ge (tgt := 95) hx hb dX1_restingPair_38 (by decide) (fun c_38 => ?_) (fun c_38 => ?_)
          · have hm := it_s c_38 hm
            refine lv_iinc (v := (x5 + 1)) (lv' := [(5, .int (x5 + 1)), (6, .int x6), (4, .int x4), (0, .ref AT), (3, .int p3)]) hx hb dX1_restingPair_95 hl (k := 1) rfl rfl (by decide) rfl (fun ls hl => ?_)
            refine lv_goto (tgt := 24) hx hb dX1_restingPair_98 (by decide) ?_
            exact ih_24 (x5 + 1) x4 fT_fg fT_sg H locs ls hm hP hD hS (lv_sub hl [0, 2, 3, 4] rfl)
          · have hm := it_n c_38 hm
            refine lv_aload_n hx hb dX1_restingPair_41 rfl (lv_at hl 3 rfl) ?_
            refine lv_aload_n hx hb dX1_restingPair_42 rfl (lv_at hl 3 rfl) ?_
            refine gf_X1_28 (v := .ref AT_fg) hx hb hts hown hK hN hP 0 rfl rfl dX1_restingPair_43 ?_
            refine lv_iload hx hb dX1_restingPair_46 (lv_at hl 1 rfl) ?_
            refine lv_iload hx hb dX1_restingPair_48 (lv_at hl 0 rfl) ?_
            obtain ⟨r_50, hc_50, hm⟩ := ob_s hm
            refine q_ci (q_rv (rest := []) ⟨hx, hb, hml, hown, hts⟩ hK hN hP hD (c_X1_stays l D cI cZ H.size AT AT_fg AT_of AT_tr AT_ga AT_bb AT_fg AT_sg 6 fT_fg x5 x6 r_50 hc_50) mb_X1_stays mv_X1_stays wl_X1_118 [0, 6] rfl rfl rfl (Nat.le_of_ble_eq_true rfl) (Nat.le_of_ble_eq_true rfl) rfl hl.1 rfl (Nat.le_of_ble_eq_true rfl) ⟨Nat.le_refl 0, Nat.le_refl 0⟩ dX1_restingPair_50) hP hD hS hA [0, 6] rfl rfl (fun H locs hP hD hS => ?_)
            have hP : va_P D vwCl (wd_X1_restingPair cI cZ AT AT_of AT_tr AT_ga AT_bb AT_fg AT_sg AT_of_sl AT_of_fl AT_of_ro AT_of_nt AT_of_mk AT_of_mo AT_of_sl_c AT_of_fl_c vT_of_ng vT_of_sl_n fT_of_sl_c vT_of_fl_n fT_of_fl_c fT_fg fT_sg) H := hP
            have hD : va_D A (wd_X1_restingPair cI cZ AT AT_of AT_tr AT_ga AT_bb AT_fg AT_sg AT_of_sl AT_of_fl AT_of_ro AT_of_nt AT_of_mk AT_of_mo AT_of_sl_c AT_of_fl_c vT_of_ng vT_of_sl_n fT_of_sl_c vT_of_fl_n fT_of_fl_c fT_fg fT_sg) := hD
            refine lv_if_eq (tgt := 89) hx hb dX1_restingPair_53 (by decide) (fun c_53 => ?_) (fun c_53 => ?_)
            · have hm := it_s c_53 hm
              refine lv_iinc (v := (x6 + 1)) (lv' := [(6, .int (x6 + 1)), (5, .int x5), (4, .int x4), (0, .ref AT), (3, .int p3)]) hx hb dX1_restingPair_89 hl (k := 0) rfl rfl (by decide) rfl (fun ls hl => ?_)
              refine lv_goto (tgt := 34) hx hb dX1_restingPair_92 (by decide) ?_
              exact ih_34 (x6 + 1) x5 x4 fT_fg fT_sg H locs ls hm hP hD hS (lv_sub hl [0, 1, 2, 3, 4] rfl)
            · have hm := it_n c_53 hm
              refine lv_aload_n hx hb dX1_restingPair_56 rfl (lv_at hl 3 rfl) ?_
              refine lv_aload_n hx hb dX1_restingPair_57 rfl (lv_at hl 3 rfl) ?_
              refine gf_X1_31 (v := .ref AT_sg) hx hb hts hown hK hN hP 0 rfl rfl dX1_restingPair_58 ?_
              refine lv_iload hx hb dX1_restingPair_61 (lv_at hl 0 rfl) ?_
              refine lv_iload hx hb dX1_restingPair_63 (lv_at hl 1 rfl) ?_
              obtain ⟨r_65, hc_65, hm⟩ := ob_s hm
              refine q_ci (q_rv (rest := []) ⟨hx, hb, hml, hown, hts⟩ hK hN hP hD (c_X1_stays l D cI cZ H.size AT AT_sg AT_of AT_tr AT_ga AT_bb AT_fg AT_sg 6 fT_sg x6 x5 r_65 hc_65) mb_X1_stays mv_X1_stays wl_X1_118 [0, 7] rfl rfl rfl (Nat.le_of_ble_eq_true rfl) (Nat.le_of_ble_eq_true rfl) rfl hl.1 rfl (Nat.le_of_ble_eq_true rfl) ⟨Nat.le_refl 0, Nat.le_refl 0⟩ dX1_restingPair_65) hP hD hS hA [0, 7] rfl rfl (fun H locs hP hD hS => ?_)
              have hP : va_P D vwCl (wd_X1_restingPair cI cZ AT AT_of AT_tr AT_ga AT_bb AT_fg AT_sg AT_of_sl AT_of_fl AT_of_ro AT_of_nt AT_of_mk AT_of_mo AT_of_sl_c AT_of_fl_c vT_of_ng vT_of_sl_n fT_of_sl_c vT_of_fl_n fT_of_fl_c fT_fg fT_sg) H := hP
              have hD : va_D A (wd_X1_restingPair cI cZ AT AT_of AT_tr AT_ga AT_bb AT_fg AT_sg AT_of_sl AT_of_fl AT_of_ro AT_of_nt AT_of_mk AT_of_mo AT_of_sl_c AT_of_fl_c vT_of_ng vT_of_sl_n fT_of_sl_c vT_of_fl_n fT_of_fl_c fT_fg fT_sg) := hD
              refine lv_if_eq (tgt := 89) hx hb dX1_restingPair_68 (by decide) (fun c_68 => ?_) (fun c_68 => ?_)
              · have hm := it_s c_68 hm
                refine lv_iinc (v := (x6 + 1)) (lv' := [(6, .int (x6 + 1)), (5, .int x5), (4, .int x4), (0, .ref AT), (3, .int p3)]) hx hb dX1_restingPair_89 hl (k := 0) rfl rfl (by decide) rfl (fun ls hl => ?_)
                refine lv_goto (tgt := 34) hx hb dX1_restingPair_92 (by decide) ?_
                exact ih_34 (x6 + 1) x5 x4 fT_fg fT_sg H locs ls hm hP hD hS (lv_sub hl [0, 1, 2, 3, 4] rfl)
              · have hm := it_n c_68 hm
                refine lv_iload hx hb dX1_restingPair_71 (lv_at hl 2 rfl) ?_
                refine lv_iload_n hx hb dX1_restingPair_73 rfl (lv_at hl 4 rfl) ?_
                refine lv_icmp_ne (tgt := 86) hx hb dX1_restingPair_74 (by decide) (fun c_74 => ?_) (fun c_74 => ?_)
                · have hm := it_n c_74 hm
                  refine lv_iinc (v := (x4 + 1)) (lv' := [(4, .int (x4 + 1)), (6, .int x6), (5, .int x5), (0, .ref AT), (3, .int p3)]) hx hb dX1_restingPair_86 hl (k := 2) rfl rfl (by decide) rfl (fun ls hl => ?_)
                  refine lv_iinc (v := (x6 + 1)) (lv' := [(6, .int (x6 + 1)), (4, .int (x4 + 1)), (5, .int x5), (0, .ref AT), (3, .int p3)]) hx hb dX1_restingPair_89 hl (k := 1) rfl rfl (by decide) rfl (fun ls hl => ?_)
                  refine lv_goto (tgt := 34) hx hb dX1_restingPair_92 (by decide) ?_
                  exact ih_34 (x6 + 1) x5 (x4 + 1) fT_fg fT_sg H locs ls hm hP hD hS (lv_sub hl [0, 2, 1, 3, 4] rfl)
                · have hm := it_s c_74 hm
                  refine lv_bipush (v := 10) hx hb dX1_restingPair_77 (by decide) ?_
                  refine lv_iload hx hb dX1_restingPair_79 (lv_at hl 1 rfl) ?_
                  refine lv_imul hx hb dX1_restingPair_81 ?_
                  refine lv_iload hx hb dX1_restingPair_82 (lv_at hl 0 rfl) ?_
                  refine lv_iadd hx hb dX1_restingPair_84 ?_
                  have hm := Option.some.inj hm
                  subst hm
                  exact q_iret (v := ((10 * x5) + x6)) hx hb hr hlocks hP hS dX1_restingPair_85
      intro x5 x4 fT_fg fT_sg H locs ls hm hP hD hS hl
      rw [fL_X1_restingPair_24] at hm
      refine lv_iload hx hb dX1_restingPair_24 (lv_at hl 0 rfl) ?_
      refine lv_bipush (v := 6) hx hb dX1_restingPair_26 (by decide) ?_
      refine lv_icmp_ge (tgt := 101) hx hb dX1_restingPair_28 (by decide) (fun c_28 => ?_) (fun c_28 => ?_)
      · have hm := it_s c_28 hm
        refine lv_iload_n hx hb dX1_restingPair_101 rfl (lv_at hl 3 rfl) ?_
        refine lv_iconst (v := (-1)) hx hb dX1_restingPair_102 (by decide) ?_
        refine lv_icmp_ne (tgt := 111) hx hb dX1_restingPair_103 (by decide) (fun c_103 => ?_) (fun c_103 => ?_)
        · have hm := it_n c_103 hm
          refine lv_bipush (v := (-5)) hx hb dX1_restingPair_111 (by decide) ?_
          have hm := Option.some.inj hm
          subst hm
          exact q_iret (v := (-5)) hx hb hr hlocks hP hS dX1_restingPair_113
        · have hm := it_s c_103 hm
          refine lv_iload hx hb dX1_restingPair_106 (lv_at hl 1 rfl) ?_
          refine lv_goto (tgt := 113) hx hb dX1_restingPair_108 (by decide) ?_
          have hm := Option.some.inj hm
          subst hm
          exact q_iret (v := x4) hx hb hr hlocks hP hS dX1_restingPair_113
      · have hm := it_n c_28 hm
        refine lv_iconst (v := 0) hx hb dX1_restingPair_31 (by decide) ?_
        refine lv_istore (lv' := [(6, .int 0), (5, .int x5), (4, .int x4), (0, .ref AT), (3, .int p3)]) hx hb dX1_restingPair_32 hl (by decide) rfl (fun ls hl => ?_)
        exact hL_34 FU 0 x5 x4 fT_fg fT_sg H locs ls hm hP hD hS (lv_sub hl [0, 1, 2, 3, 4] rfl)
  unfold fm_X1_restingPair at hm
  refine q_gen hS hP ?_
  intro H locs hP hS
  refine lv_aload_n hx hb dX1_restingPair_0 rfl (lv_at hl 0 rfl) ?_
  refine lv_aload_n hx hb dX1_restingPair_1 rfl (lv_at hl 0 rfl) ?_
  refine gf_X1_28 (v := .ref AT_fg) hx hb hts hown hK hN hP 0 rfl rfl dX1_restingPair_2 ?_
  refine lv_iload_n hx hb dX1_restingPair_5 rfl (lv_at hl 1 rfl) ?_
  obtain ⟨r_6, hc_6, hm⟩ := ob_s hm
  refine q_cv (q_rv (rest := []) ⟨hx, hb, hml, hown, hts⟩ hK hN hP hD (c_X1_fillGets l D cI cZ H.size AT AT_fg AT_of AT_tr AT_ga AT_bb AT_fg AT_sg AT_of_sl AT_of_fl AT_of_ro AT_of_nt AT_of_mk AT_of_mo AT_of_sl_c AT_of_fl_c 6 vT_of_ng vT_of_sl_n fT_of_sl_c vT_of_fl_n fT_of_fl_c fT_fg p1 r_6 hc_6) mb_X1_fillGets mv_X1_fillGets wl_X1_114 [0, 1, 2, 3, 4, 5, 6] rfl rfl rfl (Nat.le_of_ble_eq_true rfl) (Nat.le_of_ble_eq_true rfl) rfl hl.1 rfl (Nat.le_of_ble_eq_true rfl) ⟨Nat.le_refl 0, Nat.le_refl 0⟩ dX1_restingPair_6) hP hD hS hA [0, 1, 2, 3, 4, 5, 6] rfl rfl (fun H locs hP hD hS => ?_)
  have hP : va_P D vwCl (wd_X1_restingPair cI cZ AT AT_of AT_tr AT_ga AT_bb AT_fg AT_sg AT_of_sl AT_of_fl AT_of_ro AT_of_nt AT_of_mk AT_of_mo AT_of_sl_c AT_of_fl_c vT_of_ng vT_of_sl_n fT_of_sl_c vT_of_fl_n fT_of_fl_c r_6 fT_sg) H := hP
  have hD : va_D A (wd_X1_restingPair cI cZ AT AT_of AT_tr AT_ga AT_bb AT_fg AT_sg AT_of_sl AT_of_fl AT_of_ro AT_of_nt AT_of_mk AT_of_mo AT_of_sl_c AT_of_fl_c vT_of_ng vT_of_sl_n fT_of_sl_c vT_of_fl_n fT_of_fl_c r_6 fT_sg) := hD
  refine lv_aload_n hx hb dX1_restingPair_9 rfl (lv_at hl 0 rfl) ?_
  refine lv_aload_n hx hb dX1_restingPair_10 rfl (lv_at hl 0 rfl) ?_
  refine gf_X1_31 (v := .ref AT_sg) hx hb hts hown hK hN hP 0 rfl rfl dX1_restingPair_11 ?_
  refine lv_iload_n hx hb dX1_restingPair_14 rfl (lv_at hl 2 rfl) ?_
  obtain ⟨r_15, hc_15, hm⟩ := ob_s hm
  refine q_cv (q_rv (rest := []) ⟨hx, hb, hml, hown, hts⟩ hK hN hP hD (c_X1_fillGets l D cI cZ H.size AT AT_sg AT_of AT_tr AT_ga AT_bb AT_fg AT_sg AT_of_sl AT_of_fl AT_of_ro AT_of_nt AT_of_mk AT_of_mo AT_of_sl_c AT_of_fl_c 6 vT_of_ng vT_of_sl_n fT_of_sl_c vT_of_fl_n fT_of_fl_c fT_sg p2 r_15 hc_15) mb_X1_fillGets mv_X1_fillGets wl_X1_114 [0, 1, 2, 3, 4, 5, 7] rfl rfl rfl (Nat.le_of_ble_eq_true rfl) (Nat.le_of_ble_eq_true rfl) rfl hl.1 rfl (Nat.le_of_ble_eq_true rfl) ⟨Nat.le_refl 0, Nat.le_refl 0⟩ dX1_restingPair_15) hP hD hS hA [0, 1, 2, 3, 4, 5, 7] rfl rfl (fun H locs hP hD hS => ?_)
  have hP : va_P D vwCl (wd_X1_restingPair cI cZ AT AT_of AT_tr AT_ga AT_bb AT_fg AT_sg AT_of_sl AT_of_fl AT_of_ro AT_of_nt AT_of_mk AT_of_mo AT_of_sl_c AT_of_fl_c vT_of_ng vT_of_sl_n fT_of_sl_c vT_of_fl_n fT_of_fl_c r_6 r_15) H := hP
  have hD : va_D A (wd_X1_restingPair cI cZ AT AT_of AT_tr AT_ga AT_bb AT_fg AT_sg AT_of_sl AT_of_fl AT_of_ro AT_of_nt AT_of_mk AT_of_mo AT_of_sl_c AT_of_fl_c vT_of_ng vT_of_sl_n fT_of_sl_c vT_of_fl_n fT_of_fl_c r_6 r_15) := hD
  refine lv_iconst (v := 0) hx hb dX1_restingPair_18 (by decide) ?_
  refine lv_istore (lv' := [(4, .int 0), (0, .ref AT), (1, .int p1), (2, .int p2), (3, .int p3)]) hx hb dX1_restingPair_19 hl (by decide) rfl (fun ls hl => ?_)
  refine lv_iconst (v := 0) hx hb dX1_restingPair_21 (by decide) ?_
  refine lv_istore (lv' := [(5, .int 0), (4, .int 0), (0, .ref AT), (1, .int p1), (2, .int p2), (3, .int p3)]) hx hb dX1_restingPair_22 hl (by decide) rfl (fun ls hl => ?_)
  exact hL_24 FU 0 0 r_6 r_15 H locs ls hm hP hD hS (lv_sub hl [0, 1, 2, 5] rfl)
theorem mb_X1_tenthsBelieved : q_mb yX1_tenthsBelieved cX1_tenthsBelieved 7 (some .int) 2 := ⟨wc_X1_tenthsBelieved, wn_X1, by decide, by decide, by decide +kernel⟩
theorem mv_X1_tenthsBelieved : q_mv yX1_tenthsBelieved 1 := ⟨wi_X1_tenthsBelieved, ws_X1_tenthsBelieved, _, rfl, rfl⟩
def wd_X1_tenthsBelieved (cI cZ : ClassId) (AT AT_of AT_tr AT_ga AT_bb AT_fg AT_sg AT_of_sl AT_of_fl AT_of_ro AT_of_nt AT_of_mk AT_of_mo AT_of_fl_c AT_of_sl_c : Nat) (vT_of_ng : Int32) (vT_of_fl_n : Int32) (fT_of_fl_c : Nat → Int32) (vT_of_sl_n : Int32) (fT_of_sl_c : Nat → Int32) : va_W := [(AT, .inr (1, [.ref AT_of, .ref AT_tr, .ref AT_ga, .ref AT_bb, .ref AT_fg, .ref AT_sg])), (AT_of, .inr (4, [.ref AT_of_sl, .ref AT_of_fl, .ref AT_of_ro, .ref AT_of_nt, .ref AT_of_mk, .ref AT_of_mo, .int vT_of_ng])), (AT_of_fl, .inr (3, [.int 3, .ref AT_of_fl_c, .int vT_of_fl_n])), (AT_of_fl_c, .inl (cI, 18, .inl fT_of_fl_c)), (AT_of_sl, .inr (3, [.int 4, .ref AT_of_sl_c, .int vT_of_sl_n])), (AT_of_sl_c, .inl (cI, 24, .inl fT_of_sl_c))]
def fL_X1_tenthsBelieved_5 (p1 : Int32) (p2 : Int32) (vT_of_ng : Int32) (vT_of_fl_n : Int32) (fT_of_fl_c : Nat → Int32) (vT_of_sl_n : Int32) (fT_of_sl_c : Nat → Int32) : Nat → Int32 → Int32 → Option (Int32)
  | 0, _, _ => none
  | fu + 1, x4, x3 => Option.bind (fm_X3_size vT_of_fl_n) (fun r_14 => if r_14 ≤ x4 then (some (x3)) else (Option.bind (fm_X3_cell 3 18 x4 2 vT_of_fl_n fT_of_fl_c) (fun r_30 => Option.bind (fm_X4_believedOf p1 x4 vT_of_ng vT_of_sl_n fT_of_sl_c vT_of_fl_n fT_of_fl_c) (fun r_49 => Option.bind (fm_X1_pillowOf p1 vT_of_sl_n fT_of_sl_c) (fun r_58 => if r_30 = r_58 then (fL_X1_tenthsBelieved_5 p1 p2 vT_of_ng vT_of_fl_n fT_of_fl_c vT_of_sl_n fT_of_sl_c fu (x4 + 1) (x3 + ((10 - p2) * r_49))) else (Option.bind (fm_X1_pillowOf p1 vT_of_sl_n fT_of_sl_c) (fun r_86 => if ((r_30 + 1) - (r_30 + 1) / 6 * 6) = r_86 then (fL_X1_tenthsBelieved_5 p1 p2 vT_of_ng vT_of_fl_n fT_of_fl_c vT_of_sl_n fT_of_sl_c fu (x4 + 1) (x3 + (p2 * r_49))) else (fL_X1_tenthsBelieved_5 p1 p2 vT_of_ng vT_of_fl_n fT_of_fl_c vT_of_sl_n fT_of_sl_c fu (x4 + 1) x3))))))))
def fm_X1_tenthsBelieved (p1 : Int32) (p2 : Int32) (vT_of_ng : Int32) (vT_of_fl_n : Int32) (fT_of_fl_c : Nat → Int32) (vT_of_sl_n : Int32) (fT_of_sl_c : Nat → Int32) : Option (Int32) := fL_X1_tenthsBelieved_5 p1 p2 vT_of_ng vT_of_fl_n fT_of_fl_c vT_of_sl_n fT_of_sl_c FU 0 0
set_option maxHeartbeats 4000000 in
set_option maxRecDepth 100000 in
theorem c_X1_tenthsBelieved (l : Launch) (D : va_G) (cI cZ : ClassId) (sz : Nat) (AT AT_of AT_tr AT_ga AT_bb AT_fg AT_sg AT_of_sl AT_of_fl AT_of_ro AT_of_nt AT_of_mk AT_of_mo AT_of_fl_c AT_of_sl_c : Nat) (vT_of_ng : Int32) (vT_of_fl_n : Int32) (fT_of_fl_c : Nat → Int32) (vT_of_sl_n : Int32) (fT_of_sl_c : Nat → Int32) (p1 : Int32) (p2 : Int32) (out : (Int32)) (hm : fm_X1_tenthsBelieved p1 p2 vT_of_ng vT_of_fl_n fT_of_fl_c vT_of_sl_n fT_of_sl_c = some out) : Met l yX1_tenthsBelieved (Cond.code yX1_tenthsBelieved cX1_tenthsBelieved 7 (some .int) :: bg) { frames := 3, cells := 0, slots := 0, locals := 70 } (va_Pc [.ref AT, .int p1, .int p2] (q_pre D cI cZ sz (wd_X1_tenthsBelieved cI cZ AT AT_of AT_tr AT_ga AT_bb AT_fg AT_sg AT_of_sl AT_of_fl AT_of_ro AT_of_nt AT_of_mk AT_of_mo AT_of_fl_c AT_of_sl_c vT_of_ng vT_of_fl_n fT_of_fl_c vT_of_sl_n fT_of_sl_c))) (q_Qi D (wd_X1_tenthsBelieved cI cZ AT AT_of AT_tr AT_ga AT_bb AT_fg AT_sg AT_of_sl AT_of_fl AT_of_ro AT_of_nt AT_of_mk AT_of_mo AT_of_fl_c AT_of_sl_c vT_of_ng vT_of_fl_n fT_of_fl_c vT_of_sl_n fT_of_sl_c) out (va_A (wd_X1_tenthsBelieved cI cZ AT AT_of AT_tr AT_ga AT_bb AT_fg AT_sg AT_of_sl AT_of_fl AT_of_ro AT_of_nt AT_of_mk AT_of_mo AT_of_fl_c AT_of_sl_c vT_of_ng vT_of_fl_n fT_of_fl_c vT_of_sl_n fT_of_sl_c) sz)) 0 0 (va_A (wd_X1_tenthsBelieved cI cZ AT AT_of AT_tr AT_ga AT_bb AT_fg AT_sg AT_of_sl AT_of_fl AT_of_ro AT_of_nt AT_of_mk AT_of_mo AT_of_fl_c AT_of_sl_c vT_of_ng vT_of_fl_n fT_of_fl_c vT_of_sl_n fT_of_sl_c) sz) := by
  refine q_met (fun A => q_Qi D (wd_X1_tenthsBelieved cI cZ AT AT_of AT_tr AT_ga AT_bb AT_fg AT_sg AT_of_sl AT_of_fl AT_of_ro AT_of_nt AT_of_mk AT_of_mo AT_of_fl_c AT_of_sl_c vT_of_ng vT_of_fl_n fT_of_fl_c vT_of_sl_n fT_of_sl_c) out A) (by decide) (Nat.le_of_ble_eq_true rfl) ?_
  intro p e s m below meth c ls A hx hb hr hml hown hts hlocks _ hA hS hP hD hK hN hl
  have hown : s.vm.findClass RX1 = some m.cls := hown
  have hl : lv_has ls 7 [(0, .ref AT), (1, .int p1), (2, .int p2)] := hl
  have hL_5 : ∀ (fu_5 : Nat) (x4 : Int32) (x3 : Int32) (H : Heap) (locs : List Loc) (ls : Array Slot), fL_X1_tenthsBelieved_5 p1 p2 vT_of_ng vT_of_fl_n fT_of_fl_c vT_of_sl_n fT_of_sl_c fu_5 x4 x3 = some out → va_P D vwCl (wd_X1_tenthsBelieved cI cZ AT AT_of AT_tr AT_ga AT_bb AT_fg AT_sg AT_of_sl AT_of_fl AT_of_ro AT_of_nt AT_of_mk AT_of_mo AT_of_fl_c AT_of_sl_c vT_of_ng vT_of_fl_n fT_of_fl_c vT_of_sl_n fT_of_sl_c) H → va_D A (wd_X1_tenthsBelieved cI cZ AT AT_of AT_tr AT_ga AT_bb AT_fg AT_sg AT_of_sl AT_of_fl AT_of_ro AT_of_nt AT_of_mk AT_of_mo AT_of_fl_c AT_of_sl_c vT_of_ng vT_of_fl_n fT_of_fl_c vT_of_sl_n fT_of_sl_c) → va_S A s.heap H locs → lv_has ls 7 [(4, .int x4), (3, .int x3), (0, .ref AT), (1, .int p1), (2, .int p2)] → W p l e { frames := 3, cells := 0, slots := 0, locals := 70 } s m ([.ref AT, .int p1, .int p2] : List Value).toArray below meth c H locs 0 0 (MQ below (q_Qi D (wd_X1_tenthsBelieved cI cZ AT AT_of AT_tr AT_ga AT_bb AT_fg AT_sg AT_of_sl AT_of_fl AT_of_ro AT_of_nt AT_of_mk AT_of_mo AT_of_fl_c AT_of_sl_c vT_of_ng vT_of_fl_n fT_of_fl_c vT_of_sl_n fT_of_sl_c) out A) ([.ref AT, .int p1, .int p2] : List Value).toArray s 0 0 A) (F0 m 5 ls []) := by
    intro fu_5
    induction fu_5 with
    | zero => intro x4 x3 H locs ls hm hP hD hS hl; exact absurd (show (none : Option (Int32)) = some out from hm) (fun h => nomatch h)
    | succ fu_5 ih_5 =>
      intro x4 x3 H locs ls hm hP hD hS hl
      rw [fL_X1_tenthsBelieved_5] at hm
      refine lv_iload hx hb dX1_tenthsBelieved_5 (lv_at hl 0 rfl) ?_
      refine lv_aload_n hx hb dX1_tenthsBelieved_7 rfl (lv_at hl 2 rfl) ?_
      refine gf_X1_9 (v := .ref AT_of) hx hb hts hown hK hN hP 0 rfl rfl dX1_tenthsBelieved_8 ?_
      refine gf_X1_61 (v := .ref AT_of_fl) hx hb hts hown hK hN hP 1 rfl rfl dX1_tenthsBelieved_11 ?_
      obtain ⟨r_14, hc_14, hm⟩ := ob_s hm
      refine q_ci (q_rv (rest := [.int x4]) ⟨hx, hb, hml, hown, hts⟩ hK hN hP hD (c_X3_size l D cI cZ H.size AT_of_fl AT_of_fl_c 3 vT_of_fl_n r_14 hc_14) mb_X3_size mv_X3_size wl_X1_64 [2] rfl rfl rfl (Nat.le_of_ble_eq_true rfl) (Nat.le_of_ble_eq_true rfl) rfl hl.1 rfl (Nat.le_of_ble_eq_true rfl) ⟨Nat.le_refl 0, Nat.le_refl 0⟩ dX1_tenthsBelieved_14) hP hD hS hA [2] rfl rfl (fun H locs hP hD hS => ?_)
      have hP : va_P D vwCl (wd_X1_tenthsBelieved cI cZ AT AT_of AT_tr AT_ga AT_bb AT_fg AT_sg AT_of_sl AT_of_fl AT_of_ro AT_of_nt AT_of_mk AT_of_mo AT_of_fl_c AT_of_sl_c vT_of_ng vT_of_fl_n fT_of_fl_c vT_of_sl_n fT_of_sl_c) H := hP
      have hD : va_D A (wd_X1_tenthsBelieved cI cZ AT AT_of AT_tr AT_ga AT_bb AT_fg AT_sg AT_of_sl AT_of_fl AT_of_ro AT_of_nt AT_of_mk AT_of_mo AT_of_fl_c AT_of_sl_c vT_of_ng vT_of_fl_n fT_of_fl_c vT_of_sl_n fT_of_sl_c) := hD
      refine lv_icmp_ge (tgt := 105) hx hb dX1_tenthsBelieved_17 (by decide) (fun c_17 => ?_) (fun c_17 => ?_)
      · have hm := it_s c_17 hm
        refine lv_iload_n hx hb dX1_tenthsBelieved_105 rfl (lv_at hl 1 rfl) ?_
        have hm := Option.some.inj hm
        subst hm
        exact q_iret (v := x3) hx hb hr hlocks hP hS dX1_tenthsBelieved_106
      · have hm := it_n c_17 hm
        refine lv_aload_n hx hb dX1_tenthsBelieved_20 rfl (lv_at hl 2 rfl) ?_
        refine gf_X1_9 (v := .ref AT_of) hx hb hts hown hK hN hP 0 rfl rfl dX1_tenthsBelieved_21 ?_
        refine gf_X1_61 (v := .ref AT_of_fl) hx hb hts hown hK hN hP 1 rfl rfl dX1_tenthsBelieved_24 ?_
        refine lv_iload hx hb dX1_tenthsBelieved_27 (lv_at hl 0 rfl) ?_
        refine lv_iconst (v := 2) hx hb dX1_tenthsBelieved_29 (by decide) ?_
        obtain ⟨r_30, hc_30, hm⟩ := ob_s hm
        refine q_ci (q_rv (rest := []) ⟨hx, hb, hml, hown, hts⟩ hK hN hP hD (c_X3_cell l D cI cZ H.size AT_of_fl AT_of_fl_c 3 18 vT_of_fl_n fT_of_fl_c x4 2 r_30 hc_30) mb_X3_cell mv_X3_cell wl_X1_38 [2, 3] rfl rfl rfl (Nat.le_of_ble_eq_true rfl) (Nat.le_of_ble_eq_true rfl) rfl hl.1 rfl (Nat.le_of_ble_eq_true rfl) ⟨Nat.le_refl 0, Nat.le_refl 0⟩ dX1_tenthsBelieved_30) hP hD hS hA [2, 3] rfl rfl (fun H locs hP hD hS => ?_)
        have hP : va_P D vwCl (wd_X1_tenthsBelieved cI cZ AT AT_of AT_tr AT_ga AT_bb AT_fg AT_sg AT_of_sl AT_of_fl AT_of_ro AT_of_nt AT_of_mk AT_of_mo AT_of_fl_c AT_of_sl_c vT_of_ng vT_of_fl_n fT_of_fl_c vT_of_sl_n fT_of_sl_c) H := hP
        have hD : va_D A (wd_X1_tenthsBelieved cI cZ AT AT_of AT_tr AT_ga AT_bb AT_fg AT_sg AT_of_sl AT_of_fl AT_of_ro AT_of_nt AT_of_mk AT_of_mo AT_of_fl_c AT_of_sl_c vT_of_ng vT_of_fl_n fT_of_fl_c vT_of_sl_n fT_of_sl_c) := hD
        refine lv_istore (lv' := [(5, .int r_30), (4, .int x4), (3, .int x3), (0, .ref AT), (1, .int p1), (2, .int p2)]) hx hb dX1_tenthsBelieved_33 hl (by decide) rfl (fun ls hl => ?_)
        refine lv_aload_n hx hb dX1_tenthsBelieved_35 rfl (lv_at hl 3 rfl) ?_
        refine gf_X1_9 (v := .ref AT_of) hx hb hts hown hK hN hP 0 rfl rfl dX1_tenthsBelieved_36 ?_
        refine lv_iload_n hx hb dX1_tenthsBelieved_39 rfl (lv_at hl 4 rfl) ?_
        refine lv_iload hx hb dX1_tenthsBelieved_40 (lv_at hl 1 rfl) ?_
        refine lv_aload_n hx hb dX1_tenthsBelieved_42 rfl (lv_at hl 3 rfl) ?_
        refine gf_X1_9 (v := .ref AT_of) hx hb hts hown hK hN hP 0 rfl rfl dX1_tenthsBelieved_43 ?_
        refine gf_X1_48 (v := .int vT_of_ng) hx hb hts hown hK hN hP 1 rfl rfl dX1_tenthsBelieved_46 ?_
        obtain ⟨r_49, hc_49, hm⟩ := ob_s hm
        refine q_ci (q_rv (rest := []) ⟨hx, hb, hml, hown, hts⟩ hK hN hP hD (c_X4_believedOf l D cI cZ H.size AT_of AT_of_sl AT_of_fl AT_of_ro AT_of_nt AT_of_mk AT_of_mo AT_of_sl_c AT_of_fl_c vT_of_ng vT_of_sl_n fT_of_sl_c vT_of_fl_n fT_of_fl_c p1 x4 vT_of_ng r_49 hc_49) mb_X4_believedOf mv_X4_believedOf wl_X1_125 [1, 4, 5, 2, 3] rfl rfl rfl (Nat.le_of_ble_eq_true rfl) (Nat.le_of_ble_eq_true rfl) rfl hl.1 rfl (Nat.le_of_ble_eq_true rfl) ⟨Nat.le_refl 0, Nat.le_refl 0⟩ dX1_tenthsBelieved_49) hP hD hS hA [1, 4, 5, 2, 3] rfl rfl (fun H locs hP hD hS => ?_)
        have hP : va_P D vwCl (wd_X1_tenthsBelieved cI cZ AT AT_of AT_tr AT_ga AT_bb AT_fg AT_sg AT_of_sl AT_of_fl AT_of_ro AT_of_nt AT_of_mk AT_of_mo AT_of_fl_c AT_of_sl_c vT_of_ng vT_of_fl_n fT_of_fl_c vT_of_sl_n fT_of_sl_c) H := hP
        have hD : va_D A (wd_X1_tenthsBelieved cI cZ AT AT_of AT_tr AT_ga AT_bb AT_fg AT_sg AT_of_sl AT_of_fl AT_of_ro AT_of_nt AT_of_mk AT_of_mo AT_of_fl_c AT_of_sl_c vT_of_ng vT_of_fl_n fT_of_fl_c vT_of_sl_n fT_of_sl_c) := hD
        refine lv_istore (lv' := [(6, .int r_49), (5, .int r_30), (4, .int x4), (3, .int x3), (0, .ref AT), (1, .int p1), (2, .int p2)]) hx hb dX1_tenthsBelieved_52 hl (by decide) rfl (fun ls hl => ?_)
        refine lv_iload hx hb dX1_tenthsBelieved_54 (lv_at hl 1 rfl) ?_
        refine lv_aload_n hx hb dX1_tenthsBelieved_56 rfl (lv_at hl 4 rfl) ?_
        refine lv_iload_n hx hb dX1_tenthsBelieved_57 rfl (lv_at hl 5 rfl) ?_
        obtain ⟨r_58, hc_58, hm⟩ := ob_s hm
        refine q_ci (q_rv (rest := [.int r_30]) ⟨hx, hb, hml, hown, hts⟩ hK hN hP hD (c_X1_pillowOf l D cI cZ H.size AT AT_of AT_tr AT_ga AT_bb AT_fg AT_sg AT_of_sl AT_of_fl AT_of_ro AT_of_nt AT_of_mk AT_of_mo AT_of_sl_c vT_of_ng vT_of_sl_n fT_of_sl_c p1 r_58 hc_58) mb_X1_pillowOf mv_X1_pillowOf wl_X1_44 [0, 1, 4, 5] rfl rfl rfl (Nat.le_of_ble_eq_true rfl) (Nat.le_of_ble_eq_true rfl) rfl hl.1 rfl (Nat.le_of_ble_eq_true rfl) ⟨Nat.le_refl 0, Nat.le_refl 0⟩ dX1_tenthsBelieved_58) hP hD hS hA [0, 1, 4, 5] rfl rfl (fun H locs hP hD hS => ?_)
        have hP : va_P D vwCl (wd_X1_tenthsBelieved cI cZ AT AT_of AT_tr AT_ga AT_bb AT_fg AT_sg AT_of_sl AT_of_fl AT_of_ro AT_of_nt AT_of_mk AT_of_mo AT_of_fl_c AT_of_sl_c vT_of_ng vT_of_fl_n fT_of_fl_c vT_of_sl_n fT_of_sl_c) H := hP
        have hD : va_D A (wd_X1_tenthsBelieved cI cZ AT AT_of AT_tr AT_ga AT_bb AT_fg AT_sg AT_of_sl AT_of_fl AT_of_ro AT_of_nt AT_of_mk AT_of_mo AT_of_fl_c AT_of_sl_c vT_of_ng vT_of_fl_n fT_of_fl_c vT_of_sl_n fT_of_sl_c) := hD
        refine lv_icmp_ne (tgt := 77) hx hb dX1_tenthsBelieved_61 (by decide) (fun c_61 => ?_) (fun c_61 => ?_)
        · have hm := it_n c_61 hm
          refine lv_iload hx hb dX1_tenthsBelieved_77 (lv_at hl 1 rfl) ?_
          refine lv_iconst (v := 1) hx hb dX1_tenthsBelieved_79 (by decide) ?_
          refine lv_iadd hx hb dX1_tenthsBelieved_80 ?_
          refine lv_bipush (v := 6) hx hb dX1_tenthsBelieved_81 (by decide) ?_
          refine lv_irem hx hb dX1_tenthsBelieved_83 (by decide) ?_
          refine lv_aload_n hx hb dX1_tenthsBelieved_84 rfl (lv_at hl 4 rfl) ?_
          refine lv_iload_n hx hb dX1_tenthsBelieved_85 rfl (lv_at hl 5 rfl) ?_
          obtain ⟨r_86, hc_86, hm⟩ := ob_s hm
          refine q_ci (q_rv (rest := [.int ((r_30 + 1) - (r_30 + 1) / 6 * 6)]) ⟨hx, hb, hml, hown, hts⟩ hK hN hP hD (c_X1_pillowOf l D cI cZ H.size AT AT_of AT_tr AT_ga AT_bb AT_fg AT_sg AT_of_sl AT_of_fl AT_of_ro AT_of_nt AT_of_mk AT_of_mo AT_of_sl_c vT_of_ng vT_of_sl_n fT_of_sl_c p1 r_86 hc_86) mb_X1_pillowOf mv_X1_pillowOf wl_X1_44 [0, 1, 4, 5] rfl rfl rfl (Nat.le_of_ble_eq_true rfl) (Nat.le_of_ble_eq_true rfl) rfl hl.1 rfl (Nat.le_of_ble_eq_true rfl) ⟨Nat.le_refl 0, Nat.le_refl 0⟩ dX1_tenthsBelieved_86) hP hD hS hA [0, 1, 4, 5] rfl rfl (fun H locs hP hD hS => ?_)
          have hP : va_P D vwCl (wd_X1_tenthsBelieved cI cZ AT AT_of AT_tr AT_ga AT_bb AT_fg AT_sg AT_of_sl AT_of_fl AT_of_ro AT_of_nt AT_of_mk AT_of_mo AT_of_fl_c AT_of_sl_c vT_of_ng vT_of_fl_n fT_of_fl_c vT_of_sl_n fT_of_sl_c) H := hP
          have hD : va_D A (wd_X1_tenthsBelieved cI cZ AT AT_of AT_tr AT_ga AT_bb AT_fg AT_sg AT_of_sl AT_of_fl AT_of_ro AT_of_nt AT_of_mk AT_of_mo AT_of_fl_c AT_of_sl_c vT_of_ng vT_of_fl_n fT_of_fl_c vT_of_sl_n fT_of_sl_c) := hD
          refine lv_icmp_ne (tgt := 99) hx hb dX1_tenthsBelieved_89 (by decide) (fun c_89 => ?_) (fun c_89 => ?_)
          · have hm := it_n c_89 hm
            refine lv_iinc (v := (x4 + 1)) (lv' := [(4, .int (x4 + 1)), (6, .int r_49), (5, .int r_30), (3, .int x3), (0, .ref AT), (1, .int p1), (2, .int p2)]) hx hb dX1_tenthsBelieved_99 hl (k := 2) rfl rfl (by decide) rfl (fun ls hl => ?_)
            refine lv_goto (tgt := 5) hx hb dX1_tenthsBelieved_102 (by decide) ?_
            exact ih_5 (x4 + 1) x3 H locs ls hm hP hD hS (lv_sub hl [0, 3, 4, 5, 6] rfl)
          · have hm := it_s c_89 hm
            refine lv_iload_n hx hb dX1_tenthsBelieved_92 rfl (lv_at hl 3 rfl) ?_
            refine lv_iload_n hx hb dX1_tenthsBelieved_93 rfl (lv_at hl 6 rfl) ?_
            refine lv_iload hx hb dX1_tenthsBelieved_94 (lv_at hl 0 rfl) ?_
            refine lv_imul hx hb dX1_tenthsBelieved_96 ?_
            refine lv_iadd hx hb dX1_tenthsBelieved_97 ?_
            refine lv_istore_n (lv' := [(3, .int (x3 + (p2 * r_49))), (6, .int r_49), (5, .int r_30), (4, .int x4), (0, .ref AT), (1, .int p1), (2, .int p2)]) hx hb dX1_tenthsBelieved_98 rfl hl (by decide) rfl (fun ls hl => ?_)
            refine lv_iinc (v := (x4 + 1)) (lv' := [(4, .int (x4 + 1)), (3, .int (x3 + (p2 * r_49))), (6, .int r_49), (5, .int r_30), (0, .ref AT), (1, .int p1), (2, .int p2)]) hx hb dX1_tenthsBelieved_99 hl (k := 3) rfl rfl (by decide) rfl (fun ls hl => ?_)
            refine lv_goto (tgt := 5) hx hb dX1_tenthsBelieved_102 (by decide) ?_
            exact ih_5 (x4 + 1) (x3 + (p2 * r_49)) H locs ls hm hP hD hS (lv_sub hl [0, 1, 4, 5, 6] rfl)
        · have hm := it_s c_61 hm
          refine lv_iload_n hx hb dX1_tenthsBelieved_64 rfl (lv_at hl 3 rfl) ?_
          refine lv_bipush (v := 10) hx hb dX1_tenthsBelieved_65 (by decide) ?_
          refine lv_iload_n hx hb dX1_tenthsBelieved_67 rfl (lv_at hl 6 rfl) ?_
          refine lv_isub hx hb dX1_tenthsBelieved_68 ?_
          refine lv_iload hx hb dX1_tenthsBelieved_69 (lv_at hl 0 rfl) ?_
          refine lv_imul hx hb dX1_tenthsBelieved_71 ?_
          refine lv_iadd hx hb dX1_tenthsBelieved_72 ?_
          refine lv_istore_n (lv' := [(3, .int (x3 + ((10 - p2) * r_49))), (6, .int r_49), (5, .int r_30), (4, .int x4), (0, .ref AT), (1, .int p1), (2, .int p2)]) hx hb dX1_tenthsBelieved_73 rfl hl (by decide) rfl (fun ls hl => ?_)
          refine lv_goto (tgt := 99) hx hb dX1_tenthsBelieved_74 (by decide) ?_
          refine lv_iinc (v := (x4 + 1)) (lv' := [(4, .int (x4 + 1)), (3, .int (x3 + ((10 - p2) * r_49))), (6, .int r_49), (5, .int r_30), (0, .ref AT), (1, .int p1), (2, .int p2)]) hx hb dX1_tenthsBelieved_99 hl (k := 3) rfl rfl (by decide) rfl (fun ls hl => ?_)
          refine lv_goto (tgt := 5) hx hb dX1_tenthsBelieved_102 (by decide) ?_
          exact ih_5 (x4 + 1) (x3 + ((10 - p2) * r_49)) H locs ls hm hP hD hS (lv_sub hl [0, 1, 4, 5, 6] rfl)
  unfold fm_X1_tenthsBelieved at hm
  refine q_gen hS hP ?_
  intro H locs hP hS
  refine lv_iconst (v := 0) hx hb dX1_tenthsBelieved_0 (by decide) ?_
  refine lv_istore_n (lv' := [(3, .int 0), (0, .ref AT), (1, .int p1), (2, .int p2)]) hx hb dX1_tenthsBelieved_1 rfl hl (by decide) rfl (fun ls hl => ?_)
  refine lv_iconst (v := 0) hx hb dX1_tenthsBelieved_2 (by decide) ?_
  refine lv_istore (lv' := [(4, .int 0), (3, .int 0), (0, .ref AT), (1, .int p1), (2, .int p2)]) hx hb dX1_tenthsBelieved_3 hl (by decide) rfl (fun ls hl => ?_)
  exact hL_5 FU 0 0 H locs ls hm hP hD hS (lv_sub hl [0, 1, 2, 3, 4] rfl)
theorem gf_X1_18 {p : Program} {l : Launch} {e : Env} {R : Room} {s : State} {m : MethodId} {args : Array Value} {below : List Frame} {meth : Method} {c : Code} {H : Heap} {locs : List Loc} {cells slots : Nat} {Q : State → Prop} {pc : Nat} {ls : Array Slot} {cc : ByteArray} {D : va_G} {cI cZ : ClassId} {ws : va_W} {a : Nat} {rest fs : List Value} (hx : p.tables.exec = Jvm.exec) (hb : c.code = cc) (hts : ∀ w ∈ bg, w.before args s = true) (hown : s.vm.findClass RX1 = some m.cls) (hK : va_K D vwCl (q_tys cI cZ) s) (hN : q_N s) (hP : va_P D vwCl ws H) (q0 : Nat) (he : ws[q0]? = some (a, .inr (1, fs))) {v : Value} (hv : fs[1]? = some v) (hdg : decode cc pc = .ok (.getfield 18, 3)) (kk : W p l e R s m args below meth c H locs cells slots Q (F0 m (pc + 3) ls (v :: rest))) : W p l e R s m args below meth c H locs cells slots Q (F0 m pc ls (.ref a :: rest)) :=
  va_get (C := RX1) (T := TX1) (N := 6) hx hb hts wu_X1 hown hK hP q0 he rfl 1 (by decide) (hts _ wf_X1_18) (fun _ h9 => h9) hv hdg kk
theorem mb_X1_doingBehindDecades : q_mb yX1_doingBehindDecades cX1_doingBehindDecades 8 (some .int) 2 := ⟨wc_X1_doingBehindDecades, wn_X1, by decide, by decide, by decide +kernel⟩
theorem mv_X1_doingBehindDecades : q_mv yX1_doingBehindDecades 1 := ⟨wi_X1_doingBehindDecades, ws_X1_doingBehindDecades, _, rfl, rfl⟩
def wd_X1_doingBehindDecades (cI cZ : ClassId) (AT AT_of AT_tr AT_ga AT_bb AT_fg AT_sg AT_tr_sl AT_tr_fl AT_tr_ro AT_tr_nt AT_tr_mk AT_tr_mo AT_of_sl AT_of_fl AT_of_ro AT_of_nt AT_of_mk AT_of_mo AT_tr_sl_c AT_of_sl_c AT_tr_fl_c AT_of_fl_c AT_tr_ro_c AT_of_ro_c AT_tr_nt_c AT_of_nt_c AT_tr_mk_c AT_of_mk_c AT_tr_mo_c AT_of_mo_c : Nat) (vT_tr_ng : Int32) (vT_of_ng : Int32) (vT_tr_sl_n : Int32) (vT_of_sl_n : Int32) (fT_of_sl_c : Nat → Int32) (fT_tr_sl_c : Nat → Int32) (vT_tr_fl_n : Int32) (vT_of_fl_n : Int32) (fT_of_fl_c : Nat → Int32) (fT_tr_fl_c : Nat → Int32) (vT_tr_ro_n : Int32) (vT_of_ro_n : Int32) (fT_of_ro_c : Nat → Int32) (fT_tr_ro_c : Nat → Int32) (vT_tr_nt_n : Int32) (vT_of_nt_n : Int32) (fT_of_nt_c : Nat → Int32) (fT_tr_nt_c : Nat → Int32) (vT_tr_mk_n : Int32) (vT_of_mk_n : Int32) (fT_of_mk_c : Nat → Int32) (fT_tr_mk_c : Nat → Int32) (vT_tr_mo_n : Int32) (vT_of_mo_n : Int32) (fT_of_mo_c : Nat → Int32) (fT_tr_mo_c : Nat → Int32) : va_W := [(AT, .inr (1, [.ref AT_of, .ref AT_tr, .ref AT_ga, .ref AT_bb, .ref AT_fg, .ref AT_sg])), (AT_tr, .inr (4, [.ref AT_tr_sl, .ref AT_tr_fl, .ref AT_tr_ro, .ref AT_tr_nt, .ref AT_tr_mk, .ref AT_tr_mo, .int vT_tr_ng])), (AT_of, .inr (4, [.ref AT_of_sl, .ref AT_of_fl, .ref AT_of_ro, .ref AT_of_nt, .ref AT_of_mk, .ref AT_of_mo, .int vT_of_ng])), (AT_tr_sl, .inr (3, [.int 4, .ref AT_tr_sl_c, .int vT_tr_sl_n])), (AT_of_sl, .inr (3, [.int 4, .ref AT_of_sl_c, .int vT_of_sl_n])), (AT_of_sl_c, .inl (cI, 24, .inl fT_of_sl_c)), (AT_tr_sl_c, .inl (cI, 24, .inl fT_tr_sl_c)), (AT_tr_fl, .inr (3, [.int 3, .ref AT_tr_fl_c, .int vT_tr_fl_n])), (AT_of_fl, .inr (3, [.int 3, .ref AT_of_fl_c, .int vT_of_fl_n])), (AT_of_fl_c, .inl (cI, 18, .inl fT_of_fl_c)), (AT_tr_fl_c, .inl (cI, 18, .inl fT_tr_fl_c)), (AT_tr_ro, .inr (3, [.int 3, .ref AT_tr_ro_c, .int vT_tr_ro_n])), (AT_of_ro, .inr (3, [.int 3, .ref AT_of_ro_c, .int vT_of_ro_n])), (AT_of_ro_c, .inl (cI, 15, .inl fT_of_ro_c)), (AT_tr_ro_c, .inl (cI, 15, .inl fT_tr_ro_c)), (AT_tr_nt, .inr (3, [.int 4, .ref AT_tr_nt_c, .int vT_tr_nt_n])), (AT_of_nt, .inr (3, [.int 4, .ref AT_of_nt_c, .int vT_of_nt_n])), (AT_of_nt_c, .inl (cI, 24, .inl fT_of_nt_c)), (AT_tr_nt_c, .inl (cI, 24, .inl fT_tr_nt_c)), (AT_tr_mk, .inr (3, [.int 4, .ref AT_tr_mk_c, .int vT_tr_mk_n])), (AT_of_mk, .inr (3, [.int 4, .ref AT_of_mk_c, .int vT_of_mk_n])), (AT_of_mk_c, .inl (cI, 24, .inl fT_of_mk_c)), (AT_tr_mk_c, .inl (cI, 24, .inl fT_tr_mk_c)), (AT_tr_mo, .inr (3, [.int 25, .ref AT_tr_mo_c, .int vT_tr_mo_n])), (AT_of_mo, .inr (3, [.int 25, .ref AT_of_mo_c, .int vT_of_mo_n])), (AT_of_mo_c, .inl (cI, 200, .inl fT_of_mo_c)), (AT_tr_mo_c, .inl (cI, 200, .inl fT_tr_mo_c))]
def fL_X1_doingBehindDecades_17 (p1 : Int32) (p2 : Int32) (vT_of_ng : Int32) (vT_of_sl_n : Int32) (fT_of_sl_c : Nat → Int32) (vT_of_fl_n : Int32) (fT_of_fl_c : Nat → Int32) (vT_of_ro_n : Int32) (fT_of_ro_c : Nat → Int32) (vT_of_nt_n : Int32) (fT_of_nt_c : Nat → Int32) (vT_of_mk_n : Int32) (fT_of_mk_c : Nat → Int32) (vT_of_mo_n : Int32) (fT_of_mo_c : Nat → Int32) : Nat → Int32 → Int64 → Int32 → Int32 → (Nat → Int32) → Int32 → (Nat → Int32) → Int32 → (Nat → Int32) → Int32 → (Nat → Int32) → Int32 → (Nat → Int32) → Int32 → (Nat → Int32) → Option (Int32 × Int32 × Int32 × (Nat → Int32) × Int32 × (Nat → Int32) × Int32 × (Nat → Int32) × Int32 × (Nat → Int32) × Int32 × (Nat → Int32) × Int32 × (Nat → Int32))
  | 0, _, _, _, _, _, _, _, _, _, _, _, _, _, _, _ => none
  | fu + 1, x5, x3, vT_tr_ng, vT_tr_sl_n, fT_tr_sl_c, vT_tr_fl_n, fT_tr_fl_c, vT_tr_ro_n, fT_tr_ro_c, vT_tr_nt_n, fT_tr_nt_c, vT_tr_mk_n, fT_tr_mk_c, vT_tr_mo_n, fT_tr_mo_c => if p2 ≤ x5 then (Option.bind (fm_X4_doing vT_tr_sl_n fT_tr_sl_c) (fun r_93 => some (r_93, vT_tr_ng, vT_tr_sl_n, fT_tr_sl_c, vT_tr_fl_n, fT_tr_fl_c, vT_tr_ro_n, fT_tr_ro_c, vT_tr_nt_n, fT_tr_nt_c, vT_tr_mk_n, fT_tr_mk_c, vT_tr_mo_n, fT_tr_mo_c))) else (Option.bind (fm_X3_write 3 18 (Int64.toInt32 (((((x3 * 1103515245) + 12345) - ((x3 * 1103515245) + 12345) / 2147483648 * 2147483648) / 65536) - ((((x3 * 1103515245) + 12345) - ((x3 * 1103515245) + 12345) / 2147483648 * 2147483648) / 65536) / 6 * 6)) 2 (Int64.toInt32 (((((x3 * 1103515245) + 12345) - ((x3 * 1103515245) + 12345) / 2147483648 * 2147483648) / 1048576) - ((((x3 * 1103515245) + 12345) - ((x3 * 1103515245) + 12345) / 2147483648 * 2147483648) / 1048576) / 6 * 6)) vT_tr_fl_n fT_tr_fl_c) (fun r_73 => Option.bind (fm_X4_passNight vT_tr_ng vT_tr_sl_n fT_tr_sl_c vT_tr_fl_n r_73) (fun r_80 => fL_X1_doingBehindDecades_17 p1 p2 vT_of_ng vT_of_sl_n fT_of_sl_c vT_of_fl_n fT_of_fl_c vT_of_ro_n fT_of_ro_c vT_of_nt_n fT_of_nt_c vT_of_mk_n fT_of_mk_c vT_of_mo_n fT_of_mo_c fu (x5 + 1) (((x3 * 1103515245) + 12345) - ((x3 * 1103515245) + 12345) / 2147483648 * 2147483648) r_80.1 vT_tr_sl_n r_80.2 vT_tr_fl_n r_73 vT_tr_ro_n fT_tr_ro_c vT_tr_nt_n fT_tr_nt_c vT_tr_mk_n fT_tr_mk_c vT_tr_mo_n fT_tr_mo_c)))
def fm_X1_doingBehindDecades (p1 : Int32) (p2 : Int32) (vT_tr_ng : Int32) (vT_of_ng : Int32) (vT_tr_sl_n : Int32) (vT_of_sl_n : Int32) (fT_of_sl_c : Nat → Int32) (fT_tr_sl_c : Nat → Int32) (vT_tr_fl_n : Int32) (vT_of_fl_n : Int32) (fT_of_fl_c : Nat → Int32) (fT_tr_fl_c : Nat → Int32) (vT_tr_ro_n : Int32) (vT_of_ro_n : Int32) (fT_of_ro_c : Nat → Int32) (fT_tr_ro_c : Nat → Int32) (vT_tr_nt_n : Int32) (vT_of_nt_n : Int32) (fT_of_nt_c : Nat → Int32) (fT_tr_nt_c : Nat → Int32) (vT_tr_mk_n : Int32) (vT_of_mk_n : Int32) (fT_of_mk_c : Nat → Int32) (fT_tr_mk_c : Nat → Int32) (vT_tr_mo_n : Int32) (vT_of_mo_n : Int32) (fT_of_mo_c : Nat → Int32) (fT_tr_mo_c : Nat → Int32) : Option (Int32 × Int32 × Int32 × (Nat → Int32) × Int32 × (Nat → Int32) × Int32 × (Nat → Int32) × Int32 × (Nat → Int32) × Int32 × (Nat → Int32) × Int32 × (Nat → Int32)) := Option.bind (fm_X4_takeFrom vT_tr_ng vT_of_ng vT_tr_sl_n vT_of_sl_n fT_of_sl_c fT_tr_sl_c vT_tr_fl_n vT_of_fl_n fT_of_fl_c fT_tr_fl_c vT_tr_ro_n vT_of_ro_n fT_of_ro_c fT_tr_ro_c vT_tr_nt_n vT_of_nt_n fT_of_nt_c fT_tr_nt_c vT_tr_mk_n vT_of_mk_n fT_of_mk_c fT_tr_mk_c vT_tr_mo_n vT_of_mo_n fT_of_mo_c fT_tr_mo_c) (fun r_8 => fL_X1_doingBehindDecades_17 p1 p2 vT_of_ng vT_of_sl_n fT_of_sl_c vT_of_fl_n fT_of_fl_c vT_of_ro_n fT_of_ro_c vT_of_nt_n fT_of_nt_c vT_of_mk_n fT_of_mk_c vT_of_mo_n fT_of_mo_c FU 0 (Int32.toInt64 p1) r_8.1 r_8.2.1 r_8.2.2.1 r_8.2.2.2.1 r_8.2.2.2.2.1 r_8.2.2.2.2.2.1 r_8.2.2.2.2.2.2.1 r_8.2.2.2.2.2.2.2.1 r_8.2.2.2.2.2.2.2.2.1 r_8.2.2.2.2.2.2.2.2.2.1 r_8.2.2.2.2.2.2.2.2.2.2.1 r_8.2.2.2.2.2.2.2.2.2.2.2.1 r_8.2.2.2.2.2.2.2.2.2.2.2.2)
set_option maxHeartbeats 4000000 in
set_option maxRecDepth 100000 in
theorem c_X1_doingBehindDecades (l : Launch) (D : va_G) (cI cZ : ClassId) (sz : Nat) (AT AT_of AT_tr AT_ga AT_bb AT_fg AT_sg AT_tr_sl AT_tr_fl AT_tr_ro AT_tr_nt AT_tr_mk AT_tr_mo AT_of_sl AT_of_fl AT_of_ro AT_of_nt AT_of_mk AT_of_mo AT_tr_sl_c AT_of_sl_c AT_tr_fl_c AT_of_fl_c AT_tr_ro_c AT_of_ro_c AT_tr_nt_c AT_of_nt_c AT_tr_mk_c AT_of_mk_c AT_tr_mo_c AT_of_mo_c : Nat) (vT_tr_ng : Int32) (vT_of_ng : Int32) (vT_tr_sl_n : Int32) (vT_of_sl_n : Int32) (fT_of_sl_c : Nat → Int32) (fT_tr_sl_c : Nat → Int32) (vT_tr_fl_n : Int32) (vT_of_fl_n : Int32) (fT_of_fl_c : Nat → Int32) (fT_tr_fl_c : Nat → Int32) (vT_tr_ro_n : Int32) (vT_of_ro_n : Int32) (fT_of_ro_c : Nat → Int32) (fT_tr_ro_c : Nat → Int32) (vT_tr_nt_n : Int32) (vT_of_nt_n : Int32) (fT_of_nt_c : Nat → Int32) (fT_tr_nt_c : Nat → Int32) (vT_tr_mk_n : Int32) (vT_of_mk_n : Int32) (fT_of_mk_c : Nat → Int32) (fT_tr_mk_c : Nat → Int32) (vT_tr_mo_n : Int32) (vT_of_mo_n : Int32) (fT_of_mo_c : Nat → Int32) (fT_tr_mo_c : Nat → Int32) (p1 : Int32) (p2 : Int32) (out : (Int32 × Int32 × Int32 × (Nat → Int32) × Int32 × (Nat → Int32) × Int32 × (Nat → Int32) × Int32 × (Nat → Int32) × Int32 × (Nat → Int32) × Int32 × (Nat → Int32))) (hm : fm_X1_doingBehindDecades p1 p2 vT_tr_ng vT_of_ng vT_tr_sl_n vT_of_sl_n fT_of_sl_c fT_tr_sl_c vT_tr_fl_n vT_of_fl_n fT_of_fl_c fT_tr_fl_c vT_tr_ro_n vT_of_ro_n fT_of_ro_c fT_tr_ro_c vT_tr_nt_n vT_of_nt_n fT_of_nt_c fT_tr_nt_c vT_tr_mk_n vT_of_mk_n fT_of_mk_c fT_tr_mk_c vT_tr_mo_n vT_of_mo_n fT_of_mo_c fT_tr_mo_c = some out) : Met l yX1_doingBehindDecades (Cond.code yX1_doingBehindDecades cX1_doingBehindDecades 8 (some .int) :: bg) { frames := 4, cells := 0, slots := 0, locals := 97 } (va_Pc [.ref AT, .int p1, .int p2] (q_pre D cI cZ sz (wd_X1_doingBehindDecades cI cZ AT AT_of AT_tr AT_ga AT_bb AT_fg AT_sg AT_tr_sl AT_tr_fl AT_tr_ro AT_tr_nt AT_tr_mk AT_tr_mo AT_of_sl AT_of_fl AT_of_ro AT_of_nt AT_of_mk AT_of_mo AT_tr_sl_c AT_of_sl_c AT_tr_fl_c AT_of_fl_c AT_tr_ro_c AT_of_ro_c AT_tr_nt_c AT_of_nt_c AT_tr_mk_c AT_of_mk_c AT_tr_mo_c AT_of_mo_c vT_tr_ng vT_of_ng vT_tr_sl_n vT_of_sl_n fT_of_sl_c fT_tr_sl_c vT_tr_fl_n vT_of_fl_n fT_of_fl_c fT_tr_fl_c vT_tr_ro_n vT_of_ro_n fT_of_ro_c fT_tr_ro_c vT_tr_nt_n vT_of_nt_n fT_of_nt_c fT_tr_nt_c vT_tr_mk_n vT_of_mk_n fT_of_mk_c fT_tr_mk_c vT_tr_mo_n vT_of_mo_n fT_of_mo_c fT_tr_mo_c))) (q_Qi D (wd_X1_doingBehindDecades cI cZ AT AT_of AT_tr AT_ga AT_bb AT_fg AT_sg AT_tr_sl AT_tr_fl AT_tr_ro AT_tr_nt AT_tr_mk AT_tr_mo AT_of_sl AT_of_fl AT_of_ro AT_of_nt AT_of_mk AT_of_mo AT_tr_sl_c AT_of_sl_c AT_tr_fl_c AT_of_fl_c AT_tr_ro_c AT_of_ro_c AT_tr_nt_c AT_of_nt_c AT_tr_mk_c AT_of_mk_c AT_tr_mo_c AT_of_mo_c out.2.1 vT_of_ng out.2.2.1 vT_of_sl_n fT_of_sl_c out.2.2.2.1 out.2.2.2.2.1 vT_of_fl_n fT_of_fl_c out.2.2.2.2.2.1 out.2.2.2.2.2.2.1 vT_of_ro_n fT_of_ro_c out.2.2.2.2.2.2.2.1 out.2.2.2.2.2.2.2.2.1 vT_of_nt_n fT_of_nt_c out.2.2.2.2.2.2.2.2.2.1 out.2.2.2.2.2.2.2.2.2.2.1 vT_of_mk_n fT_of_mk_c out.2.2.2.2.2.2.2.2.2.2.2.1 out.2.2.2.2.2.2.2.2.2.2.2.2.1 vT_of_mo_n fT_of_mo_c out.2.2.2.2.2.2.2.2.2.2.2.2.2) out.1 (va_A (wd_X1_doingBehindDecades cI cZ AT AT_of AT_tr AT_ga AT_bb AT_fg AT_sg AT_tr_sl AT_tr_fl AT_tr_ro AT_tr_nt AT_tr_mk AT_tr_mo AT_of_sl AT_of_fl AT_of_ro AT_of_nt AT_of_mk AT_of_mo AT_tr_sl_c AT_of_sl_c AT_tr_fl_c AT_of_fl_c AT_tr_ro_c AT_of_ro_c AT_tr_nt_c AT_of_nt_c AT_tr_mk_c AT_of_mk_c AT_tr_mo_c AT_of_mo_c vT_tr_ng vT_of_ng vT_tr_sl_n vT_of_sl_n fT_of_sl_c fT_tr_sl_c vT_tr_fl_n vT_of_fl_n fT_of_fl_c fT_tr_fl_c vT_tr_ro_n vT_of_ro_n fT_of_ro_c fT_tr_ro_c vT_tr_nt_n vT_of_nt_n fT_of_nt_c fT_tr_nt_c vT_tr_mk_n vT_of_mk_n fT_of_mk_c fT_tr_mk_c vT_tr_mo_n vT_of_mo_n fT_of_mo_c fT_tr_mo_c) sz)) 0 0 (va_A (wd_X1_doingBehindDecades cI cZ AT AT_of AT_tr AT_ga AT_bb AT_fg AT_sg AT_tr_sl AT_tr_fl AT_tr_ro AT_tr_nt AT_tr_mk AT_tr_mo AT_of_sl AT_of_fl AT_of_ro AT_of_nt AT_of_mk AT_of_mo AT_tr_sl_c AT_of_sl_c AT_tr_fl_c AT_of_fl_c AT_tr_ro_c AT_of_ro_c AT_tr_nt_c AT_of_nt_c AT_tr_mk_c AT_of_mk_c AT_tr_mo_c AT_of_mo_c vT_tr_ng vT_of_ng vT_tr_sl_n vT_of_sl_n fT_of_sl_c fT_tr_sl_c vT_tr_fl_n vT_of_fl_n fT_of_fl_c fT_tr_fl_c vT_tr_ro_n vT_of_ro_n fT_of_ro_c fT_tr_ro_c vT_tr_nt_n vT_of_nt_n fT_of_nt_c fT_tr_nt_c vT_tr_mk_n vT_of_mk_n fT_of_mk_c fT_tr_mk_c vT_tr_mo_n vT_of_mo_n fT_of_mo_c fT_tr_mo_c) sz) := by
  refine q_met (fun A => q_Qi D (wd_X1_doingBehindDecades cI cZ AT AT_of AT_tr AT_ga AT_bb AT_fg AT_sg AT_tr_sl AT_tr_fl AT_tr_ro AT_tr_nt AT_tr_mk AT_tr_mo AT_of_sl AT_of_fl AT_of_ro AT_of_nt AT_of_mk AT_of_mo AT_tr_sl_c AT_of_sl_c AT_tr_fl_c AT_of_fl_c AT_tr_ro_c AT_of_ro_c AT_tr_nt_c AT_of_nt_c AT_tr_mk_c AT_of_mk_c AT_tr_mo_c AT_of_mo_c out.2.1 vT_of_ng out.2.2.1 vT_of_sl_n fT_of_sl_c out.2.2.2.1 out.2.2.2.2.1 vT_of_fl_n fT_of_fl_c out.2.2.2.2.2.1 out.2.2.2.2.2.2.1 vT_of_ro_n fT_of_ro_c out.2.2.2.2.2.2.2.1 out.2.2.2.2.2.2.2.2.1 vT_of_nt_n fT_of_nt_c out.2.2.2.2.2.2.2.2.2.1 out.2.2.2.2.2.2.2.2.2.2.1 vT_of_mk_n fT_of_mk_c out.2.2.2.2.2.2.2.2.2.2.2.1 out.2.2.2.2.2.2.2.2.2.2.2.2.1 vT_of_mo_n fT_of_mo_c out.2.2.2.2.2.2.2.2.2.2.2.2.2) out.1 A) (by decide) (Nat.le_of_ble_eq_true rfl) ?_
  intro p e s m below meth c ls A hx hb hr hml hown hts hlocks _ hA hS hP hD hK hN hl
  have hown : s.vm.findClass RX1 = some m.cls := hown
  have hl : lv_has ls 8 [(0, .ref AT), (1, .int p1), (2, .int p2)] := hl
  have hL_17 : ∀ (fu_17 : Nat) (x5 : Int32) (x3 : Int64) (vT_tr_ng : Int32) (vT_tr_sl_n : Int32) (fT_tr_sl_c : Nat → Int32) (vT_tr_fl_n : Int32) (fT_tr_fl_c : Nat → Int32) (vT_tr_ro_n : Int32) (fT_tr_ro_c : Nat → Int32) (vT_tr_nt_n : Int32) (fT_tr_nt_c : Nat → Int32) (vT_tr_mk_n : Int32) (fT_tr_mk_c : Nat → Int32) (vT_tr_mo_n : Int32) (fT_tr_mo_c : Nat → Int32) (H : Heap) (locs : List Loc) (ls : Array Slot), fL_X1_doingBehindDecades_17 p1 p2 vT_of_ng vT_of_sl_n fT_of_sl_c vT_of_fl_n fT_of_fl_c vT_of_ro_n fT_of_ro_c vT_of_nt_n fT_of_nt_c vT_of_mk_n fT_of_mk_c vT_of_mo_n fT_of_mo_c fu_17 x5 x3 vT_tr_ng vT_tr_sl_n fT_tr_sl_c vT_tr_fl_n fT_tr_fl_c vT_tr_ro_n fT_tr_ro_c vT_tr_nt_n fT_tr_nt_c vT_tr_mk_n fT_tr_mk_c vT_tr_mo_n fT_tr_mo_c = some out → va_P D vwCl (wd_X1_doingBehindDecades cI cZ AT AT_of AT_tr AT_ga AT_bb AT_fg AT_sg AT_tr_sl AT_tr_fl AT_tr_ro AT_tr_nt AT_tr_mk AT_tr_mo AT_of_sl AT_of_fl AT_of_ro AT_of_nt AT_of_mk AT_of_mo AT_tr_sl_c AT_of_sl_c AT_tr_fl_c AT_of_fl_c AT_tr_ro_c AT_of_ro_c AT_tr_nt_c AT_of_nt_c AT_tr_mk_c AT_of_mk_c AT_tr_mo_c AT_of_mo_c vT_tr_ng vT_of_ng vT_tr_sl_n vT_of_sl_n fT_of_sl_c fT_tr_sl_c vT_tr_fl_n vT_of_fl_n fT_of_fl_c fT_tr_fl_c vT_tr_ro_n vT_of_ro_n fT_of_ro_c fT_tr_ro_c vT_tr_nt_n vT_of_nt_n fT_of_nt_c fT_tr_nt_c vT_tr_mk_n vT_of_mk_n fT_of_mk_c fT_tr_mk_c vT_tr_mo_n vT_of_mo_n fT_of_mo_c fT_tr_mo_c) H → va_D A (wd_X1_doingBehindDecades cI cZ AT AT_of AT_tr AT_ga AT_bb AT_fg AT_sg AT_tr_sl AT_tr_fl AT_tr_ro AT_tr_nt AT_tr_mk AT_tr_mo AT_of_sl AT_of_fl AT_of_ro AT_of_nt AT_of_mk AT_of_mo AT_tr_sl_c AT_of_sl_c AT_tr_fl_c AT_of_fl_c AT_tr_ro_c AT_of_ro_c AT_tr_nt_c AT_of_nt_c AT_tr_mk_c AT_of_mk_c AT_tr_mo_c AT_of_mo_c vT_tr_ng vT_of_ng vT_tr_sl_n vT_of_sl_n fT_of_sl_c fT_tr_sl_c vT_tr_fl_n vT_of_fl_n fT_of_fl_c fT_tr_fl_c vT_tr_ro_n vT_of_ro_n fT_of_ro_c fT_tr_ro_c vT_tr_nt_n vT_of_nt_n fT_of_nt_c fT_tr_nt_c vT_tr_mk_n vT_of_mk_n fT_of_mk_c fT_tr_mk_c vT_tr_mo_n vT_of_mo_n fT_of_mo_c fT_tr_mo_c) → va_S A s.heap H locs → lv_has ls 8 [(5, .int x5), (3, .long x3), (0, .ref AT), (2, .int p2)] → W p l e { frames := 4, cells := 0, slots := 0, locals := 97 } s m ([.ref AT, .int p1, .int p2] : List Value).toArray below meth c H locs 0 0 (MQ below (q_Qi D (wd_X1_doingBehindDecades cI cZ AT AT_of AT_tr AT_ga AT_bb AT_fg AT_sg AT_tr_sl AT_tr_fl AT_tr_ro AT_tr_nt AT_tr_mk AT_tr_mo AT_of_sl AT_of_fl AT_of_ro AT_of_nt AT_of_mk AT_of_mo AT_tr_sl_c AT_of_sl_c AT_tr_fl_c AT_of_fl_c AT_tr_ro_c AT_of_ro_c AT_tr_nt_c AT_of_nt_c AT_tr_mk_c AT_of_mk_c AT_tr_mo_c AT_of_mo_c out.2.1 vT_of_ng out.2.2.1 vT_of_sl_n fT_of_sl_c out.2.2.2.1 out.2.2.2.2.1 vT_of_fl_n fT_of_fl_c out.2.2.2.2.2.1 out.2.2.2.2.2.2.1 vT_of_ro_n fT_of_ro_c out.2.2.2.2.2.2.2.1 out.2.2.2.2.2.2.2.2.1 vT_of_nt_n fT_of_nt_c out.2.2.2.2.2.2.2.2.2.1 out.2.2.2.2.2.2.2.2.2.2.1 vT_of_mk_n fT_of_mk_c out.2.2.2.2.2.2.2.2.2.2.2.1 out.2.2.2.2.2.2.2.2.2.2.2.2.1 vT_of_mo_n fT_of_mo_c out.2.2.2.2.2.2.2.2.2.2.2.2.2) out.1 A) ([.ref AT, .int p1, .int p2] : List Value).toArray s 0 0 A) (F0 m 17 ls []) := by
    intro fu_17
    induction fu_17 with
    | zero => intro x5 x3 vT_tr_ng vT_tr_sl_n fT_tr_sl_c vT_tr_fl_n fT_tr_fl_c vT_tr_ro_n fT_tr_ro_c vT_tr_nt_n fT_tr_nt_c vT_tr_mk_n fT_tr_mk_c vT_tr_mo_n fT_tr_mo_c H locs ls hm hP hD hS hl; exact absurd (show (none : Option (Int32 × Int32 × Int32 × (Nat → Int32) × Int32 × (Nat → Int32) × Int32 × (Nat → Int32) × Int32 × (Nat → Int32) × Int32 × (Nat → Int32) × Int32 × (Nat → Int32))) = some out from hm) (fun h => nomatch h)
    | succ fu_17 ih_17 =>
      intro x5 x3 vT_tr_ng vT_tr_sl_n fT_tr_sl_c vT_tr_fl_n fT_tr_fl_c vT_tr_ro_n fT_tr_ro_c vT_tr_nt_n fT_tr_nt_c vT_tr_mk_n fT_tr_mk_c vT_tr_mo_n fT_tr_mo_c H locs ls hm hP hD hS hl
      rw [fL_X1_doingBehindDecades_17] at hm
      refine lv_iload hx hb dX1_doingBehindDecades_17 (lv_at hl 0 rfl) ?_
      refine lv_iload_n hx hb dX1_doingBehindDecades_19 rfl (lv_at hl 3 rfl) ?_
      refine lv_icmp_ge (tgt := 89) hx hb dX1_doingBehindDecades_20 (by decide) (fun c_20 => ?_) (fun c_20 => ?_)
      · have hm := it_s c_20 hm
        refine lv_aload_n hx hb dX1_doingBehindDecades_89 rfl (lv_at hl 2 rfl) ?_
        refine gf_X1_18 (v := .ref AT_tr) hx hb hts hown hK hN hP 0 rfl rfl dX1_doingBehindDecades_90 ?_
        obtain ⟨r_93, hc_93, hm⟩ := ob_s hm
        refine q_ci (q_rv (rest := []) ⟨hx, hb, hml, hown, hts⟩ hK hN hP hD (c_X4_doing l D cI cZ H.size AT_tr AT_tr_sl AT_tr_fl AT_tr_ro AT_tr_nt AT_tr_mk AT_tr_mo AT_tr_sl_c vT_tr_ng vT_tr_sl_n fT_tr_sl_c r_93 hc_93) mb_X4_doing mv_X4_doing wl_X1_155 [1, 3, 6] rfl rfl rfl (Nat.le_of_ble_eq_true rfl) (Nat.le_of_ble_eq_true rfl) rfl hl.1 rfl (Nat.le_of_ble_eq_true rfl) ⟨Nat.le_refl 0, Nat.le_refl 0⟩ dX1_doingBehindDecades_93) hP hD hS hA [1, 3, 6] rfl rfl (fun H locs hP hD hS => ?_)
        have hP : va_P D vwCl (wd_X1_doingBehindDecades cI cZ AT AT_of AT_tr AT_ga AT_bb AT_fg AT_sg AT_tr_sl AT_tr_fl AT_tr_ro AT_tr_nt AT_tr_mk AT_tr_mo AT_of_sl AT_of_fl AT_of_ro AT_of_nt AT_of_mk AT_of_mo AT_tr_sl_c AT_of_sl_c AT_tr_fl_c AT_of_fl_c AT_tr_ro_c AT_of_ro_c AT_tr_nt_c AT_of_nt_c AT_tr_mk_c AT_of_mk_c AT_tr_mo_c AT_of_mo_c vT_tr_ng vT_of_ng vT_tr_sl_n vT_of_sl_n fT_of_sl_c fT_tr_sl_c vT_tr_fl_n vT_of_fl_n fT_of_fl_c fT_tr_fl_c vT_tr_ro_n vT_of_ro_n fT_of_ro_c fT_tr_ro_c vT_tr_nt_n vT_of_nt_n fT_of_nt_c fT_tr_nt_c vT_tr_mk_n vT_of_mk_n fT_of_mk_c fT_tr_mk_c vT_tr_mo_n vT_of_mo_n fT_of_mo_c fT_tr_mo_c) H := hP
        have hD : va_D A (wd_X1_doingBehindDecades cI cZ AT AT_of AT_tr AT_ga AT_bb AT_fg AT_sg AT_tr_sl AT_tr_fl AT_tr_ro AT_tr_nt AT_tr_mk AT_tr_mo AT_of_sl AT_of_fl AT_of_ro AT_of_nt AT_of_mk AT_of_mo AT_tr_sl_c AT_of_sl_c AT_tr_fl_c AT_of_fl_c AT_tr_ro_c AT_of_ro_c AT_tr_nt_c AT_of_nt_c AT_tr_mk_c AT_of_mk_c AT_tr_mo_c AT_of_mo_c vT_tr_ng vT_of_ng vT_tr_sl_n vT_of_sl_n fT_of_sl_c fT_tr_sl_c vT_tr_fl_n vT_of_fl_n fT_of_fl_c fT_tr_fl_c vT_tr_ro_n vT_of_ro_n fT_of_ro_c fT_tr_ro_c vT_tr_nt_n vT_of_nt_n fT_of_nt_c fT_tr_nt_c vT_tr_mk_n vT_of_mk_n fT_of_mk_c fT_tr_mk_c vT_tr_mo_n vT_of_mo_n fT_of_mo_c fT_tr_mo_c) := hD
        have hm := Option.some.inj hm
        subst hm
        exact q_iret (v := r_93) hx hb hr hlocks hP hS dX1_doingBehindDecades_96
      · have hm := it_n c_20 hm
        refine lv_lload_n hx hb dX1_doingBehindDecades_23 rfl (lv_at hl 1 rfl) ?_
        refine lv_ldc2 (v := 1103515245) hx hb hown (hts _ wv_X1_136) dX1_doingBehindDecades_24 ?_
        refine lv_lmul hx hb dX1_doingBehindDecades_27 ?_
        refine lv_ldc2 (v := 12345) hx hb hown (hts _ wv_X1_138) dX1_doingBehindDecades_28 ?_
        refine lv_ladd hx hb dX1_doingBehindDecades_31 ?_
        refine lv_ldc2 (v := 2147483648) hx hb hown (hts _ wv_X1_140) dX1_doingBehindDecades_32 ?_
        refine lv_lrem hx hb dX1_doingBehindDecades_35 (by decide) ?_
        refine lv_lstore_n (lv' := [(3, .long (((x3 * 1103515245) + 12345) - ((x3 * 1103515245) + 12345) / 2147483648 * 2147483648)), (5, .int x5), (0, .ref AT), (2, .int p2)]) hx hb dX1_doingBehindDecades_36 rfl hl (by decide) rfl (fun ls hl => ?_)
        refine lv_lload_n hx hb dX1_doingBehindDecades_37 rfl (lv_at hl 0 rfl) ?_
        refine lv_ldc2 (v := 65536) hx hb hown (hts _ wv_X1_142) dX1_doingBehindDecades_38 ?_
        refine lv_ldiv hx hb dX1_doingBehindDecades_41 (by decide) ?_
        refine lv_ldc2 (v := 6) hx hb hown (hts _ wv_X1_144) dX1_doingBehindDecades_42 ?_
        refine lv_lrem hx hb dX1_doingBehindDecades_45 (by decide) ?_
        refine lv_l2i (v := (Int64.toInt32 (((((x3 * 1103515245) + 12345) - ((x3 * 1103515245) + 12345) / 2147483648 * 2147483648) / 65536) - ((((x3 * 1103515245) + 12345) - ((x3 * 1103515245) + 12345) / 2147483648 * 2147483648) / 65536) / 6 * 6))) hx hb dX1_doingBehindDecades_46 rfl ?_
        refine lv_istore (lv' := [(6, .int (Int64.toInt32 (((((x3 * 1103515245) + 12345) - ((x3 * 1103515245) + 12345) / 2147483648 * 2147483648) / 65536) - ((((x3 * 1103515245) + 12345) - ((x3 * 1103515245) + 12345) / 2147483648 * 2147483648) / 65536) / 6 * 6))), (3, .long (((x3 * 1103515245) + 12345) - ((x3 * 1103515245) + 12345) / 2147483648 * 2147483648)), (5, .int x5), (0, .ref AT), (2, .int p2)]) hx hb dX1_doingBehindDecades_47 hl (by decide) rfl (fun ls hl => ?_)
        refine lv_lload_n hx hb dX1_doingBehindDecades_49 rfl (lv_at hl 1 rfl) ?_
        refine lv_ldc2 (v := 1048576) hx hb hown (hts _ wv_X1_146) dX1_doingBehindDecades_50 ?_
        refine lv_ldiv hx hb dX1_doingBehindDecades_53 (by decide) ?_
        refine lv_ldc2 (v := 6) hx hb hown (hts _ wv_X1_144) dX1_doingBehindDecades_54 ?_
        refine lv_lrem hx hb dX1_doingBehindDecades_57 (by decide) ?_
        refine lv_l2i (v := (Int64.toInt32 (((((x3 * 1103515245) + 12345) - ((x3 * 1103515245) + 12345) / 2147483648 * 2147483648) / 1048576) - ((((x3 * 1103515245) + 12345) - ((x3 * 1103515245) + 12345) / 2147483648 * 2147483648) / 1048576) / 6 * 6))) hx hb dX1_doingBehindDecades_58 rfl ?_
        refine lv_istore (lv' := [(7, .int (Int64.toInt32 (((((x3 * 1103515245) + 12345) - ((x3 * 1103515245) + 12345) / 2147483648 * 2147483648) / 1048576) - ((((x3 * 1103515245) + 12345) - ((x3 * 1103515245) + 12345) / 2147483648 * 2147483648) / 1048576) / 6 * 6))), (6, .int (Int64.toInt32 (((((x3 * 1103515245) + 12345) - ((x3 * 1103515245) + 12345) / 2147483648 * 2147483648) / 65536) - ((((x3 * 1103515245) + 12345) - ((x3 * 1103515245) + 12345) / 2147483648 * 2147483648) / 65536) / 6 * 6))), (3, .long (((x3 * 1103515245) + 12345) - ((x3 * 1103515245) + 12345) / 2147483648 * 2147483648)), (5, .int x5), (0, .ref AT), (2, .int p2)]) hx hb dX1_doingBehindDecades_59 hl (by decide) rfl (fun ls hl => ?_)
        refine lv_aload_n hx hb dX1_doingBehindDecades_61 rfl (lv_at hl 4 rfl) ?_
        refine gf_X1_18 (v := .ref AT_tr) hx hb hts hown hK hN hP 0 rfl rfl dX1_doingBehindDecades_62 ?_
        refine gf_X1_61 (v := .ref AT_tr_fl) hx hb hts hown hK hN hP 1 rfl rfl dX1_doingBehindDecades_65 ?_
        refine lv_iload hx hb dX1_doingBehindDecades_68 (lv_at hl 1 rfl) ?_
        refine lv_iconst (v := 2) hx hb dX1_doingBehindDecades_70 (by decide) ?_
        refine lv_iload hx hb dX1_doingBehindDecades_71 (lv_at hl 0 rfl) ?_
        obtain ⟨r_73, hc_73, hm⟩ := ob_s hm
        refine q_cv (q_rv (rest := []) ⟨hx, hb, hml, hown, hts⟩ hK hN hP hD (c_X3_write l D cI cZ H.size AT_tr_fl AT_tr_fl_c 3 18 vT_tr_fl_n fT_tr_fl_c (Int64.toInt32 (((((x3 * 1103515245) + 12345) - ((x3 * 1103515245) + 12345) / 2147483648 * 2147483648) / 65536) - ((((x3 * 1103515245) + 12345) - ((x3 * 1103515245) + 12345) / 2147483648 * 2147483648) / 65536) / 6 * 6)) 2 (Int64.toInt32 (((((x3 * 1103515245) + 12345) - ((x3 * 1103515245) + 12345) / 2147483648 * 2147483648) / 1048576) - ((((x3 * 1103515245) + 12345) - ((x3 * 1103515245) + 12345) / 2147483648 * 2147483648) / 1048576) / 6 * 6)) r_73 hc_73) mb_X3_write mv_X3_write wl_X1_148 [7, 10] rfl rfl rfl (Nat.le_of_ble_eq_true rfl) (Nat.le_of_ble_eq_true rfl) rfl hl.1 rfl (Nat.le_of_ble_eq_true rfl) ⟨Nat.le_refl 0, Nat.le_refl 0⟩ dX1_doingBehindDecades_73) hP hD hS hA [7, 10] rfl rfl (fun H locs hP hD hS => ?_)
        have hP : va_P D vwCl (wd_X1_doingBehindDecades cI cZ AT AT_of AT_tr AT_ga AT_bb AT_fg AT_sg AT_tr_sl AT_tr_fl AT_tr_ro AT_tr_nt AT_tr_mk AT_tr_mo AT_of_sl AT_of_fl AT_of_ro AT_of_nt AT_of_mk AT_of_mo AT_tr_sl_c AT_of_sl_c AT_tr_fl_c AT_of_fl_c AT_tr_ro_c AT_of_ro_c AT_tr_nt_c AT_of_nt_c AT_tr_mk_c AT_of_mk_c AT_tr_mo_c AT_of_mo_c vT_tr_ng vT_of_ng vT_tr_sl_n vT_of_sl_n fT_of_sl_c fT_tr_sl_c vT_tr_fl_n vT_of_fl_n fT_of_fl_c r_73 vT_tr_ro_n vT_of_ro_n fT_of_ro_c fT_tr_ro_c vT_tr_nt_n vT_of_nt_n fT_of_nt_c fT_tr_nt_c vT_tr_mk_n vT_of_mk_n fT_of_mk_c fT_tr_mk_c vT_tr_mo_n vT_of_mo_n fT_of_mo_c fT_tr_mo_c) H := hP
        have hD : va_D A (wd_X1_doingBehindDecades cI cZ AT AT_of AT_tr AT_ga AT_bb AT_fg AT_sg AT_tr_sl AT_tr_fl AT_tr_ro AT_tr_nt AT_tr_mk AT_tr_mo AT_of_sl AT_of_fl AT_of_ro AT_of_nt AT_of_mk AT_of_mo AT_tr_sl_c AT_of_sl_c AT_tr_fl_c AT_of_fl_c AT_tr_ro_c AT_of_ro_c AT_tr_nt_c AT_of_nt_c AT_tr_mk_c AT_of_mk_c AT_tr_mo_c AT_of_mo_c vT_tr_ng vT_of_ng vT_tr_sl_n vT_of_sl_n fT_of_sl_c fT_tr_sl_c vT_tr_fl_n vT_of_fl_n fT_of_fl_c r_73 vT_tr_ro_n vT_of_ro_n fT_of_ro_c fT_tr_ro_c vT_tr_nt_n vT_of_nt_n fT_of_nt_c fT_tr_nt_c vT_tr_mk_n vT_of_mk_n fT_of_mk_c fT_tr_mk_c vT_tr_mo_n vT_of_mo_n fT_of_mo_c fT_tr_mo_c) := hD
        refine lv_aload_n hx hb dX1_doingBehindDecades_76 rfl (lv_at hl 4 rfl) ?_
        refine gf_X1_18 (v := .ref AT_tr) hx hb hts hown hK hN hP 0 rfl rfl dX1_doingBehindDecades_77 ?_
        obtain ⟨r_80, hc_80, hm⟩ := ob_s hm
        refine q_cv (q_rv (rest := []) ⟨hx, hb, hml, hown, hts⟩ hK hN hP hD (c_X4_passNight l D cI cZ H.size AT_tr AT_tr_sl AT_tr_fl AT_tr_ro AT_tr_nt AT_tr_mk AT_tr_mo AT_tr_sl_c AT_tr_fl_c vT_tr_ng vT_tr_sl_n fT_tr_sl_c vT_tr_fl_n r_73 r_80 hc_80) mb_X4_passNight mv_X4_passNight wl_X1_152 [1, 3, 6, 7, 10] rfl rfl rfl (Nat.le_of_ble_eq_true rfl) (Nat.le_of_ble_eq_true rfl) rfl hl.1 rfl (Nat.le_of_ble_eq_true rfl) ⟨Nat.le_refl 0, Nat.le_refl 0⟩ dX1_doingBehindDecades_80) hP hD hS hA [1, 3, 6, 7, 10] rfl rfl (fun H locs hP hD hS => ?_)
        have hP : va_P D vwCl (wd_X1_doingBehindDecades cI cZ AT AT_of AT_tr AT_ga AT_bb AT_fg AT_sg AT_tr_sl AT_tr_fl AT_tr_ro AT_tr_nt AT_tr_mk AT_tr_mo AT_of_sl AT_of_fl AT_of_ro AT_of_nt AT_of_mk AT_of_mo AT_tr_sl_c AT_of_sl_c AT_tr_fl_c AT_of_fl_c AT_tr_ro_c AT_of_ro_c AT_tr_nt_c AT_of_nt_c AT_tr_mk_c AT_of_mk_c AT_tr_mo_c AT_of_mo_c r_80.1 vT_of_ng vT_tr_sl_n vT_of_sl_n fT_of_sl_c r_80.2 vT_tr_fl_n vT_of_fl_n fT_of_fl_c r_73 vT_tr_ro_n vT_of_ro_n fT_of_ro_c fT_tr_ro_c vT_tr_nt_n vT_of_nt_n fT_of_nt_c fT_tr_nt_c vT_tr_mk_n vT_of_mk_n fT_of_mk_c fT_tr_mk_c vT_tr_mo_n vT_of_mo_n fT_of_mo_c fT_tr_mo_c) H := hP
        have hD : va_D A (wd_X1_doingBehindDecades cI cZ AT AT_of AT_tr AT_ga AT_bb AT_fg AT_sg AT_tr_sl AT_tr_fl AT_tr_ro AT_tr_nt AT_tr_mk AT_tr_mo AT_of_sl AT_of_fl AT_of_ro AT_of_nt AT_of_mk AT_of_mo AT_tr_sl_c AT_of_sl_c AT_tr_fl_c AT_of_fl_c AT_tr_ro_c AT_of_ro_c AT_tr_nt_c AT_of_nt_c AT_tr_mk_c AT_of_mk_c AT_tr_mo_c AT_of_mo_c r_80.1 vT_of_ng vT_tr_sl_n vT_of_sl_n fT_of_sl_c r_80.2 vT_tr_fl_n vT_of_fl_n fT_of_fl_c r_73 vT_tr_ro_n vT_of_ro_n fT_of_ro_c fT_tr_ro_c vT_tr_nt_n vT_of_nt_n fT_of_nt_c fT_tr_nt_c vT_tr_mk_n vT_of_mk_n fT_of_mk_c fT_tr_mk_c vT_tr_mo_n vT_of_mo_n fT_of_mo_c fT_tr_mo_c) := hD
        refine lv_iinc (v := (x5 + 1)) (lv' := [(5, .int (x5 + 1)), (7, .int (Int64.toInt32 (((((x3 * 1103515245) + 12345) - ((x3 * 1103515245) + 12345) / 2147483648 * 2147483648) / 1048576) - ((((x3 * 1103515245) + 12345) - ((x3 * 1103515245) + 12345) / 2147483648 * 2147483648) / 1048576) / 6 * 6))), (6, .int (Int64.toInt32 (((((x3 * 1103515245) + 12345) - ((x3 * 1103515245) + 12345) / 2147483648 * 2147483648) / 65536) - ((((x3 * 1103515245) + 12345) - ((x3 * 1103515245) + 12345) / 2147483648 * 2147483648) / 65536) / 6 * 6))), (3, .long (((x3 * 1103515245) + 12345) - ((x3 * 1103515245) + 12345) / 2147483648 * 2147483648)), (0, .ref AT), (2, .int p2)]) hx hb dX1_doingBehindDecades_83 hl (k := 3) rfl rfl (by decide) rfl (fun ls hl => ?_)
        refine lv_goto (tgt := 17) hx hb dX1_doingBehindDecades_86 (by decide) ?_
        exact ih_17 (x5 + 1) (((x3 * 1103515245) + 12345) - ((x3 * 1103515245) + 12345) / 2147483648 * 2147483648) r_80.1 vT_tr_sl_n r_80.2 vT_tr_fl_n r_73 vT_tr_ro_n fT_tr_ro_c vT_tr_nt_n fT_tr_nt_c vT_tr_mk_n fT_tr_mk_c vT_tr_mo_n fT_tr_mo_c H locs ls hm hP hD hS (lv_sub hl [0, 3, 4, 5] rfl)
  unfold fm_X1_doingBehindDecades at hm
  refine q_gen hS hP ?_
  intro H locs hP hS
  refine lv_aload_n hx hb dX1_doingBehindDecades_0 rfl (lv_at hl 0 rfl) ?_
  refine gf_X1_18 (v := .ref AT_tr) hx hb hts hown hK hN hP 0 rfl rfl dX1_doingBehindDecades_1 ?_
  refine lv_aload_n hx hb dX1_doingBehindDecades_4 rfl (lv_at hl 0 rfl) ?_
  refine gf_X1_9 (v := .ref AT_of) hx hb hts hown hK hN hP 0 rfl rfl dX1_doingBehindDecades_5 ?_
  obtain ⟨r_8, hc_8, hm⟩ := ob_s hm
  refine q_cv (q_rv (rest := []) ⟨hx, hb, hml, hown, hts⟩ hK hN hP hD (c_X4_takeFrom l D cI cZ H.size AT_tr AT_of AT_tr_sl AT_tr_fl AT_tr_ro AT_tr_nt AT_tr_mk AT_tr_mo AT_of_sl AT_of_fl AT_of_ro AT_of_nt AT_of_mk AT_of_mo AT_tr_sl_c AT_of_sl_c AT_tr_fl_c AT_of_fl_c AT_tr_ro_c AT_of_ro_c AT_tr_nt_c AT_of_nt_c AT_tr_mk_c AT_of_mk_c AT_tr_mo_c AT_of_mo_c vT_tr_ng vT_of_ng vT_tr_sl_n vT_of_sl_n fT_of_sl_c fT_tr_sl_c vT_tr_fl_n vT_of_fl_n fT_of_fl_c fT_tr_fl_c vT_tr_ro_n vT_of_ro_n fT_of_ro_c fT_tr_ro_c vT_tr_nt_n vT_of_nt_n fT_of_nt_c fT_tr_nt_c vT_tr_mk_n vT_of_mk_n fT_of_mk_c fT_tr_mk_c vT_tr_mo_n vT_of_mo_n fT_of_mo_c fT_tr_mo_c r_8 hc_8) mb_X4_takeFrom mv_X4_takeFrom wl_X1_132 [1, 2, 3, 4, 5, 6, 7, 8, 9, 10, 11, 12, 13, 14, 15, 16, 17, 18, 19, 20, 21, 22, 23, 24, 25, 26] rfl rfl rfl (Nat.le_of_ble_eq_true rfl) (Nat.le_of_ble_eq_true rfl) rfl hl.1 rfl (Nat.le_of_ble_eq_true rfl) ⟨Nat.le_refl 0, Nat.le_refl 0⟩ dX1_doingBehindDecades_8) hP hD hS hA [1, 2, 3, 4, 5, 6, 7, 8, 9, 10, 11, 12, 13, 14, 15, 16, 17, 18, 19, 20, 21, 22, 23, 24, 25, 26] rfl rfl (fun H locs hP hD hS => ?_)
  have hP : va_P D vwCl (wd_X1_doingBehindDecades cI cZ AT AT_of AT_tr AT_ga AT_bb AT_fg AT_sg AT_tr_sl AT_tr_fl AT_tr_ro AT_tr_nt AT_tr_mk AT_tr_mo AT_of_sl AT_of_fl AT_of_ro AT_of_nt AT_of_mk AT_of_mo AT_tr_sl_c AT_of_sl_c AT_tr_fl_c AT_of_fl_c AT_tr_ro_c AT_of_ro_c AT_tr_nt_c AT_of_nt_c AT_tr_mk_c AT_of_mk_c AT_tr_mo_c AT_of_mo_c r_8.1 vT_of_ng r_8.2.1 vT_of_sl_n fT_of_sl_c r_8.2.2.1 r_8.2.2.2.1 vT_of_fl_n fT_of_fl_c r_8.2.2.2.2.1 r_8.2.2.2.2.2.1 vT_of_ro_n fT_of_ro_c r_8.2.2.2.2.2.2.1 r_8.2.2.2.2.2.2.2.1 vT_of_nt_n fT_of_nt_c r_8.2.2.2.2.2.2.2.2.1 r_8.2.2.2.2.2.2.2.2.2.1 vT_of_mk_n fT_of_mk_c r_8.2.2.2.2.2.2.2.2.2.2.1 r_8.2.2.2.2.2.2.2.2.2.2.2.1 vT_of_mo_n fT_of_mo_c r_8.2.2.2.2.2.2.2.2.2.2.2.2) H := hP
  have hD : va_D A (wd_X1_doingBehindDecades cI cZ AT AT_of AT_tr AT_ga AT_bb AT_fg AT_sg AT_tr_sl AT_tr_fl AT_tr_ro AT_tr_nt AT_tr_mk AT_tr_mo AT_of_sl AT_of_fl AT_of_ro AT_of_nt AT_of_mk AT_of_mo AT_tr_sl_c AT_of_sl_c AT_tr_fl_c AT_of_fl_c AT_tr_ro_c AT_of_ro_c AT_tr_nt_c AT_of_nt_c AT_tr_mk_c AT_of_mk_c AT_tr_mo_c AT_of_mo_c r_8.1 vT_of_ng r_8.2.1 vT_of_sl_n fT_of_sl_c r_8.2.2.1 r_8.2.2.2.1 vT_of_fl_n fT_of_fl_c r_8.2.2.2.2.1 r_8.2.2.2.2.2.1 vT_of_ro_n fT_of_ro_c r_8.2.2.2.2.2.2.1 r_8.2.2.2.2.2.2.2.1 vT_of_nt_n fT_of_nt_c r_8.2.2.2.2.2.2.2.2.1 r_8.2.2.2.2.2.2.2.2.2.1 vT_of_mk_n fT_of_mk_c r_8.2.2.2.2.2.2.2.2.2.2.1 r_8.2.2.2.2.2.2.2.2.2.2.2.1 vT_of_mo_n fT_of_mo_c r_8.2.2.2.2.2.2.2.2.2.2.2.2) := hD
  refine lv_iload_n hx hb dX1_doingBehindDecades_11 rfl (lv_at hl 1 rfl) ?_
  refine lv_i2l (v := (Int32.toInt64 p1)) hx hb dX1_doingBehindDecades_12 rfl ?_
  refine lv_lstore_n (lv' := [(3, .long (Int32.toInt64 p1)), (0, .ref AT), (1, .int p1), (2, .int p2)]) hx hb dX1_doingBehindDecades_13 rfl hl (by decide) rfl (fun ls hl => ?_)
  refine lv_iconst (v := 0) hx hb dX1_doingBehindDecades_14 (by decide) ?_
  refine lv_istore (lv' := [(5, .int 0), (3, .long (Int32.toInt64 p1)), (0, .ref AT), (1, .int p1), (2, .int p2)]) hx hb dX1_doingBehindDecades_15 hl (by decide) rfl (fun ls hl => ?_)
  exact hL_17 FU 0 (Int32.toInt64 p1) r_8.1 r_8.2.1 r_8.2.2.1 r_8.2.2.2.1 r_8.2.2.2.2.1 r_8.2.2.2.2.2.1 r_8.2.2.2.2.2.2.1 r_8.2.2.2.2.2.2.2.1 r_8.2.2.2.2.2.2.2.2.1 r_8.2.2.2.2.2.2.2.2.2.1 r_8.2.2.2.2.2.2.2.2.2.2.1 r_8.2.2.2.2.2.2.2.2.2.2.2.1 r_8.2.2.2.2.2.2.2.2.2.2.2.2 H locs ls hm hP hD hS (lv_sub hl [0, 1, 2, 4] rfl)
