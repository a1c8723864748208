theorem gf_X5_20 {p : Program} {l : Launch} {e : Env} {R : Room} {s : State} {m : MethodId} {args : Array Value} {below : List Frame} {meth : Method} {c : Code} {H : Heap} {locs : List Loc} {cells slots : Nat} {Q : State → Prop} {pc : Nat} {ls : Array Slot} {cc : ByteArray} {D : va_G} {cI cZ : ClassId} {ws : va_W} {a : Nat} {rest fs : List Value} (hx : p.tables.exec = Jvm.exec) (hb : c.code = cc) (hts : ∀ w ∈ bg, w.before args s = true) (hown : s.vm.findClass RX5 = some m.cls) (hK : va_K D vwCl (q_tys cI cZ) s) (hN : q_N s) (hP : va_P D vwCl ws H) (q0 : Nat) (he : ws[q0]? = some (a, .inr (5, fs))) {v : Value} (hv : fs[1]? = some v) (hdg : decode cc pc = .ok (.getfield 20, 3)) (kk : W p l e R s m args below meth c H locs cells slots Q (F0 m (pc + 3) ls (v :: rest))) : W p l e R s m args below meth c H locs cells slots Q (F0 m pc ls (.ref a :: rest)) :=
  va_get (C := RX5) (T := TX5) (N := 7) hx hb hts wu_X5 hown hK hP q0 he rfl 1 (by decide) (hts _ wf_X5_20) (fun _ h9 => h9) hv hdg kk
theorem gf_X5_26 {p : Program} {l : Launch} {e : Env} {R : Room} {s : State} {m : MethodId} {args : Array Value} {below : List Frame} {meth : Method} {c : Code} {H : Heap} {locs : List Loc} {cells slots : Nat} {Q : State → Prop} {pc : Nat} {ls : Array Slot} {cc : ByteArray} {D : va_G} {cI cZ : ClassId} {ws : va_W} {a : Nat} {rest fs : List Value} (hx : p.tables.exec = Jvm.exec) (hb : c.code = cc) (hts : ∀ w ∈ bg, w.before args s = true) (hown : s.vm.findClass RX5 = some m.cls) (hK : va_K D vwCl (q_tys cI cZ) s) (hN : q_N s) (hP : va_P D vwCl ws H) (q0 : Nat) (he : ws[q0]? = some (a, .inr (5, fs))) {v : Value} (hv : fs[4]? = some v) (hdg : decode cc pc = .ok (.getfield 26, 3)) (kk : W p l e R s m args below meth c H locs cells slots Q (F0 m (pc + 3) ls (v :: rest))) : W p l e R s m args below meth c H locs cells slots Q (F0 m pc ls (.ref a :: rest)) :=
  va_get (C := RX5) (T := TX5) (N := 7) hx hb hts wu_X5 hown hK hP q0 he rfl 4 (by decide) (hts _ wf_X5_26) (fun _ h9 => h9) hv hdg kk
theorem mb_X5_fault : q_mb yX5_fault cX5_fault 1 (some .int) 0 := ⟨wc_X5_fault, wn_X5, by decide, by decide, by decide +kernel⟩
theorem mv_X5_fault : q_mv yX5_fault 5 := ⟨wi_X5_fault, ws_X5_fault, _, rfl, rfl⟩
def wd_X5_fault (cI cZ : ClassId) (AT AT_tx AT_tk AT_it AT_tk_c : Nat) (vT_pl : Int32) (vT_nw : Int32) (vT_ts : Int32) (vT_tf : Int32) (vT_tk_n : Int32) (fT_tk_c : Nat → Int32) : va_W := [(AT, .inr (5, [.ref AT_tx, .ref AT_tk, .ref AT_it, .int vT_pl, .int vT_nw, .int vT_ts, .int vT_tf])), (AT_tk, .inr (3, [.int 3, .ref AT_tk_c, .int vT_tk_n])), (AT_tk_c, .inl (cI, 453, .inl fT_tk_c))]
def fm_X5_fault (vT_nw : Int32) (vT_tk_n : Int32) (fT_tk_c : Nat → Int32) : Option (Int32) := Option.bind (fm_X3_cell 3 453 vT_nw 1 vT_tk_n fT_tk_c) (fun r_9 => some (r_9))
set_option maxHeartbeats 4000000 in
set_option maxRecDepth 100000 in
theorem c_X5_fault (l : Launch) (D : va_G) (cI cZ : ClassId) (sz : Nat) (AT AT_tx AT_tk AT_it AT_tk_c : Nat) (vT_pl : Int32) (vT_nw : Int32) (vT_ts : Int32) (vT_tf : Int32) (vT_tk_n : Int32) (fT_tk_c : Nat → Int32) (out : (Int32)) (hm : fm_X5_fault vT_nw vT_tk_n fT_tk_c = some out) : Met l yX5_fault (Cond.code yX5_fault cX5_fault 1 (some .int) :: bg) { frames := 1, cells := 0, slots := 0, locals := 24 } (va_Pc [.ref AT] (q_pre D cI cZ sz (wd_X5_fault cI cZ AT AT_tx AT_tk AT_it AT_tk_c vT_pl vT_nw vT_ts vT_tf vT_tk_n fT_tk_c))) (q_Qi D (wd_X5_fault cI cZ AT AT_tx AT_tk AT_it AT_tk_c vT_pl vT_nw vT_ts vT_tf vT_tk_n fT_tk_c) out (va_A (wd_X5_fault cI cZ AT AT_tx AT_tk AT_it AT_tk_c vT_pl vT_nw vT_ts vT_tf vT_tk_n fT_tk_c) sz)) 0 0 (va_A (wd_X5_fault cI cZ AT AT_tx AT_tk AT_it AT_tk_c vT_pl vT_nw vT_ts vT_tf vT_tk_n fT_tk_c) sz) := by
  refine q_met (fun A => q_Qi D (wd_X5_fault cI cZ AT AT_tx AT_tk AT_it AT_tk_c vT_pl vT_nw vT_ts vT_tf vT_tk_n fT_tk_c) out A) (by decide) (Nat.le_of_ble_eq_true rfl) ?_
  intro p e s m below meth c ls A hx hb hr hml hown hts hlocks _ hA hS hP hD hK hN hl
  have hown : s.vm.findClass RX5 = some m.cls := hown
  have hl : lv_has ls 1 [(0, .ref AT)] := hl
  unfold fm_X5_fault at hm
  refine q_gen hS hP ?_
  intro H locs hP hS
  refine lv_aload_n hx hb dX5_fault_0 rfl (lv_at hl 0 rfl) ?_
  refine gf_X5_20 (v := .ref AT_tk) hx hb hts hown hK hN hP 0 rfl rfl dX5_fault_1 ?_
  refine lv_aload_n hx hb dX5_fault_4 rfl (lv_at hl 0 rfl) ?_
  refine gf_X5_26 (v := .int vT_nw) hx hb hts hown hK hN hP 0 rfl rfl dX5_fault_5 ?_
  refine lv_iconst (v := 1) hx hb dX5_fault_8 (by decide) ?_
  obtain ⟨r_9, hc_9, hm⟩ := ob_s hm
  refine q_ci (q_rv (rest := []) ⟨hx, hb, hml, hown, hts⟩ hK hN hP hD (c_X3_cell l D cI cZ H.size AT_tk AT_tk_c 3 453 vT_tk_n fT_tk_c vT_nw 1 r_9 hc_9) mb_X3_cell mv_X3_cell wl_X5_30 [1, 2] rfl rfl rfl (Nat.le_of_ble_eq_true rfl) (Nat.le_of_ble_eq_true rfl) rfl hl.1 rfl (Nat.le_of_ble_eq_true rfl) ⟨Nat.le_refl 0, Nat.le_refl 0⟩ dX5_fault_9) hP hD hS hA [1, 2] rfl rfl (fun H locs hP hD hS => ?_)
  have hP : va_P D vwCl (wd_X5_fault cI cZ AT AT_tx AT_tk AT_it AT_tk_c vT_pl vT_nw vT_ts vT_tf vT_tk_n fT_tk_c) H := hP
  have hD : va_D A (wd_X5_fault cI cZ AT AT_tx AT_tk AT_it AT_tk_c vT_pl vT_nw vT_ts vT_tf vT_tk_n fT_tk_c) := hD
  have hm := Option.some.inj hm
  subst hm
  exact q_iret (v := r_9) hx hb hr hlocks hP hS dX5_fault_12
theorem mb_X5_token : q_mb yX5_token cX5_token 1 (some .int) 0 := ⟨wc_X5_token, wn_X5, by decide, by decide, by decide +kernel⟩
theorem mv_X5_token : q_mv yX5_token 5 := ⟨wi_X5_token, ws_X5_token, _, rfl, rfl⟩
def wd_X5_token (cI cZ : ClassId) (AT AT_tx AT_tk AT_it AT_tk_c : Nat) (vT_pl : Int32) (vT_nw : Int32) (vT_ts : Int32) (vT_tf : Int32) (vT_tk_n : Int32) (fT_tk_c : Nat → Int32) : va_W := [(AT, .inr (5, [.ref AT_tx, .ref AT_tk, .ref AT_it, .int vT_pl, .int vT_nw, .int vT_ts, .int vT_tf])), (AT_tk, .inr (3, [.int 3, .ref AT_tk_c, .int vT_tk_n])), (AT_tk_c, .inl (cI, 453, .inl fT_tk_c))]
def fm_X5_token (vT_nw : Int32) (vT_tk_n : Int32) (fT_tk_c : Nat → Int32) : Option (Int32) := Option.bind (fm_X3_cell 3 453 vT_nw 0 vT_tk_n fT_tk_c) (fun r_9 => some (r_9))
set_option maxHeartbeats 4000000 in
set_option maxRecDepth 100000 in
theorem c_X5_token (l : Launch) (D : va_G) (cI cZ : ClassId) (sz : Nat) (AT AT_tx AT_tk AT_it AT_tk_c : Nat) (vT_pl : Int32) (vT_nw : Int32) (vT_ts : Int32) (vT_tf : Int32) (vT_tk_n : Int32) (fT_tk_c : Nat → Int32) (out : (Int32)) (hm : fm_X5_token vT_nw vT_tk_n fT_tk_c = some out) : Met l yX5_token (Cond.code yX5_token cX5_token 1 (some .int) :: bg) { frames := 1, cells := 0, slots := 0, locals := 24 } (va_Pc [.ref AT] (q_pre D cI cZ sz (wd_X5_token cI cZ AT AT_tx AT_tk AT_it AT_tk_c vT_pl vT_nw vT_ts vT_tf vT_tk_n fT_tk_c))) (q_Qi D (wd_X5_token cI cZ AT AT_tx AT_tk AT_it AT_tk_c vT_pl vT_nw vT_ts vT_tf vT_tk_n fT_tk_c) out (va_A (wd_X5_token cI cZ AT AT_tx AT_tk AT_it AT_tk_c vT_pl vT_nw vT_ts vT_tf vT_tk_n fT_tk_c) sz)) 0 0 (va_A (wd_X5_token cI cZ AT AT_tx AT_tk AT_it AT_tk_c vT_pl vT_nw vT_ts vT_tf vT_tk_n fT_tk_c) sz) := by
  refine q_met (fun A => q_Qi D (wd_X5_token cI cZ AT AT_tx AT_tk AT_it AT_tk_c vT_pl vT_nw vT_ts vT_tf vT_tk_n fT_tk_c) out A) (by decide) (Nat.le_of_ble_eq_true rfl) ?_
  intro p e s m below meth c ls A hx hb hr hml hown hts hlocks _ hA hS hP hD hK hN hl
  have hown : s.vm.findClass RX5 = some m.cls := hown
  have hl : lv_has ls 1 [(0, .ref AT)] := hl
  unfold fm_X5_token at hm
  refine q_gen hS hP ?_
  intro H locs hP hS
  refine lv_aload_n hx hb dX5_token_0 rfl (lv_at hl 0 rfl) ?_
  refine gf_X5_20 (v := .ref AT_tk) hx hb hts hown hK hN hP 0 rfl rfl dX5_token_1 ?_
  refine lv_aload_n hx hb dX5_token_4 rfl (lv_at hl 0 rfl) ?_
  refine gf_X5_26 (v := .int vT_nw) hx hb hts hown hK hN hP 0 rfl rfl dX5_token_5 ?_
  refine lv_iconst (v := 0) hx hb dX5_token_8 (by decide) ?_
  obtain ⟨r_9, hc_9, hm⟩ := ob_s hm
  refine q_ci (q_rv (rest := []) ⟨hx, hb, hml, hown, hts⟩ hK hN hP hD (c_X3_cell l D cI cZ H.size AT_tk AT_tk_c 3 453 vT_tk_n fT_tk_c vT_nw 0 r_9 hc_9) mb_X3_cell mv_X3_cell wl_X5_30 [1, 2] rfl rfl rfl (Nat.le_of_ble_eq_true rfl) (Nat.le_of_ble_eq_true rfl) rfl hl.1 rfl (Nat.le_of_ble_eq_true rfl) ⟨Nat.le_refl 0, Nat.le_refl 0⟩ dX5_token_9) hP hD hS hA [1, 2] rfl rfl (fun H locs hP hD hS => ?_)
  have hP : va_P D vwCl (wd_X5_token cI cZ AT AT_tx AT_tk AT_it AT_tk_c vT_pl vT_nw vT_ts vT_tf vT_tk_n fT_tk_c) H := hP
  have hD : va_D A (wd_X5_token cI cZ AT AT_tx AT_tk AT_it AT_tk_c vT_pl vT_nw vT_ts vT_tf vT_tk_n fT_tk_c) := hD
  have hm := Option.some.inj hm
  subst hm
  exact q_iret (v := r_9) hx hb hr hlocks hP hS dX5_token_12
theorem pf_X5_26 {p : Program} {l : Launch} {e : Env} {R : Room} {s : State} {m : MethodId} {args : Array Value} {below : List Frame} {meth : Method} {c : Code} {H : Heap} {locs : List Loc} {cells slots : Nat} {Q : State → Prop} {pc : Nat} {ls : Array Slot} {cc : ByteArray} {D : va_G} {cI cZ : ClassId} {ws : va_W} {A : Nat → Prop} {a : Nat} {rest fs : List Value} {x : Int32} (hx : p.tables.exec = Jvm.exec) (hb : c.code = cc) (hts : ∀ w ∈ bg, w.before args s = true) (hown : s.vm.findClass RX5 = some m.cls) (hK : va_K D vwCl (q_tys cI cZ) s) (hN : q_N s) (hP : va_P D vwCl ws H) (hD : va_D A ws) (hS : va_S A s.heap H locs) (q0 : Nat) (he : ws[q0]? = some (a, .inr (5, fs))) (hdg : decode cc pc = .ok (.putfield 26, 3)) (kk : ∀ (H1 : Heap) (locs1 : List Loc), va_P D vwCl (ws.set q0 (a, .inr (5, fs.set 4 (.int x)))) H1 → va_D A (ws.set q0 (a, .inr (5, fs.set 4 (.int x)))) → va_S A s.heap H1 locs1 → W p l e R s m args below meth c H1 locs1 cells slots Q (F0 m (pc + 3) ls rest)) (hl : 4 < fs.length := by exact Nat.le_of_ble_eq_true rfl) : W p l e R s m args below meth c H locs cells slots Q (F0 m pc ls (.int x :: .ref a :: rest)) :=
  va_put (C := RX5) (T := TX5) (N := 7) (ty := .int) hx hb hts wu_X5 tyX5 tyX5_ok nmX5 hown hK hP hD hS q0 he rfl 4 (by decide) (hts _ wf_X5_26) (fun _ h9 => h9) rfl (by decide +kernel) rfl rfl hl hdg kk
theorem mb_X5_ends : q_mb yX5_ends cX5_ends 1 (some .boolean) 0 := ⟨wc_X5_ends, wn_X5, by decide, by decide, by decide +kernel⟩
theorem mv_X5_ends : q_mv yX5_ends 5 := ⟨wi_X5_ends, ws_X5_ends, _, rfl, rfl⟩
def wd_X5_ends (cI cZ : ClassId) (AT AT_tx AT_tk AT_it AT_tk_c : Nat) (vT_pl : Int32) (vT_nw : Int32) (vT_ts : Int32) (vT_tf : Int32) (vT_tk_n : Int32) (fT_tk_c : Nat → Int32) : va_W := [(AT, .inr (5, [.ref AT_tx, .ref AT_tk, .ref AT_it, .int vT_pl, .int vT_nw, .int vT_ts, .int vT_tf])), (AT_tk, .inr (3, [.int 3, .ref AT_tk_c, .int vT_tk_n])), (AT_tk_c, .inl (cI, 453, .inl fT_tk_c))]
def fm_X5_ends (vT_nw : Int32) (vT_tk_n : Int32) (fT_tk_c : Nat → Int32) : Option (Int32 × Int32) := Option.bind (fm_X5_token (vT_nw + 1) vT_tk_n fT_tk_c) (fun r_11 => if r_11 = 3 then (some (1, (vT_nw + 1))) else (some (0, (vT_nw + 1))))
set_option maxHeartbeats 4000000 in
set_option maxRecDepth 100000 in
theorem c_X5_ends (l : Launch) (D : va_G) (cI cZ : ClassId) (sz : Nat) (AT AT_tx AT_tk AT_it AT_tk_c : Nat) (vT_pl : Int32) (vT_nw : Int32) (vT_ts : Int32) (vT_tf : Int32) (vT_tk_n : Int32) (fT_tk_c : Nat → Int32) (out : (Int32 × Int32)) (hm : fm_X5_ends vT_nw vT_tk_n fT_tk_c = some out) : Met l yX5_ends (Cond.code yX5_ends cX5_ends 1 (some .boolean) :: bg) { frames := 2, cells := 0, slots := 0, locals := 44 } (va_Pc [.ref AT] (q_pre D cI cZ sz (wd_X5_ends cI cZ AT AT_tx AT_tk AT_it AT_tk_c vT_pl vT_nw vT_ts vT_tf vT_tk_n fT_tk_c))) (q_Qi D (wd_X5_ends cI cZ AT AT_tx AT_tk AT_it AT_tk_c vT_pl out.2 vT_ts vT_tf vT_tk_n fT_tk_c) out.1 (va_A (wd_X5_ends cI cZ AT AT_tx AT_tk AT_it AT_tk_c vT_pl vT_nw vT_ts vT_tf vT_tk_n fT_tk_c) sz)) 0 0 (va_A (wd_X5_ends cI cZ AT AT_tx AT_tk AT_it AT_tk_c vT_pl vT_nw vT_ts vT_tf vT_tk_n fT_tk_c) sz) := by
  refine q_met (fun A => q_Qi D (wd_X5_ends cI cZ AT AT_tx AT_tk AT_it AT_tk_c vT_pl out.2 vT_ts vT_tf vT_tk_n fT_tk_c) out.1 A) (by decide) (Nat.le_of_ble_eq_true rfl) ?_
  intro p e s m below meth c ls A hx hb hr hml hown hts hlocks _ hA hS hP hD hK hN hl
  have hown : s.vm.findClass RX5 = some m.cls := hown
  have hl : lv_has ls 1 [(0, .ref AT)] := hl
  unfold fm_X5_ends at hm
  refine q_gen hS hP ?_
  intro H locs hP hS
  refine lv_aload_n hx hb dX5_ends_0 rfl (lv_at hl 0 rfl) ?_
  refine lv_dup hx hb dX5_ends_1 rfl ?_
  refine gf_X5_26 (v := .int vT_nw) hx hb hts hown hK hN hP 0 rfl rfl dX5_ends_2 ?_
  refine lv_iconst (v := 1) hx hb dX5_ends_5 (by decide) ?_
  refine lv_iadd hx hb dX5_ends_6 ?_
  refine pf_X5_26 hx hb hts hown hK hN hP hD hS 0 rfl dX5_ends_7 (fun H locs hP hD hS => ?_)
  have hP : va_P D vwCl (wd_X5_ends cI cZ AT AT_tx AT_tk AT_it AT_tk_c vT_pl (vT_nw + 1) vT_ts vT_tf vT_tk_n fT_tk_c) H := hP
  have hD : va_D A (wd_X5_ends cI cZ AT AT_tx AT_tk AT_it AT_tk_c vT_pl (vT_nw + 1) vT_ts vT_tf vT_tk_n fT_tk_c) := hD
  refine lv_aload_n hx hb dX5_ends_10 rfl (lv_at hl 0 rfl) ?_
  obtain ⟨r_11, hc_11, hm⟩ := ob_s hm
  refine q_ci (q_rv (rest := []) ⟨hx, hb, hml, hown, hts⟩ hK hN hP hD (c_X5_token l D cI cZ H.size AT AT_tx AT_tk AT_it AT_tk_c vT_pl (vT_nw + 1) vT_ts vT_tf vT_tk_n fT_tk_c r_11 hc_11) mb_X5_token mv_X5_token wl_X5_46 [0, 1, 2] rfl rfl rfl (Nat.le_of_ble_eq_true rfl) (Nat.le_of_ble_eq_true rfl) rfl hl.1 rfl (Nat.le_of_ble_eq_true rfl) ⟨Nat.le_refl 0, Nat.le_refl 0⟩ dX5_ends_11) hP hD hS hA [0, 1, 2] rfl rfl (fun H locs hP hD hS => ?_)
  have hP : va_P D vwCl (wd_X5_ends cI cZ AT AT_tx AT_tk AT_it AT_tk_c vT_pl (vT_nw + 1) vT_ts vT_tf vT_tk_n fT_tk_c) H := hP
  have hD : va_D A (wd_X5_ends cI cZ AT AT_tx AT_tk AT_it AT_tk_c vT_pl (vT_nw + 1) vT_ts vT_tf vT_tk_n fT_tk_c) := hD
  refine lv_iconst (v := 3) hx hb dX5_ends_14 (by decide) ?_
  refine lv_icmp_ne (tgt := 22) hx hb dX5_ends_15 (by decide) (fun c_15 => ?_) (fun c_15 => ?_)
  · have hm := it_n c_15 hm
    refine lv_iconst (v := 0) hx hb dX5_ends_22 (by decide) ?_
    have hm := Option.some.inj hm
    subst hm
    exact q_zret (v := 0) hx hb hr hlocks rfl hP hS dX5_ends_23
  · have hm := it_s c_15 hm
    refine lv_iconst (v := 1) hx hb dX5_ends_18 (by decide) ?_
    refine lv_goto (tgt := 23) hx hb dX5_ends_19 (by decide) ?_
    have hm := Option.some.inj hm
    subst hm
    exact q_zret (v := 1) hx hb hr hlocks rfl hP hS dX5_ends_23
theorem mb_X5_numberBack : q_mb yX5_numberBack cX5_numberBack 2 (some .int) 1 := ⟨wc_X5_numberBack, wn_X5, by decide, by decide, by decide +kernel⟩
theorem mv_X5_numberBack : q_mv yX5_numberBack 5 := ⟨wi_X5_numberBack, ws_X5_numberBack, _, rfl, rfl⟩
def wd_X5_numberBack (cI cZ : ClassId) (AT AT_tx AT_tk AT_it AT_tk_c : Nat) (vT_pl : Int32) (vT_nw : Int32) (vT_ts : Int32) (vT_tf : Int32) (vT_tk_n : Int32) (fT_tk_c : Nat → Int32) : va_W := [(AT, .inr (5, [.ref AT_tx, .ref AT_tk, .ref AT_it, .int vT_pl, .int vT_nw, .int vT_ts, .int vT_tf])), (AT_tk, .inr (3, [.int 3, .ref AT_tk_c, .int vT_tk_n])), (AT_tk_c, .inl (cI, 453, .inl fT_tk_c))]
def fm_X5_numberBack (p1 : Int32) (vT_nw : Int32) (vT_tk_n : Int32) (fT_tk_c : Nat → Int32) : Option (Int32) := Option.bind (fm_X3_cell 3 453 (vT_nw - p1) 2 vT_tk_n fT_tk_c) (fun r_11 => some (r_11))
set_option maxHeartbeats 4000000 in
set_option maxRecDepth 100000 in
theorem c_X5_numberBack (l : Launch) (D : va_G) (cI cZ : ClassId) (sz : Nat) (AT AT_tx AT_tk AT_it AT_tk_c : Nat) (vT_pl : Int32) (vT_nw : Int32) (vT_ts : Int32) (vT_tf : Int32) (vT_tk_n : Int32) (fT_tk_c : Nat → Int32) (p1 : Int32) (out : (Int32)) (hm : fm_X5_numberBack p1 vT_nw vT_tk_n fT_tk_c = some out) : Met l yX5_numberBack (Cond.code yX5_numberBack cX5_numberBack 2 (some .int) :: bg) { frames := 1, cells := 0, slots := 0, locals := 24 } (va_Pc [.ref AT, .int p1] (q_pre D cI cZ sz (wd_X5_numberBack cI cZ AT AT_tx AT_tk AT_it AT_tk_c vT_pl vT_nw vT_ts vT_tf vT_tk_n fT_tk_c))) (q_Qi D (wd_X5_numberBack cI cZ AT AT_tx AT_tk AT_it AT_tk_c vT_pl vT_nw vT_ts vT_tf vT_tk_n fT_tk_c) out (va_A (wd_X5_numberBack cI cZ AT AT_tx AT_tk AT_it AT_tk_c vT_pl vT_nw vT_ts vT_tf vT_tk_n fT_tk_c) sz)) 0 0 (va_A (wd_X5_numberBack cI cZ AT AT_tx AT_tk AT_it AT_tk_c vT_pl vT_nw vT_ts vT_tf vT_tk_n fT_tk_c) sz) := by
  refine q_met (fun A => q_Qi D (wd_X5_numberBack cI cZ AT AT_tx AT_tk AT_it AT_tk_c vT_pl vT_nw vT_ts vT_tf vT_tk_n fT_tk_c) out A) (by decide) (Nat.le_of_ble_eq_true rfl) ?_
  intro p e s m below meth c ls A hx hb hr hml hown hts hlocks _ hA hS hP hD hK hN hl
  have hown : s.vm.findClass RX5 = some m.cls := hown
  have hl : lv_has ls 2 [(0, .ref AT), (1, .int p1)] := hl
  unfold fm_X5_numberBack at hm
  refine q_gen hS hP ?_
  intro H locs hP hS
  refine lv_aload_n hx hb dX5_numberBack_0 rfl (lv_at hl 0 rfl) ?_
  refine gf_X5_20 (v := .ref AT_tk) hx hb hts hown hK hN hP 0 rfl rfl dX5_numberBack_1 ?_
  refine lv_aload_n hx hb dX5_numberBack_4 rfl (lv_at hl 0 rfl) ?_
  refine gf_X5_26 (v := .int vT_nw) hx hb hts hown hK hN hP 0 rfl rfl dX5_numberBack_5 ?_
  refine lv_iload_n hx hb dX5_numberBack_8 rfl (lv_at hl 1 rfl) ?_
  refine lv_isub hx hb dX5_numberBack_9 ?_
  refine lv_iconst (v := 2) hx hb dX5_numberBack_10 (by decide) ?_
  obtain ⟨r_11, hc_11, hm⟩ := ob_s hm
  refine q_ci (q_rv (rest := []) ⟨hx, hb, hml, hown, hts⟩ hK hN hP hD (c_X3_cell l D cI cZ H.size AT_tk AT_tk_c 3 453 vT_tk_n fT_tk_c (vT_nw - p1) 2 r_11 hc_11) mb_X3_cell mv_X3_cell wl_X5_30 [1, 2] rfl rfl rfl (Nat.le_of_ble_eq_true rfl) (Nat.le_of_ble_eq_true rfl) rfl hl.1 rfl (Nat.le_of_ble_eq_true rfl) ⟨Nat.le_refl 0, Nat.le_refl 0⟩ dX5_numberBack_11) hP hD hS hA [1, 2] rfl rfl (fun H locs hP hD hS => ?_)
  have hP : va_P D vwCl (wd_X5_numberBack cI cZ AT AT_tx AT_tk AT_it AT_tk_c vT_pl vT_nw vT_ts vT_tf vT_tk_n fT_tk_c) H := hP
  have hD : va_D A (wd_X5_numberBack cI cZ AT AT_tx AT_tk AT_it AT_tk_c vT_pl vT_nw vT_ts vT_tf vT_tk_n fT_tk_c) := hD
  have hm := Option.some.inj hm
  subst hm
  exact q_iret (v := r_11) hx hb hr hlocks hP hS dX5_numberBack_14
theorem mb_X5_numbered : q_mb yX5_numbered cX5_numbered 3 (some .boolean) 2 := ⟨wc_X5_numbered, wn_X5, by decide, by decide, by decide +kernel⟩
theorem mv_X5_numbered : q_mv yX5_numbered 5 := ⟨wi_X5_numbered, ws_X5_numbered, _, rfl, rfl⟩
def wd_X5_numbered (cI cZ : ClassId) (AT AT_tx AT_tk AT_it AT_tk_c : Nat) (vT_pl : Int32) (vT_nw : Int32) (vT_ts : Int32) (vT_tf : Int32) (vT_tk_n : Int32) (fT_tk_c : Nat → Int32) : va_W := [(AT, .inr (5, [.ref AT_tx, .ref AT_tk, .ref AT_it, .int vT_pl, .int vT_nw, .int vT_ts, .int vT_tf])), (AT_tk, .inr (3, [.int 3, .ref AT_tk_c, .int vT_tk_n])), (AT_tk_c, .inl (cI, 453, .inl fT_tk_c))]
def fm_X5_numbered (p1 : Int32) (p2 : Int32) (vT_nw : Int32) (vT_tk_n : Int32) (fT_tk_c : Nat → Int32) : Option (Int32 × Int32) := Option.bind (fm_X5_token (vT_nw + 1) vT_tk_n fT_tk_c) (fun r_11 => if r_11 = 2 then (Option.bind (fm_X5_numberBack 0 (vT_nw + 1) vT_tk_n fT_tk_c) (fun r_20 => Option.bind (fm_X7_within r_20 p1 p2) (fun r_25 => if r_25 = 0 then (some (0, (vT_nw + 1))) else (some (1, (vT_nw + 1)))))) else (some (0, (vT_nw + 1))))
set_option maxHeartbeats 4000000 in
set_option maxRecDepth 100000 in
theorem c_X5_numbered (l : Launch) (D : va_G) (cI cZ : ClassId) (sz : Nat) (AT AT_tx AT_tk AT_it AT_tk_c : Nat) (vT_pl : Int32) (vT_nw : Int32) (vT_ts : Int32) (vT_tf : Int32) (vT_tk_n : Int32) (fT_tk_c : Nat → Int32) (p1 : Int32) (p2 : Int32) (out : (Int32 × Int32)) (hm : fm_X5_numbered p1 p2 vT_nw vT_tk_n fT_tk_c = some out) : Met l yX5_numbered (Cond.code yX5_numbered cX5_numbered 3 (some .boolean) :: bg) { frames := 2, cells := 0, slots := 0, locals := 45 } (va_Pc [.ref AT, .int p1, .int p2] (q_pre D cI cZ sz (wd_X5_numbered cI cZ AT AT_tx AT_tk AT_it AT_tk_c vT_pl vT_nw vT_ts vT_tf vT_tk_n fT_tk_c))) (q_Qi D (wd_X5_numbered cI cZ AT AT_tx AT_tk AT_it AT_tk_c vT_pl out.2 vT_ts vT_tf vT_tk_n fT_tk_c) out.1 (va_A (wd_X5_numbered cI cZ AT AT_tx AT_tk AT_it AT_tk_c vT_pl vT_nw vT_ts vT_tf vT_tk_n fT_tk_c) sz)) 0 0 (va_A (wd_X5_numbered cI cZ AT AT_tx AT_tk AT_it AT_tk_c vT_pl vT_nw vT_ts vT_tf vT_tk_n fT_tk_c) sz) := by
  refine q_met (fun A => q_Qi D (wd_X5_numbered cI cZ AT AT_tx AT_tk AT_it AT_tk_c vT_pl out.2 vT_ts vT_tf vT_tk_n fT_tk_c) out.1 A) (by decide) (Nat.le_of_ble_eq_true rfl) ?_
  intro p e s m below meth c ls A hx hb hr hml hown hts hlocks _ hA hS hP hD hK hN hl
  have hown : s.vm.findClass RX5 = some m.cls := hown
  have hl : lv_has ls 3 [(0, .ref AT), (1, .int p1), (2, .int p2)] := hl
  unfold fm_X5_numbered at hm
  refine q_gen hS hP ?_
  intro H locs hP hS
  refine lv_aload_n hx hb dX5_numbered_0 rfl (lv_at hl 0 rfl) ?_
  refine lv_dup hx hb dX5_numbered_1 rfl ?_
  refine gf_X5_26 (v := .int vT_nw) hx hb hts hown hK hN hP 0 rfl rfl dX5_numbered_2 ?_
  refine lv_iconst (v := 1) hx hb dX5_numbered_5 (by decide) ?_
  refine lv_iadd hx hb dX5_numbered_6 ?_
  refine pf_X5_26 hx hb hts hown hK hN hP hD hS 0 rfl dX5_numbered_7 (fun H locs hP hD hS => ?_)
  have hP : va_P D vwCl (wd_X5_numbered cI cZ AT AT_tx AT_tk AT_it AT_tk_c vT_pl (vT_nw + 1) vT_ts vT_tf vT_tk_n fT_tk_c) H := hP
  have hD : va_D A (wd_X5_numbered cI cZ AT AT_tx AT_tk AT_it AT_tk_c vT_pl (vT_nw + 1) vT_ts vT_tf vT_tk_n fT_tk_c) := hD
  refine lv_aload_n hx hb dX5_numbered_10 rfl (lv_at hl 0 rfl) ?_
  obtain ⟨r_11, hc_11, hm⟩ := ob_s hm
  refine q_ci (q_rv (rest := []) ⟨hx, hb, hml, hown, hts⟩ hK hN hP hD (c_X5_token l D cI cZ H.size AT AT_tx AT_tk AT_it AT_tk_c vT_pl (vT_nw + 1) vT_ts vT_tf vT_tk_n fT_tk_c r_11 hc_11) mb_X5_token mv_X5_token wl_X5_46 [0, 1, 2] rfl rfl rfl (Nat.le_of_ble_eq_true rfl) (Nat.le_of_ble_eq_true rfl) rfl hl.1 rfl (Nat.le_of_ble_eq_true rfl) ⟨Nat.le_refl 0, Nat.le_refl 0⟩ dX5_numbered_11) hP hD hS hA [0, 1, 2] rfl rfl (fun H locs hP hD hS => ?_)
  have hP : va_P D vwCl (wd_X5_numbered cI cZ AT AT_tx AT_tk AT_it AT_tk_c vT_pl (vT_nw + 1) vT_ts vT_tf vT_tk_n fT_tk_c) H := hP
  have hD : va_D A (wd_X5_numbered cI cZ AT AT_tx AT_tk AT_it AT_tk_c vT_pl (vT_nw + 1) vT_ts vT_tf vT_tk_n fT_tk_c) := hD
  refine lv_iconst (v := 2) hx hb dX5_numbered_14 (by decide) ?_
  refine lv_icmp_ne (tgt := 35) hx hb dX5_numbered_15 (by decide) (fun c_15 => ?_) (fun c_15 => ?_)
  · have hm := it_n c_15 hm
    refine lv_iconst (v := 0) hx hb dX5_numbered_35 (by decide) ?_
    have hm := Option.some.inj hm
    subst hm
    exact q_zret (v := 0) hx hb hr hlocks rfl hP hS dX5_numbered_36
  · have hm := it_s c_15 hm
    refine lv_aload_n hx hb dX5_numbered_18 rfl (lv_at hl 0 rfl) ?_
    refine lv_iconst (v := 0) hx hb dX5_numbered_19 (by decide) ?_
    obtain ⟨r_20, hc_20, hm⟩ := ob_s hm
    refine q_ci (q_rv (rest := []) ⟨hx, hb, hml, hown, hts⟩ hK hN hP hD (c_X5_numberBack l D cI cZ H.size AT AT_tx AT_tk AT_it AT_tk_c vT_pl (vT_nw + 1) vT_ts vT_tf vT_tk_n fT_tk_c 0 r_20 hc_20) mb_X5_numberBack mv_X5_numberBack wl_X5_95 [0, 1, 2] rfl rfl rfl (Nat.le_of_ble_eq_true rfl) (Nat.le_of_ble_eq_true rfl) rfl hl.1 rfl (Nat.le_of_ble_eq_true rfl) ⟨Nat.le_refl 0, Nat.le_refl 0⟩ dX5_numbered_20) hP hD hS hA [0, 1, 2] rfl rfl (fun H locs hP hD hS => ?_)
    have hP : va_P D vwCl (wd_X5_numbered cI cZ AT AT_tx AT_tk AT_it AT_tk_c vT_pl (vT_nw + 1) vT_ts vT_tf vT_tk_n fT_tk_c) H := hP
    have hD : va_D A (wd_X5_numbered cI cZ AT AT_tx AT_tk AT_it AT_tk_c vT_pl (vT_nw + 1) vT_ts vT_tf vT_tk_n fT_tk_c) := hD
    refine lv_iload_n hx hb dX5_numbered_23 rfl (lv_at hl 1 rfl) ?_
    refine lv_iload_n hx hb dX5_numbered_24 rfl (lv_at hl 2 rfl) ?_
    obtain ⟨r_25, hc_25, hm⟩ := ob_s hm
    refine q_ci (q_rn (rest := []) ⟨hx, hb, hml, hown, hts⟩ hK hN hP hD (c_X7_within l D cI cZ H.size r_20 p1 p2 r_25 hc_25) mb_X7_within wt_X7_within (nl_X5_103 hN) [] rfl rfl (Nat.le_of_ble_eq_true rfl) (Nat.le_of_ble_eq_true rfl) rfl hl.1 rfl (Nat.le_of_ble_eq_true rfl) ⟨Nat.le_refl 0, Nat.le_refl 0⟩ dX5_numbered_25) hP hD hS hA [] rfl rfl (fun H locs hP hD hS => ?_)
    have hP : va_P D vwCl (wd_X5_numbered cI cZ AT AT_tx AT_tk AT_it AT_tk_c vT_pl (vT_nw + 1) vT_ts vT_tf vT_tk_n fT_tk_c) H := hP
    have hD : va_D A (wd_X5_numbered cI cZ AT AT_tx AT_tk AT_it AT_tk_c vT_pl (vT_nw + 1) vT_ts vT_tf vT_tk_n fT_tk_c) := hD
    refine lv_if_eq (tgt := 35) hx hb dX5_numbered_28 (by decide) (fun c_28 => ?_) (fun c_28 => ?_)
    · have hm := it_s c_28 hm
      refine lv_iconst (v := 0) hx hb dX5_numbered_35 (by decide) ?_
      have hm := Option.some.inj hm
      subst hm
      exact q_zret (v := 0) hx hb hr hlocks rfl hP hS dX5_numbered_36
    · have hm := it_n c_28 hm
      refine lv_iconst (v := 1) hx hb dX5_numbered_31 (by decide) ?_
      refine lv_goto (tgt := 36) hx hb dX5_numbered_32 (by decide) ?_
      have hm := Option.some.inj hm
      subst hm
      exact q_zret (v := 1) hx hb hr hlocks rfl hP hS dX5_numbered_36
theorem gf_X5_23 {p : Program} {l : Launch} {e : Env} {R : Room} {s : State} {m : MethodId} {args : Array Value} {below : List Frame} {meth : Method} {c : Code} {H : Heap} {locs : List Loc} {cells slots : Nat} {Q : State → Prop} {pc : Nat} {ls : Array Slot} {cc : ByteArray} {D : va_G} {cI cZ : ClassId} {ws : va_W} {a : Nat} {rest fs : List Value} (hx : p.tables.exec = Jvm.exec) (hb : c.code = cc) (hts : ∀ w ∈ bg, w.before args s = true) (hown : s.vm.findClass RX5 = some m.cls) (hK : va_K D vwCl (q_tys cI cZ) s) (hN : q_N s) (hP : va_P D vwCl ws H) (q0 : Nat) (he : ws[q0]? = some (a, .inr (5, fs))) {v : Value} (hv : fs[2]? = some v) (hdg : decode cc pc = .ok (.getfield 23, 3)) (kk : W p l e R s m args below meth c H locs cells slots Q (F0 m (pc + 3) ls (v :: rest))) : W p l e R s m args below meth c H locs cells slots Q (F0 m pc ls (.ref a :: rest)) :=
  va_get (C := RX5) (T := TX5) (N := 7) hx hb hts wu_X5 hown hK hP q0 he rfl 2 (by decide) (hts _ wf_X5_23) (fun _ h9 => h9) hv hdg kk
theorem mb_X5_readFlower : q_mb yX5_readFlower cX5_readFlower 1 (some .boolean) 0 := ⟨wc_X5_readFlower, wn_X5, by decide, by decide, by decide +kernel⟩
theorem mv_X5_readFlower : q_mv yX5_readFlower 5 := ⟨wi_X5_readFlower, ws_X5_readFlower, _, rfl, rfl⟩
def wd_X5_readFlower (cI cZ : ClassId) (AT AT_tx AT_tk AT_it AT_tk_c AT_it_c : Nat) (vT_pl : Int32) (vT_nw : Int32) (vT_ts : Int32) (vT_tf : Int32) (vT_tk_n : Int32) (fT_tk_c : Nat → Int32) (vT_it_n : Int32) (fT_it_c : Nat → Int32) : va_W := [(AT, .inr (5, [.ref AT_tx, .ref AT_tk, .ref AT_it, .int vT_pl, .int vT_nw, .int vT_ts, .int vT_tf])), (AT_tk, .inr (3, [.int 3, .ref AT_tk_c, .int vT_tk_n])), (AT_tk_c, .inl (cI, 453, .inl fT_tk_c)), (AT_it, .inr (3, [.int 4, .ref AT_it_c, .int vT_it_n])), (AT_it_c, .inl (cI, 76, .inl fT_it_c))]
def fm_X5_readFlower (vT_nw : Int32) (vT_tk_n : Int32) (fT_tk_c : Nat → Int32) (vT_it_n : Int32) (fT_it_c : Nat → Int32) : Option (Int32 × Int32 × Int32 × (Nat → Int32)) := Option.bind (fm_X5_numbered 0 5 vT_nw vT_tk_n fT_tk_c) (fun r_3 => if r_3.1 = 0 then (some (0, r_3.2, vT_it_n, fT_it_c)) else (Option.bind (fm_X5_numbered 1 9 r_3.2 vT_tk_n fT_tk_c) (fun r_13 => if r_13.1 = 0 then (some (0, r_13.2, vT_it_n, fT_it_c)) else (Option.bind (fm_X5_numbered 0 5 r_13.2 vT_tk_n fT_tk_c) (fun r_22 => if r_22.1 = 0 then (some (0, r_22.2, vT_it_n, fT_it_c)) else (Option.bind (fm_X5_ends r_22.2 vT_tk_n fT_tk_c) (fun r_29 => if r_29.1 = 0 then (some (0, r_29.2, vT_it_n, fT_it_c)) else (Option.bind (fm_X5_numberBack 3 r_29.2 vT_tk_n fT_tk_c) (fun r_45 => Option.bind (fm_X5_numberBack 2 r_29.2 vT_tk_n fT_tk_c) (fun r_50 => Option.bind (fm_X5_numberBack 1 r_29.2 vT_tk_n fT_tk_c) (fun r_55 => Option.bind (fm_X3_add 4 76 6 r_45 r_50 r_55 vT_it_n fT_it_c) (fun r_58 => some (1, r_29.2, r_58.1, r_58.2)))))))))))))
set_option maxHeartbeats 4000000 in
set_option maxRecDepth 100000 in
theorem c_X5_readFlower (l : Launch) (D : va_G) (cI cZ : ClassId) (sz : Nat) (AT AT_tx AT_tk AT_it AT_tk_c AT_it_c : Nat) (vT_pl : Int32) (vT_nw : Int32) (vT_ts : Int32) (vT_tf : Int32) (vT_tk_n : Int32) (fT_tk_c : Nat → Int32) (vT_it_n : Int32) (fT_it_c : Nat → Int32) (out : (Int32 × Int32 × Int32 × (Nat → Int32))) (hm : fm_X5_readFlower vT_nw vT_tk_n fT_tk_c vT_it_n fT_it_c = some out) : Met l yX5_readFlower (Cond.code yX5_readFlower cX5_readFlower 1 (some .boolean) :: bg) { frames := 3, cells := 0, slots := 0, locals := 67 } (va_Pc [.ref AT] (q_pre D cI cZ sz (wd_X5_readFlower cI cZ AT AT_tx AT_tk AT_it AT_tk_c AT_it_c vT_pl vT_nw vT_ts vT_tf vT_tk_n fT_tk_c vT_it_n fT_it_c))) (q_Qi D (wd_X5_readFlower cI cZ AT AT_tx AT_tk AT_it AT_tk_c AT_it_c vT_pl out.2.1 vT_ts vT_tf vT_tk_n fT_tk_c out.2.2.1 out.2.2.2) out.1 (va_A (wd_X5_readFlower cI cZ AT AT_tx AT_tk AT_it AT_tk_c AT_it_c vT_pl vT_nw vT_ts vT_tf vT_tk_n fT_tk_c vT_it_n fT_it_c) sz)) 0 0 (va_A (wd_X5_readFlower cI cZ AT AT_tx AT_tk AT_it AT_tk_c AT_it_c vT_pl vT_nw vT_ts vT_tf vT_tk_n fT_tk_c vT_it_n fT_it_c) sz) := by
  refine q_met (fun A => q_Qi D (wd_X5_readFlower cI cZ AT AT_tx AT_tk AT_it AT_tk_c AT_it_c vT_pl out.2.1 vT_ts vT_tf vT_tk_n fT_tk_c out.2.2.1 out.2.2.2) out.1 A) (by decide) (Nat.le_of_ble_eq_true rfl) ?_
  intro p e s m below meth c ls A hx hb hr hml hown hts hlocks _ hA hS hP hD hK hN hl
  have hown : s.vm.findClass RX5 = some m.cls := hown
  have hl : lv_has ls 1 [(0, .ref AT)] := hl
  unfold fm_X5_readFlower at hm
  refine q_gen hS hP ?_
  intro H locs hP hS
  refine lv_aload_n hx hb dX5_readFlower_0 rfl (lv_at hl 0 rfl) ?_
  refine lv_iconst (v := 0) hx hb dX5_readFlower_1 (by decide) ?_
  refine lv_iconst (v := 5) hx hb dX5_readFlower_2 (by decide) ?_
  obtain ⟨r_3, hc_3, hm⟩ := ob_s hm
  refine q_ci (q_rv (rest := []) ⟨hx, hb, hml, hown, hts⟩ hK hN hP hD (c_X5_numbered l D cI cZ H.size AT AT_tx AT_tk AT_it AT_tk_c vT_pl vT_nw vT_ts vT_tf vT_tk_n fT_tk_c 0 5 r_3 hc_3) mb_X5_numbered mv_X5_numbered wl_X5_91 [0, 1, 2] rfl rfl rfl (Nat.le_of_ble_eq_true rfl) (Nat.le_of_ble_eq_true rfl) rfl hl.1 rfl (Nat.le_of_ble_eq_true rfl) ⟨Nat.le_refl 0, Nat.le_refl 0⟩ dX5_readFlower_3) hP hD hS hA [0, 1, 2] rfl rfl (fun H locs hP hD hS => ?_)
  have hP : va_P D vwCl (wd_X5_readFlower cI cZ AT AT_tx AT_tk AT_it AT_tk_c AT_it_c vT_pl r_3.2 vT_ts vT_tf vT_tk_n fT_tk_c vT_it_n fT_it_c) H := hP
  have hD : va_D A (wd_X5_readFlower cI cZ AT AT_tx AT_tk AT_it AT_tk_c AT_it_c vT_pl r_3.2 vT_ts vT_tf vT_tk_n fT_tk_c vT_it_n fT_it_c) := hD
  refine lv_if_eq (tgt := 35) hx hb dX5_readFlower_6 (by decide) (fun c_6 => ?_) (fun c_6 => ?_)
  · have hm := it_s c_6 hm
    refine lv_iconst (v := 0) hx hb dX5_readFlower_35 (by decide) ?_
    have hm := Option.some.inj hm
    subst hm
    exact q_zret (v := 0) hx hb hr hlocks rfl hP hS dX5_readFlower_36
  · have hm := it_n c_6 hm
    refine lv_aload_n hx hb dX5_readFlower_9 rfl (lv_at hl 0 rfl) ?_
    refine lv_iconst (v := 1) hx hb dX5_readFlower_10 (by decide) ?_
    refine lv_bipush (v := 9) hx hb dX5_readFlower_11 (by decide) ?_
    obtain ⟨r_13, hc_13, hm⟩ := ob_s hm
    refine q_ci (q_rv (rest := []) ⟨hx, hb, hml, hown, hts⟩ hK hN hP hD (c_X5_numbered l D cI cZ H.size AT AT_tx AT_tk AT_it AT_tk_c vT_pl r_3.2 vT_ts vT_tf vT_tk_n fT_tk_c 1 9 r_13 hc_13) mb_X5_numbered mv_X5_numbered wl_X5_91 [0, 1, 2] rfl rfl rfl (Nat.le_of_ble_eq_true rfl) (Nat.le_of_ble_eq_true rfl) rfl hl.1 rfl (Nat.le_of_ble_eq_true rfl) ⟨Nat.le_refl 0, Nat.le_refl 0⟩ dX5_readFlower_13) hP hD hS hA [0, 1, 2] rfl rfl (fun H locs hP hD hS => ?_)
    have hP : va_P D vwCl (wd_X5_readFlower cI cZ AT AT_tx AT_tk AT_it AT_tk_c AT_it_c vT_pl r_13.2 vT_ts vT_tf vT_tk_n fT_tk_c vT_it_n fT_it_c) H := hP
    have hD : va_D A (wd_X5_readFlower cI cZ AT AT_tx AT_tk AT_it AT_tk_c AT_it_c vT_pl r_13.2 vT_ts vT_tf vT_tk_n fT_tk_c vT_it_n fT_it_c) := hD
    refine lv_if_eq (tgt := 35) hx hb dX5_readFlower_16 (by decide) (fun c_16 => ?_) (fun c_16 => ?_)
    · have hm := it_s c_16 hm
      refine lv_iconst (v := 0) hx hb dX5_readFlower_35 (by decide) ?_
      have hm := Option.some.inj hm
      subst hm
      exact q_zret (v := 0) hx hb hr hlocks rfl hP hS dX5_readFlower_36
    · have hm := it_n c_16 hm
      refine lv_aload_n hx hb dX5_readFlower_19 rfl (lv_at hl 0 rfl) ?_
      refine lv_iconst (v := 0) hx hb dX5_readFlower_20 (by decide) ?_
      refine lv_iconst (v := 5) hx hb dX5_readFlower_21 (by decide) ?_
      obtain ⟨r_22, hc_22, hm⟩ := ob_s hm
      refine q_ci (q_rv (rest := []) ⟨hx, hb, hml, hown, hts⟩ hK hN hP hD (c_X5_numbered l D cI cZ H.size AT AT_tx AT_tk AT_it AT_tk_c vT_pl r_13.2 vT_ts vT_tf vT_tk_n fT_tk_c 0 5 r_22 hc_22) mb_X5_numbered mv_X5_numbered wl_X5_91 [0, 1, 2] rfl rfl rfl (Nat.le_of_ble_eq_true rfl) (Nat.le_of_ble_eq_true rfl) rfl hl.1 rfl (Nat.le_of_ble_eq_true rfl) ⟨Nat.le_refl 0, Nat.le_refl 0⟩ dX5_readFlower_22) hP hD hS hA [0, 1, 2] rfl rfl (fun H locs hP hD hS => ?_)
      have hP : va_P D vwCl (wd_X5_readFlower cI cZ AT AT_tx AT_tk AT_it AT_tk_c AT_it_c vT_pl r_22.2 vT_ts vT_tf vT_tk_n fT_tk_c vT_it_n fT_it_c) H := hP
      have hD : va_D A (wd_X5_readFlower cI cZ AT AT_tx AT_tk AT_it AT_tk_c AT_it_c vT_pl r_22.2 vT_ts vT_tf vT_tk_n fT_tk_c vT_it_n fT_it_c) := hD
      refine lv_if_eq (tgt := 35) hx hb dX5_readFlower_25 (by decide) (fun c_25 => ?_) (fun c_25 => ?_)
      · have hm := it_s c_25 hm
        refine lv_iconst (v := 0) hx hb dX5_readFlower_35 (by decide) ?_
        have hm := Option.some.inj hm
        subst hm
        exact q_zret (v := 0) hx hb hr hlocks rfl hP hS dX5_readFlower_36
      · have hm := it_n c_25 hm
        refine lv_aload_n hx hb dX5_readFlower_28 rfl (lv_at hl 0 rfl) ?_
        obtain ⟨r_29, hc_29, hm⟩ := ob_s hm
        refine q_ci (q_rv (rest := []) ⟨hx, hb, hml, hown, hts⟩ hK hN hP hD (c_X5_ends l D cI cZ H.size AT AT_tx AT_tk AT_it AT_tk_c vT_pl r_22.2 vT_ts vT_tf vT_tk_n fT_tk_c r_29 hc_29) mb_X5_ends mv_X5_ends wl_X5_50 [0, 1, 2] rfl rfl rfl (Nat.le_of_ble_eq_true rfl) (Nat.le_of_ble_eq_true rfl) rfl hl.1 rfl (Nat.le_of_ble_eq_true rfl) ⟨Nat.le_refl 0, Nat.le_refl 0⟩ dX5_readFlower_29) hP hD hS hA [0, 1, 2] rfl rfl (fun H locs hP hD hS => ?_)
        have hP : va_P D vwCl (wd_X5_readFlower cI cZ AT AT_tx AT_tk AT_it AT_tk_c AT_it_c vT_pl r_29.2 vT_ts vT_tf vT_tk_n fT_tk_c vT_it_n fT_it_c) H := hP
        have hD : va_D A (wd_X5_readFlower cI cZ AT AT_tx AT_tk AT_it AT_tk_c AT_it_c vT_pl r_29.2 vT_ts vT_tf vT_tk_n fT_tk_c vT_it_n fT_it_c) := hD
        refine lv_if_ne (tgt := 37) hx hb dX5_readFlower_32 (by decide) (fun c_32 => ?_) (fun c_32 => ?_)
        · have hm := it_n c_32 hm
          refine lv_aload_n hx hb dX5_readFlower_37 rfl (lv_at hl 0 rfl) ?_
          refine gf_X5_23 (v := .ref AT_it) hx hb hts hown hK hN hP 0 rfl rfl dX5_readFlower_38 ?_
          refine lv_bipush (v := 6) hx hb dX5_readFlower_41 (by decide) ?_
          refine lv_aload_n hx hb dX5_readFlower_43 rfl (lv_at hl 0 rfl) ?_
          refine lv_iconst (v := 3) hx hb dX5_readFlower_44 (by decide) ?_
          obtain ⟨r_45, hc_45, hm⟩ := ob_s hm
          refine q_ci (q_rv (rest := [.int 6, .ref AT_it]) ⟨hx, hb, hml, hown, hts⟩ hK hN hP hD (c_X5_numberBack l D cI cZ H.size AT AT_tx AT_tk AT_it AT_tk_c vT_pl r_29.2 vT_ts vT_tf vT_tk_n fT_tk_c 3 r_45 hc_45) mb_X5_numberBack mv_X5_numberBack wl_X5_95 [0, 1, 2] rfl rfl rfl (Nat.le_of_ble_eq_true rfl) (Nat.le_of_ble_eq_true rfl) rfl hl.1 rfl (Nat.le_of_ble_eq_true rfl) ⟨Nat.le_refl 0, Nat.le_refl 0⟩ dX5_readFlower_45) hP hD hS hA [0, 1, 2] rfl rfl (fun H locs hP hD hS => ?_)
          have hP : va_P D vwCl (wd_X5_readFlower cI cZ AT AT_tx AT_tk AT_it AT_tk_c AT_it_c vT_pl r_29.2 vT_ts vT_tf vT_tk_n fT_tk_c vT_it_n fT_it_c) H := hP
          have hD : va_D A (wd_X5_readFlower cI cZ AT AT_tx AT_tk AT_it AT_tk_c AT_it_c vT_pl r_29.2 vT_ts vT_tf vT_tk_n fT_tk_c vT_it_n fT_it_c) := hD
          refine lv_aload_n hx hb dX5_readFlower_48 rfl (lv_at hl 0 rfl) ?_
          refine lv_iconst (v := 2) hx hb dX5_readFlower_49 (by decide) ?_
          obtain ⟨r_50, hc_50, hm⟩ := ob_s hm
          refine q_ci (q_rv (rest := [.int r_45, .int 6, .ref AT_it]) ⟨hx, hb, hml, hown, hts⟩ hK hN hP hD (c_X5_numberBack l D cI cZ H.size AT AT_tx AT_tk AT_it AT_tk_c vT_pl r_29.2 vT_ts vT_tf vT_tk_n fT_tk_c 2 r_50 hc_50) mb_X5_numberBack mv_X5_numberBack wl_X5_95 [0, 1, 2] rfl rfl rfl (Nat.le_of_ble_eq_true rfl) (Nat.le_of_ble_eq_true rfl) rfl hl.1 rfl (Nat.le_of_ble_eq_true rfl) ⟨Nat.le_refl 0, Nat.le_refl 0⟩ dX5_readFlower_50) hP hD hS hA [0, 1, 2] rfl rfl (fun H locs hP hD hS => ?_)
          have hP : va_P D vwCl (wd_X5_readFlower cI cZ AT AT_tx AT_tk AT_it AT_tk_c AT_it_c vT_pl r_29.2 vT_ts vT_tf vT_tk_n fT_tk_c vT_it_n fT_it_c) H := hP
          have hD : va_D A (wd_X5_readFlower cI cZ AT AT_tx AT_tk AT_it AT_tk_c AT_it_c vT_pl r_29.2 vT_ts vT_tf vT_tk_n fT_tk_c vT_it_n fT_it_c) := hD
          refine lv_aload_n hx hb dX5_readFlower_53 rfl (lv_at hl 0 rfl) ?_
          refine lv_iconst (v := 1) hx hb dX5_readFlower_54 (by decide) ?_
          obtain ⟨r_55, hc_55, hm⟩ := ob_s hm
          refine q_ci (q_rv (rest := [.int r_50, .int r_45, .int 6, .ref AT_it]) ⟨hx, hb, hml, hown, hts⟩ hK hN hP hD (c_X5_numberBack l D cI cZ H.size AT AT_tx AT_tk AT_it AT_tk_c vT_pl r_29.2 vT_ts vT_tf vT_tk_n fT_tk_c 1 r_55 hc_55) mb_X5_numberBack mv_X5_numberBack wl_X5_95 [0, 1, 2] rfl rfl rfl (Nat.le_of_ble_eq_true rfl) (Nat.le_of_ble_eq_true rfl) rfl hl.1 rfl (Nat.le_of_ble_eq_true rfl) ⟨Nat.le_refl 0, Nat.le_refl 0⟩ dX5_readFlower_55) hP hD hS hA [0, 1, 2] rfl rfl (fun H locs hP hD hS => ?_)
          have hP : va_P D vwCl (wd_X5_readFlower cI cZ AT AT_tx AT_tk AT_it AT_tk_c AT_it_c vT_pl r_29.2 vT_ts vT_tf vT_tk_n fT_tk_c vT_it_n fT_it_c) H := hP
          have hD : va_D A (wd_X5_readFlower cI cZ AT AT_tx AT_tk AT_it AT_tk_c AT_it_c vT_pl r_29.2 vT_ts vT_tf vT_tk_n fT_tk_c vT_it_n fT_it_c) := hD
          obtain ⟨r_58, hc_58, hm⟩ := ob_s hm
          refine q_cv (q_rv (rest := []) ⟨hx, hb, hml, hown, hts⟩ hK hN hP hD (c_X3_add l D cI cZ H.size AT_it AT_it_c 4 76 vT_it_n fT_it_c 6 r_45 r_50 r_55 r_58 hc_58) mb_X3_add mv_X3_add wl_X5_99 [3, 4] rfl rfl rfl (Nat.le_of_ble_eq_true rfl) (Nat.le_of_ble_eq_true rfl) rfl hl.1 rfl (Nat.le_of_ble_eq_true rfl) ⟨Nat.le_refl 0, Nat.le_refl 0⟩ dX5_readFlower_58) hP hD hS hA [3, 4] rfl rfl (fun H locs hP hD hS => ?_)
          have hP : va_P D vwCl (wd_X5_readFlower cI cZ AT AT_tx AT_tk AT_it AT_tk_c AT_it_c vT_pl r_29.2 vT_ts vT_tf vT_tk_n fT_tk_c r_58.1 r_58.2) H := hP
          have hD : va_D A (wd_X5_readFlower cI cZ AT AT_tx AT_tk AT_it AT_tk_c AT_it_c vT_pl r_29.2 vT_ts vT_tf vT_tk_n fT_tk_c r_58.1 r_58.2) := hD
          refine lv_iconst (v := 1) hx hb dX5_readFlower_61 (by decide) ?_
          have hm := Option.some.inj hm
          subst hm
          exact q_zret (v := 1) hx hb hr hlocks rfl hP hS dX5_readFlower_62
        · have hm := it_s c_32 hm
          refine lv_iconst (v := 0) hx hb dX5_readFlower_35 (by decide) ?_
          have hm := Option.some.inj hm
          subst hm
          exact q_zret (v := 0) hx hb hr hlocks rfl hP hS dX5_readFlower_36
theorem mb_X5_readNights : q_mb yX5_readNights cX5_readNights 1 (some .boolean) 0 := ⟨wc_X5_readNights, wn_X5, by decide, by decide, by decide +kernel⟩
theorem mv_X5_readNights : q_mv yX5_readNights 5 := ⟨wi_X5_readNights, ws_X5_readNights, _, rfl, rfl⟩
def wd_X5_readNights (cI cZ : ClassId) (AT AT_tx AT_tk AT_it AT_tk_c AT_it_c : Nat) (vT_pl : Int32) (vT_nw : Int32) (vT_ts : Int32) (vT_tf : Int32) (vT_tk_n : Int32) (fT_tk_c : Nat → Int32) (vT_it_n : Int32) (fT_it_c : Nat → Int32) : va_W := [(AT, .inr (5, [.ref AT_tx, .ref AT_tk, .ref AT_it, .int vT_pl, .int vT_nw, .int vT_ts, .int vT_tf])), (AT_tk, .inr (3, [.int 3, .ref AT_tk_c, .int vT_tk_n])), (AT_tk_c, .inl (cI, 453, .inl fT_tk_c)), (AT_it, .inr (3, [.int 4, .ref AT_it_c, .int vT_it_n])), (AT_it_c, .inl (cI, 76, .inl fT_it_c))]
def fm_X5_readNights (vT_nw : Int32) (vT_tk_n : Int32) (fT_tk_c : Nat → Int32) (vT_it_n : Int32) (fT_it_c : Nat → Int32) : Option (Int32 × Int32 × Int32 × (Nat → Int32)) := Option.bind (fm_X5_numbered 1 99 vT_nw vT_tk_n fT_tk_c) (fun r_4 => if r_4.1 = 0 then (some (0, r_4.2, vT_it_n, fT_it_c)) else (Option.bind (fm_X5_ends r_4.2 vT_tk_n fT_tk_c) (fun r_11 => if r_11.1 = 0 then (some (0, r_11.2, vT_it_n, fT_it_c)) else (Option.bind (fm_X5_numberBack 1 r_11.2 vT_tk_n fT_tk_c) (fun r_27 => Option.bind (fm_X3_add 4 76 8 r_27 0 0 vT_it_n fT_it_c) (fun r_32 => some (1, r_11.2, r_32.1, r_32.2)))))))
set_option maxHeartbeats 4000000 in
set_option maxRecDepth 100000 in
theorem c_X5_readNights (l : Launch) (D : va_G) (cI cZ : ClassId) (sz : Nat) (AT AT_tx AT_tk AT_it AT_tk_c AT_it_c : Nat) (vT_pl : Int32) (vT_nw : Int32) (vT_ts : Int32) (vT_tf : Int32) (vT_tk_n : Int32) (fT_tk_c : Nat → Int32) (vT_it_n : Int32) (fT_it_c : Nat → Int32) (out : (Int32 × Int32 × Int32 × (Nat → Int32))) (hm : fm_X5_readNights vT_nw vT_tk_n fT_tk_c vT_it_n fT_it_c = some out) : Met l yX5_readNights (Cond.code yX5_readNights cX5_readNights 1 (some .boolean) :: bg) { frames := 3, cells := 0, slots := 0, locals := 67 } (va_Pc [.ref AT] (q_pre D cI cZ sz (wd_X5_readNights cI cZ AT AT_tx AT_tk AT_it AT_tk_c AT_it_c vT_pl vT_nw vT_ts vT_tf vT_tk_n fT_tk_c vT_it_n fT_it_c))) (q_Qi D (wd_X5_readNights cI cZ AT AT_tx AT_tk AT_it AT_tk_c AT_it_c vT_pl out.2.1 vT_ts vT_tf vT_tk_n fT_tk_c out.2.2.1 out.2.2.2) out.1 (va_A (wd_X5_readNights cI cZ AT AT_tx AT_tk AT_it AT_tk_c AT_it_c vT_pl vT_nw vT_ts vT_tf vT_tk_n fT_tk_c vT_it_n fT_it_c) sz)) 0 0 (va_A (wd_X5_readNights cI cZ AT AT_tx AT_tk AT_it AT_tk_c AT_it_c vT_pl vT_nw vT_ts vT_tf vT_tk_n fT_tk_c vT_it_n fT_it_c) sz) := by
  refine q_met (fun A => q_Qi D (wd_X5_readNights cI cZ AT AT_tx AT_tk AT_it AT_tk_c AT_it_c vT_pl out.2.1 vT_ts vT_tf vT_tk_n fT_tk_c out.2.2.1 out.2.2.2) out.1 A) (by decide) (Nat.le_of_ble_eq_true rfl) ?_
  intro p e s m below meth c ls A hx hb hr hml hown hts hlocks _ hA hS hP hD hK hN hl
  have hown : s.vm.findClass RX5 = some m.cls := hown
  have hl : lv_has ls 1 [(0, .ref AT)] := hl
  unfold fm_X5_readNights at hm
  refine q_gen hS hP ?_
  intro H locs hP hS
  refine lv_aload_n hx hb dX5_readNights_0 rfl (lv_at hl 0 rfl) ?_
  refine lv_iconst (v := 1) hx hb dX5_readNights_1 (by decide) ?_
  refine lv_bipush (v := 99) hx hb dX5_readNights_2 (by decide) ?_
  obtain ⟨r_4, hc_4, hm⟩ := ob_s hm
  refine q_ci (q_rv (rest := []) ⟨hx, hb, hml, hown, hts⟩ hK hN hP hD (c_X5_numbered l D cI cZ H.size AT AT_tx AT_tk AT_it AT_tk_c vT_pl vT_nw vT_ts vT_tf vT_tk_n fT_tk_c 1 99 r_4 hc_4) mb_X5_numbered mv_X5_numbered wl_X5_91 [0, 1, 2] rfl rfl rfl (Nat.le_of_ble_eq_true rfl) (Nat.le_of_ble_eq_true rfl) rfl hl.1 rfl (Nat.le_of_ble_eq_true rfl) ⟨Nat.le_refl 0, Nat.le_refl 0⟩ dX5_readNights_4) hP hD hS hA [0, 1, 2] rfl rfl (fun H locs hP hD hS => ?_)
  have hP : va_P D vwCl (wd_X5_readNights cI cZ AT AT_tx AT_tk AT_it AT_tk_c AT_it_c vT_pl r_4.2 vT_ts vT_tf vT_tk_n fT_tk_c vT_it_n fT_it_c) H := hP
  have hD : va_D A (wd_X5_readNights cI cZ AT AT_tx AT_tk AT_it AT_tk_c AT_it_c vT_pl r_4.2 vT_ts vT_tf vT_tk_n fT_tk_c vT_it_n fT_it_c) := hD
  refine lv_if_eq (tgt := 17) hx hb dX5_readNights_7 (by decide) (fun c_7 => ?_) (fun c_7 => ?_)
  · have hm := it_s c_7 hm
    refine lv_iconst (v := 0) hx hb dX5_readNights_17 (by decide) ?_
    have hm := Option.some.inj hm
    subst hm
    exact q_zret (v := 0) hx hb hr hlocks rfl hP hS dX5_readNights_18
  · have hm := it_n c_7 hm
    refine lv_aload_n hx hb dX5_readNights_10 rfl (lv_at hl 0 rfl) ?_
    obtain ⟨r_11, hc_11, hm⟩ := ob_s hm
    refine q_ci (q_rv (rest := []) ⟨hx, hb, hml, hown, hts⟩ hK hN hP hD (c_X5_ends l D cI cZ H.size AT AT_tx AT_tk AT_it AT_tk_c vT_pl r_4.2 vT_ts vT_tf vT_tk_n fT_tk_c r_11 hc_11) mb_X5_ends mv_X5_ends wl_X5_50 [0, 1, 2] rfl rfl rfl (Nat.le_of_ble_eq_true rfl) (Nat.le_of_ble_eq_true rfl) rfl hl.1 rfl (Nat.le_of_ble_eq_true rfl) ⟨Nat.le_refl 0, Nat.le_refl 0⟩ dX5_readNights_11) hP hD hS hA [0, 1, 2] rfl rfl (fun H locs hP hD hS => ?_)
    have hP : va_P D vwCl (wd_X5_readNights cI cZ AT AT_tx AT_tk AT_it AT_tk_c AT_it_c vT_pl r_11.2 vT_ts vT_tf vT_tk_n fT_tk_c vT_it_n fT_it_c) H := hP
    have hD : va_D A (wd_X5_readNights cI cZ AT AT_tx AT_tk AT_it AT_tk_c AT_it_c vT_pl r_11.2 vT_ts vT_tf vT_tk_n fT_tk_c vT_it_n fT_it_c) := hD
    refine lv_if_ne (tgt := 19) hx hb dX5_readNights_14 (by decide) (fun c_14 => ?_) (fun c_14 => ?_)
    · have hm := it_n c_14 hm
      refine lv_aload_n hx hb dX5_readNights_19 rfl (lv_at hl 0 rfl) ?_
      refine gf_X5_23 (v := .ref AT_it) hx hb hts hown hK hN hP 0 rfl rfl dX5_readNights_20 ?_
      refine lv_bipush (v := 8) hx hb dX5_readNights_23 (by decide) ?_
      refine lv_aload_n hx hb dX5_readNights_25 rfl (lv_at hl 0 rfl) ?_
      refine lv_iconst (v := 1) hx hb dX5_readNights_26 (by decide) ?_
      obtain ⟨r_27, hc_27, hm⟩ := ob_s hm
      refine q_ci (q_rv (rest := [.int 8, .ref AT_it]) ⟨hx, hb, hml, hown, hts⟩ hK hN hP hD (c_X5_numberBack l D cI cZ H.size AT AT_tx AT_tk AT_it AT_tk_c vT_pl r_11.2 vT_ts vT_tf vT_tk_n fT_tk_c 1 r_27 hc_27) mb_X5_numberBack mv_X5_numberBack wl_X5_95 [0, 1, 2] rfl rfl rfl (Nat.le_of_ble_eq_true rfl) (Nat.le_of_ble_eq_true rfl) rfl hl.1 rfl (Nat.le_of_ble_eq_true rfl) ⟨Nat.le_refl 0, Nat.le_refl 0⟩ dX5_readNights_27) hP hD hS hA [0, 1, 2] rfl rfl (fun H locs hP hD hS => ?_)
      have hP : va_P D vwCl (wd_X5_readNights cI cZ AT AT_tx AT_tk AT_it AT_tk_c AT_it_c vT_pl r_11.2 vT_ts vT_tf vT_tk_n fT_tk_c vT_it_n fT_it_c) H := hP
      have hD : va_D A (wd_X5_readNights cI cZ AT AT_tx AT_tk AT_it AT_tk_c AT_it_c vT_pl r_11.2 vT_ts vT_tf vT_tk_n fT_tk_c vT_it_n fT_it_c) := hD
      refine lv_iconst (v := 0) hx hb dX5_readNights_30 (by decide) ?_
      refine lv_iconst (v := 0) hx hb dX5_readNights_31 (by decide) ?_
      obtain ⟨r_32, hc_32, hm⟩ := ob_s hm
      refine q_cv (q_rv (rest := []) ⟨hx, hb, hml, hown, hts⟩ hK hN hP hD (c_X3_add l D cI cZ H.size AT_it AT_it_c 4 76 vT_it_n fT_it_c 8 r_27 0 0 r_32 hc_32) mb_X3_add mv_X3_add wl_X5_99 [3, 4] rfl rfl rfl (Nat.le_of_ble_eq_true rfl) (Nat.le_of_ble_eq_true rfl) rfl hl.1 rfl (Nat.le_of_ble_eq_true rfl) ⟨Nat.le_refl 0, Nat.le_refl 0⟩ dX5_readNights_32) hP hD hS hA [3, 4] rfl rfl (fun H locs hP hD hS => ?_)
      have hP : va_P D vwCl (wd_X5_readNights cI cZ AT AT_tx AT_tk AT_it AT_tk_c AT_it_c vT_pl r_11.2 vT_ts vT_tf vT_tk_n fT_tk_c r_32.1 r_32.2) H := hP
      have hD : va_D A (wd_X5_readNights cI cZ AT AT_tx AT_tk AT_it AT_tk_c AT_it_c vT_pl r_11.2 vT_ts vT_tf vT_tk_n fT_tk_c r_32.1 r_32.2) := hD
      refine lv_iconst (v := 1) hx hb dX5_readNights_35 (by decide) ?_
      have hm := Option.some.inj hm
      subst hm
      exact q_zret (v := 1) hx hb hr hlocks rfl hP hS dX5_readNights_36
    · have hm := it_s c_14 hm
      refine lv_iconst (v := 0) hx hb dX5_readNights_17 (by decide) ?_
      have hm := Option.some.inj hm
      subst hm
      exact q_zret (v := 0) hx hb hr hlocks rfl hP hS dX5_readNights_18
theorem mb_X5_readSleeper : q_mb yX5_readSleeper cX5_readSleeper 1 (some .boolean) 0 := ⟨wc_X5_readSleeper, wn_X5, by decide, by decide, by decide +kernel⟩
theorem mv_X5_readSleeper : q_mv yX5_readSleeper 5 := ⟨wi_X5_readSleeper, ws_X5_readSleeper, _, rfl, rfl⟩
def wd_X5_readSleeper (cI cZ : ClassId) (AT AT_tx AT_tk AT_it AT_tk_c AT_it_c : Nat) (vT_pl : Int32) (vT_nw : Int32) (vT_ts : Int32) (vT_tf : Int32) (vT_tk_n : Int32) (fT_tk_c : Nat → Int32) (vT_it_n : Int32) (fT_it_c : Nat → Int32) : va_W := [(AT, .inr (5, [.ref AT_tx, .ref AT_tk, .ref AT_it, .int vT_pl, .int vT_nw, .int vT_ts, .int vT_tf])), (AT_tk, .inr (3, [.int 3, .ref AT_tk_c, .int vT_tk_n])), (AT_tk_c, .inl (cI, 453, .inl fT_tk_c)), (AT_it, .inr (3, [.int 4, .ref AT_it_c, .int vT_it_n])), (AT_it_c, .inl (cI, 76, .inl fT_it_c))]
def fm_X5_readSleeper (vT_nw : Int32) (vT_tk_n : Int32) (fT_tk_c : Nat → Int32) (vT_it_n : Int32) (fT_it_c : Nat → Int32) : Option (Int32 × Int32 × Int32 × (Nat → Int32)) := Option.bind (fm_X5_numbered 0 5 vT_nw vT_tk_n fT_tk_c) (fun r_3 => if r_3.1 = 0 then (some (0, r_3.2, vT_it_n, fT_it_c)) else (Option.bind (fm_X5_numbered 0 9 r_3.2 vT_tk_n fT_tk_c) (fun r_13 => if r_13.1 = 0 then (some (0, r_13.2, vT_it_n, fT_it_c)) else (Option.bind (fm_X5_ends r_13.2 vT_tk_n fT_tk_c) (fun r_20 => if r_20.1 = 0 then (some (0, r_20.2, vT_it_n, fT_it_c)) else (Option.bind (fm_X5_numberBack 2 r_20.2 vT_tk_n fT_tk_c) (fun r_35 => Option.bind (fm_X5_numberBack 1 r_20.2 vT_tk_n fT_tk_c) (fun r_40 => Option.bind (fm_X3_add 4 76 5 r_35 r_40 0 vT_it_n fT_it_c) (fun r_44 => some (1, r_20.2, r_44.1, r_44.2))))))))))
set_option maxHeartbeats 4000000 in
set_option maxRecDepth 100000 in
theorem c_X5_readSleeper (l : Launch) (D : va_G) (cI cZ : ClassId) (sz : Nat) (AT AT_tx AT_tk AT_it AT_tk_c AT_it_c : Nat) (vT_pl : Int32) (vT_nw : Int32) (vT_ts : Int32) (vT_tf : Int32) (vT_tk_n : Int32) (fT_tk_c : Nat → Int32) (vT_it_n : Int32) (fT_it_c : Nat → Int32) (out : (Int32 × Int32 × Int32 × (Nat → Int32))) (hm : fm_X5_readSleeper vT_nw vT_tk_n fT_tk_c vT_it_n fT_it_c = some out) : Met l yX5_readSleeper (Cond.code yX5_readSleeper cX5_readSleeper 1 (some .boolean) :: bg) { frames := 3, cells := 0, slots := 0, locals := 67 } (va_Pc [.ref AT] (q_pre D cI cZ sz (wd_X5_readSleeper cI cZ AT AT_tx AT_tk AT_it AT_tk_c AT_it_c vT_pl vT_nw vT_ts vT_tf vT_tk_n fT_tk_c vT_it_n fT_it_c))) (q_Qi D (wd_X5_readSleeper cI cZ AT AT_tx AT_tk AT_it AT_tk_c AT_it_c vT_pl out.2.1 vT_ts vT_tf vT_tk_n fT_tk_c out.2.2.1 out.2.2.2) out.1 (va_A (wd_X5_readSleeper cI cZ AT AT_tx AT_tk AT_it AT_tk_c AT_it_c vT_pl vT_nw vT_ts vT_tf vT_tk_n fT_tk_c vT_it_n fT_it_c) sz)) 0 0 (va_A (wd_X5_readSleeper cI cZ AT AT_tx AT_tk AT_it AT_tk_c AT_it_c vT_pl vT_nw vT_ts vT_tf vT_tk_n fT_tk_c vT_it_n fT_it_c) sz) := by
  refine q_met (fun A => q_Qi D (wd_X5_readSleeper cI cZ AT AT_tx AT_tk AT_it AT_tk_c AT_it_c vT_pl out.2.1 vT_ts vT_tf vT_tk_n fT_tk_c out.2.2.1 out.2.2.2) out.1 A) (by decide) (Nat.le_of_ble_eq_true rfl) ?_
  intro p e s m below meth c ls A hx hb hr hml hown hts hlocks _ hA hS hP hD hK hN hl
  have hown : s.vm.findClass RX5 = some m.cls := hown
  have hl : lv_has ls 1 [(0, .ref AT)] := hl
  unfold fm_X5_readSleeper at hm
  refine q_gen hS hP ?_
  intro H locs hP hS
  refine lv_aload_n hx hb dX5_readSleeper_0 rfl (lv_at hl 0 rfl) ?_
  refine lv_iconst (v := 0) hx hb dX5_readSleeper_1 (by decide) ?_
  refine lv_iconst (v := 5) hx hb dX5_readSleeper_2 (by decide) ?_
  obtain ⟨r_3, hc_3, hm⟩ := ob_s hm
  refine q_ci (q_rv (rest := []) ⟨hx, hb, hml, hown, hts⟩ hK hN hP hD (c_X5_numbered l D cI cZ H.size AT AT_tx AT_tk AT_it AT_tk_c vT_pl vT_nw vT_ts vT_tf vT_tk_n fT_tk_c 0 5 r_3 hc_3) mb_X5_numbered mv_X5_numbered wl_X5_91 [0, 1, 2] rfl rfl rfl (Nat.le_of_ble_eq_true rfl) (Nat.le_of_ble_eq_true rfl) rfl hl.1 rfl (Nat.le_of_ble_eq_true rfl) ⟨Nat.le_refl 0, Nat.le_refl 0⟩ dX5_readSleeper_3) hP hD hS hA [0, 1, 2] rfl rfl (fun H locs hP hD hS => ?_)
  have hP : va_P D vwCl (wd_X5_readSleeper cI cZ AT AT_tx AT_tk AT_it AT_tk_c AT_it_c vT_pl r_3.2 vT_ts vT_tf vT_tk_n fT_tk_c vT_it_n fT_it_c) H := hP
  have hD : va_D A (wd_X5_readSleeper cI cZ AT AT_tx AT_tk AT_it AT_tk_c AT_it_c vT_pl r_3.2 vT_ts vT_tf vT_tk_n fT_tk_c vT_it_n fT_it_c) := hD
  refine lv_if_eq (tgt := 26) hx hb dX5_readSleeper_6 (by decide) (fun c_6 => ?_) (fun c_6 => ?_)
  · have hm := it_s c_6 hm
    refine lv_iconst (v := 0) hx hb dX5_readSleeper_26 (by decide) ?_
    have hm := Option.some.inj hm
    subst hm
    exact q_zret (v := 0) hx hb hr hlocks rfl hP hS dX5_readSleeper_27
  · have hm := it_n c_6 hm
    refine lv_aload_n hx hb dX5_readSleeper_9 rfl (lv_at hl 0 rfl) ?_
    refine lv_iconst (v := 0) hx hb dX5_readSleeper_10 (by decide) ?_
    refine lv_bipush (v := 9) hx hb dX5_readSleeper_11 (by decide) ?_
    obtain ⟨r_13, hc_13, hm⟩ := ob_s hm
    refine q_ci (q_rv (rest := []) ⟨hx, hb, hml, hown, hts⟩ hK hN hP hD (c_X5_numbered l D cI cZ H.size AT AT_tx AT_tk AT_it AT_tk_c vT_pl r_3.2 vT_ts vT_tf vT_tk_n fT_tk_c 0 9 r_13 hc_13) mb_X5_numbered mv_X5_numbered wl_X5_91 [0, 1, 2] rfl rfl rfl (Nat.le_of_ble_eq_true rfl) (Nat.le_of_ble_eq_true rfl) rfl hl.1 rfl (Nat.le_of_ble_eq_true rfl) ⟨Nat.le_refl 0, Nat.le_refl 0⟩ dX5_readSleeper_13) hP hD hS hA [0, 1, 2] rfl rfl (fun H locs hP hD hS => ?_)
    have hP : va_P D vwCl (wd_X5_readSleeper cI cZ AT AT_tx AT_tk AT_it AT_tk_c AT_it_c vT_pl r_13.2 vT_ts vT_tf vT_tk_n fT_tk_c vT_it_n fT_it_c) H := hP
    have hD : va_D A (wd_X5_readSleeper cI cZ AT AT_tx AT_tk AT_it AT_tk_c AT_it_c vT_pl r_13.2 vT_ts vT_tf vT_tk_n fT_tk_c vT_it_n fT_it_c) := hD
    refine lv_if_eq (tgt := 26) hx hb dX5_readSleeper_16 (by decide) (fun c_16 => ?_) (fun c_16 => ?_)
    · have hm := it_s c_16 hm
      refine lv_iconst (v := 0) hx hb dX5_readSleeper_26 (by decide) ?_
      have hm := Option.some.inj hm
      subst hm
      exact q_zret (v := 0) hx hb hr hlocks rfl hP hS dX5_readSleeper_27
    · have hm := it_n c_16 hm
      refine lv_aload_n hx hb dX5_readSleeper_19 rfl (lv_at hl 0 rfl) ?_
      obtain ⟨r_20, hc_20, hm⟩ := ob_s hm
      refine q_ci (q_rv (rest := []) ⟨hx, hb, hml, hown, hts⟩ hK hN hP hD (c_X5_ends l D cI cZ H.size AT AT_tx AT_tk AT_it AT_tk_c vT_pl r_13.2 vT_ts vT_tf vT_tk_n fT_tk_c r_20 hc_20) mb_X5_ends mv_X5_ends wl_X5_50 [0, 1, 2] rfl rfl rfl (Nat.le_of_ble_eq_true rfl) (Nat.le_of_ble_eq_true rfl) rfl hl.1 rfl (Nat.le_of_ble_eq_true rfl) ⟨Nat.le_refl 0, Nat.le_refl 0⟩ dX5_readSleeper_20) hP hD hS hA [0, 1, 2] rfl rfl (fun H locs hP hD hS => ?_)
      have hP : va_P D vwCl (wd_X5_readSleeper cI cZ AT AT_tx AT_tk AT_it AT_tk_c AT_it_c vT_pl r_20.2 vT_ts vT_tf vT_tk_n fT_tk_c vT_it_n fT_it_c) H := hP
      have hD : va_D A (wd_X5_readSleeper cI cZ AT AT_tx AT_tk AT_it AT_tk_c AT_it_c vT_pl r_20.2 vT_ts vT_tf vT_tk_n fT_tk_c vT_it_n fT_it_c) := hD
      refine lv_if_ne (tgt := 28) hx hb dX5_readSleeper_23 (by decide) (fun c_23 => ?_) (fun c_23 => ?_)
      · have hm := it_n c_23 hm
        refine lv_aload_n hx hb dX5_readSleeper_28 rfl (lv_at hl 0 rfl) ?_
        refine gf_X5_23 (v := .ref AT_it) hx hb hts hown hK hN hP 0 rfl rfl dX5_readSleeper_29 ?_
        refine lv_iconst (v := 5) hx hb dX5_readSleeper_32 (by decide) ?_
        refine lv_aload_n hx hb dX5_readSleeper_33 rfl (lv_at hl 0 rfl) ?_
        refine lv_iconst (v := 2) hx hb dX5_readSleeper_34 (by decide) ?_
        obtain ⟨r_35, hc_35, hm⟩ := ob_s hm
        refine q_ci (q_rv (rest := [.int 5, .ref AT_it]) ⟨hx, hb, hml, hown, hts⟩ hK hN hP hD (c_X5_numberBack l D cI cZ H.size AT AT_tx AT_tk AT_it AT_tk_c vT_pl r_20.2 vT_ts vT_tf vT_tk_n fT_tk_c 2 r_35 hc_35) mb_X5_numberBack mv_X5_numberBack wl_X5_95 [0, 1, 2] rfl rfl rfl (Nat.le_of_ble_eq_true rfl) (Nat.le_of_ble_eq_true rfl) rfl hl.1 rfl (Nat.le_of_ble_eq_true rfl) ⟨Nat.le_refl 0, Nat.le_refl 0⟩ dX5_readSleeper_35) hP hD hS hA [0, 1, 2] rfl rfl (fun H locs hP hD hS => ?_)
        have hP : va_P D vwCl (wd_X5_readSleeper cI cZ AT AT_tx AT_tk AT_it AT_tk_c AT_it_c vT_pl r_20.2 vT_ts vT_tf vT_tk_n fT_tk_c vT_it_n fT_it_c) H := hP
        have hD : va_D A (wd_X5_readSleeper cI cZ AT AT_tx AT_tk AT_it AT_tk_c AT_it_c vT_pl r_20.2 vT_ts vT_tf vT_tk_n fT_tk_c vT_it_n fT_it_c) := hD
        refine lv_aload_n hx hb dX5_readSleeper_38 rfl (lv_at hl 0 rfl) ?_
        refine lv_iconst (v := 1) hx hb dX5_readSleeper_39 (by decide) ?_
        obtain ⟨r_40, hc_40, hm⟩ := ob_s hm
        refine q_ci (q_rv (rest := [.int r_35, .int 5, .ref AT_it]) ⟨hx, hb, hml, hown, hts⟩ hK hN hP hD (c_X5_numberBack l D cI cZ H.size AT AT_tx AT_tk AT_it AT_tk_c vT_pl r_20.2 vT_ts vT_tf vT_tk_n fT_tk_c 1 r_40 hc_40) mb_X5_numberBack mv_X5_numberBack wl_X5_95 [0, 1, 2] rfl rfl rfl (Nat.le_of_ble_eq_true rfl) (Nat.le_of_ble_eq_true rfl) rfl hl.1 rfl (Nat.le_of_ble_eq_true rfl) ⟨Nat.le_refl 0, Nat.le_refl 0⟩ dX5_readSleeper_40) hP hD hS hA [0, 1, 2] rfl rfl (fun H locs hP hD hS => ?_)
        have hP : va_P D vwCl (wd_X5_readSleeper cI cZ AT AT_tx AT_tk AT_it AT_tk_c AT_it_c vT_pl r_20.2 vT_ts vT_tf vT_tk_n fT_tk_c vT_it_n fT_it_c) H := hP
        have hD : va_D A (wd_X5_readSleeper cI cZ AT AT_tx AT_tk AT_it AT_tk_c AT_it_c vT_pl r_20.2 vT_ts vT_tf vT_tk_n fT_tk_c vT_it_n fT_it_c) := hD
        refine lv_iconst (v := 0) hx hb dX5_readSleeper_43 (by decide) ?_
        obtain ⟨r_44, hc_44, hm⟩ := ob_s hm
        refine q_cv (q_rv (rest := []) ⟨hx, hb, hml, hown, hts⟩ hK hN hP hD (c_X3_add l D cI cZ H.size AT_it AT_it_c 4 76 vT_it_n fT_it_c 5 r_35 r_40 0 r_44 hc_44) mb_X3_add mv_X3_add wl_X5_99 [3, 4] rfl rfl rfl (Nat.le_of_ble_eq_true rfl) (Nat.le_of_ble_eq_true rfl) rfl hl.1 rfl (Nat.le_of_ble_eq_true rfl) ⟨Nat.le_refl 0, Nat.le_refl 0⟩ dX5_readSleeper_44) hP hD hS hA [3, 4] rfl rfl (fun H locs hP hD hS => ?_)
        have hP : va_P D vwCl (wd_X5_readSleeper cI cZ AT AT_tx AT_tk AT_it AT_tk_c AT_it_c vT_pl r_20.2 vT_ts vT_tf vT_tk_n fT_tk_c r_44.1 r_44.2) H := hP
        have hD : va_D A (wd_X5_readSleeper cI cZ AT AT_tx AT_tk AT_it AT_tk_c AT_it_c vT_pl r_20.2 vT_ts vT_tf vT_tk_n fT_tk_c r_44.1 r_44.2) := hD
        refine lv_iconst (v := 1) hx hb dX5_readSleeper_47 (by decide) ?_
        have hm := Option.some.inj hm
        subst hm
        exact q_zret (v := 1) hx hb hr hlocks rfl hP hS dX5_readSleeper_48
      · have hm := it_s c_23 hm
        refine lv_iconst (v := 0) hx hb dX5_readSleeper_26 (by decide) ?_
        have hm := Option.some.inj hm
        subst hm
        exact q_zret (v := 0) hx hb hr hlocks rfl hP hS dX5_readSleeper_27
theorem mb_X5_readSwap : q_mb yX5_readSwap cX5_readSwap 3 (some .boolean) 0 := ⟨wc_X5_readSwap, wn_X5, by decide, by decide, by decide +kernel⟩
theorem mv_X5_readSwap : q_mv yX5_readSwap 5 := ⟨wi_X5_readSwap, ws_X5_readSwap, _, rfl, rfl⟩
def wd_X5_readSwap (cI cZ : ClassId) (AT AT_tx AT_tk AT_it AT_tk_c AT_it_c : Nat) (vT_pl : Int32) (vT_nw : Int32) (vT_ts : Int32) (vT_tf : Int32) (vT_tk_n : Int32) (fT_tk_c : Nat → Int32) (vT_it_n : Int32) (fT_it_c : Nat → Int32) : va_W := [(AT, .inr (5, [.ref AT_tx, .ref AT_tk, .ref AT_it, .int vT_pl, .int vT_nw, .int vT_ts, .int vT_tf])), (AT_tk, .inr (3, [.int 3, .ref AT_tk_c, .int vT_tk_n])), (AT_tk_c, .inl (cI, 453, .inl fT_tk_c)), (AT_it, .inr (3, [.int 4, .ref AT_it_c, .int vT_it_n])), (AT_it_c, .inl (cI, 76, .inl fT_it_c))]
def fm_X5_readSwap (vT_nw : Int32) (vT_tk_n : Int32) (fT_tk_c : Nat → Int32) (vT_it_n : Int32) (fT_it_c : Nat → Int32) : Option (Int32 × Int32 × Int32 × (Nat → Int32)) := Option.bind (fm_X5_numbered 0 5 vT_nw vT_tk_n fT_tk_c) (fun r_3 => if r_3.1 = 0 then (some (0, r_3.2, vT_it_n, fT_it_c)) else (Option.bind (fm_X5_numbered 0 5 r_3.2 vT_tk_n fT_tk_c) (fun r_12 => if r_12.1 = 0 then (some (0, r_12.2, vT_it_n, fT_it_c)) else (Option.bind (fm_X5_numberBack 1 r_12.2 vT_tk_n fT_tk_c) (fun r_22 => Option.bind (fm_X5_numberBack 0 r_12.2 vT_tk_n fT_tk_c) (fun r_28 => if r_22 = r_28 then (some (0, r_12.2, vT_it_n, fT_it_c)) else (Option.bind (fm_X5_ends r_12.2 vT_tk_n fT_tk_c) (fun r_38 => if r_38.1 = 0 then (some (0, r_38.2, vT_it_n, fT_it_c)) else (Option.bind (fm_X3_add 4 76 7 r_22 r_28 0 vT_it_n fT_it_c) (fun r_55 => some (1, r_38.2, r_55.1, r_55.2)))))))))))
set_option maxHeartbeats 4000000 in
set_option maxRecDepth 100000 in
theorem c_X5_readSwap (l : Launch) (D : va_G) (cI cZ : ClassId) (sz : Nat) (AT AT_tx AT_tk AT_it AT_tk_c AT_it_c : Nat) (vT_pl : Int32) (vT_nw : Int32) (vT_ts : Int32) (vT_tf : Int32) (vT_tk_n : Int32) (fT_tk_c : Nat → Int32) (vT_it_n : Int32) (fT_it_c : Nat → Int32) (out : (Int32 × Int32 × Int32 × (Nat → Int32))) (hm : fm_X5_readSwap vT_nw vT_tk_n fT_tk_c vT_it_n fT_it_c = some out) : Met l yX5_readSwap (Cond.code yX5_readSwap cX5_readSwap 3 (some .boolean) :: bg) { frames := 3, cells := 0, slots := 0, locals := 67 } (va_Pc [.ref AT] (q_pre D cI cZ sz (wd_X5_readSwap cI cZ AT AT_tx AT_tk AT_it AT_tk_c AT_it_c vT_pl vT_nw vT_ts vT_tf vT_tk_n fT_tk_c vT_it_n fT_it_c))) (q_Qi D (wd_X5_readSwap cI cZ AT AT_tx AT_tk AT_it AT_tk_c AT_it_c vT_pl out.2.1 vT_ts vT_tf vT_tk_n fT_tk_c out.2.2.1 out.2.2.2) out.1 (va_A (wd_X5_readSwap cI cZ AT AT_tx AT_tk AT_it AT_tk_c AT_it_c vT_pl vT_nw vT_ts vT_tf vT_tk_n fT_tk_c vT_it_n fT_it_c) sz)) 0 0 (va_A (wd_X5_readSwap cI cZ AT AT_tx AT_tk AT_it AT_tk_c AT_it_c vT_pl vT_nw vT_ts vT_tf vT_tk_n fT_tk_c vT_it_n fT_it_c) sz) := by
  refine q_met (fun A => q_Qi D (wd_X5_readSwap cI cZ AT AT_tx AT_tk AT_it AT_tk_c AT_it_c vT_pl out.2.1 vT_ts vT_tf vT_tk_n fT_tk_c out.2.2.1 out.2.2.2) out.1 A) (by decide) (Nat.le_of_ble_eq_true rfl) ?_
  intro p e s m below meth c ls A hx hb hr hml hown hts hlocks _ hA hS hP hD hK hN hl
  have hown : s.vm.findClass RX5 = some m.cls := hown
  have hl : lv_has ls 3 [(0, .ref AT)] := hl
  unfold fm_X5_readSwap at hm
  refine q_gen hS hP ?_
  intro H locs hP hS
  refine lv_aload_n hx hb dX5_readSwap_0 rfl (lv_at hl 0 rfl) ?_
  refine lv_iconst (v := 0) hx hb dX5_readSwap_1 (by decide) ?_
  refine lv_iconst (v := 5) hx hb dX5_readSwap_2 (by decide) ?_
  obtain ⟨r_3, hc_3, hm⟩ := ob_s hm
  refine q_ci (q_rv (rest := []) ⟨hx, hb, hml, hown, hts⟩ hK hN hP hD (c_X5_numbered l D cI cZ H.size AT AT_tx AT_tk AT_it AT_tk_c vT_pl vT_nw vT_ts vT_tf vT_tk_n fT_tk_c 0 5 r_3 hc_3) mb_X5_numbered mv_X5_numbered wl_X5_91 [0, 1, 2] rfl rfl rfl (Nat.le_of_ble_eq_true rfl) (Nat.le_of_ble_eq_true rfl) rfl hl.1 rfl (Nat.le_of_ble_eq_true rfl) ⟨Nat.le_refl 0, Nat.le_refl 0⟩ dX5_readSwap_3) hP hD hS hA [0, 1, 2] rfl rfl (fun H locs hP hD hS => ?_)
  have hP : va_P D vwCl (wd_X5_readSwap cI cZ AT AT_tx AT_tk AT_it AT_tk_c AT_it_c vT_pl r_3.2 vT_ts vT_tf vT_tk_n fT_tk_c vT_it_n fT_it_c) H := hP
  have hD : va_D A (wd_X5_readSwap cI cZ AT AT_tx AT_tk AT_it AT_tk_c AT_it_c vT_pl r_3.2 vT_ts vT_tf vT_tk_n fT_tk_c vT_it_n fT_it_c) := hD
  refine lv_if_eq (tgt := 18) hx hb dX5_readSwap_6 (by decide) (fun c_6 => ?_) (fun c_6 => ?_)
  · have hm := it_s c_6 hm
    refine lv_iconst (v := 0) hx hb dX5_readSwap_18 (by decide) ?_
    have hm := Option.some.inj hm
    subst hm
    exact q_zret (v := 0) hx hb hr hlocks rfl hP hS dX5_readSwap_19
  · have hm := it_n c_6 hm
    refine lv_aload_n hx hb dX5_readSwap_9 rfl (lv_at hl 0 rfl) ?_
    refine lv_iconst (v := 0) hx hb dX5_readSwap_10 (by decide) ?_
    refine lv_iconst (v := 5) hx hb dX5_readSwap_11 (by decide) ?_
    obtain ⟨r_12, hc_12, hm⟩ := ob_s hm
    refine q_ci (q_rv (rest := []) ⟨hx, hb, hml, hown, hts⟩ hK hN hP hD (c_X5_numbered l D cI cZ H.size AT AT_tx AT_tk AT_it AT_tk_c vT_pl r_3.2 vT_ts vT_tf vT_tk_n fT_tk_c 0 5 r_12 hc_12) mb_X5_numbered mv_X5_numbered wl_X5_91 [0, 1, 2] rfl rfl rfl (Nat.le_of_ble_eq_true rfl) (Nat.le_of_ble_eq_true rfl) rfl hl.1 rfl (Nat.le_of_ble_eq_true rfl) ⟨Nat.le_refl 0, Nat.le_refl 0⟩ dX5_readSwap_12) hP hD hS hA [0, 1, 2] rfl rfl (fun H locs hP hD hS => ?_)
    have hP : va_P D vwCl (wd_X5_readSwap cI cZ AT AT_tx AT_tk AT_it AT_tk_c AT_it_c vT_pl r_12.2 vT_ts vT_tf vT_tk_n fT_tk_c vT_it_n fT_it_c) H := hP
    have hD : va_D A (wd_X5_readSwap cI cZ AT AT_tx AT_tk AT_it AT_tk_c AT_it_c vT_pl r_12.2 vT_ts vT_tf vT_tk_n fT_tk_c vT_it_n fT_it_c) := hD
    refine lv_if_ne (tgt := 20) hx hb dX5_readSwap_15 (by decide) (fun c_15 => ?_) (fun c_15 => ?_)
    · have hm := it_n c_15 hm
      refine lv_aload_n hx hb dX5_readSwap_20 rfl (lv_at hl 0 rfl) ?_
      refine lv_iconst (v := 1) hx hb dX5_readSwap_21 (by decide) ?_
      obtain ⟨r_22, hc_22, hm⟩ := ob_s hm
      refine q_ci (q_rv (rest := []) ⟨hx, hb, hml, hown, hts⟩ hK hN hP hD (c_X5_numberBack l D cI cZ H.size AT AT_tx AT_tk AT_it AT_tk_c vT_pl r_12.2 vT_ts vT_tf vT_tk_n fT_tk_c 1 r_22 hc_22) mb_X5_numberBack mv_X5_numberBack wl_X5_95 [0, 1, 2] rfl rfl rfl (Nat.le_of_ble_eq_true rfl) (Nat.le_of_ble_eq_true rfl) rfl hl.1 rfl (Nat.le_of_ble_eq_true rfl) ⟨Nat.le_refl 0, Nat.le_refl 0⟩ dX5_readSwap_22) hP hD hS hA [0, 1, 2] rfl rfl (fun H locs hP hD hS => ?_)
      have hP : va_P D vwCl (wd_X5_readSwap cI cZ AT AT_tx AT_tk AT_it AT_tk_c AT_it_c vT_pl r_12.2 vT_ts vT_tf vT_tk_n fT_tk_c vT_it_n fT_it_c) H := hP
      have hD : va_D A (wd_X5_readSwap cI cZ AT AT_tx AT_tk AT_it AT_tk_c AT_it_c vT_pl r_12.2 vT_ts vT_tf vT_tk_n fT_tk_c vT_it_n fT_it_c) := hD
      refine lv_istore_n (lv' := [(1, .int r_22), (0, .ref AT)]) hx hb dX5_readSwap_25 rfl hl (by decide) rfl (fun ls hl => ?_)
      refine lv_aload_n hx hb dX5_readSwap_26 rfl (lv_at hl 1 rfl) ?_
      refine lv_iconst (v := 0) hx hb dX5_readSwap_27 (by decide) ?_
      obtain ⟨r_28, hc_28, hm⟩ := ob_s hm
      refine q_ci (q_rv (rest := []) ⟨hx, hb, hml, hown, hts⟩ hK hN hP hD (c_X5_numberBack l D cI cZ H.size AT AT_tx AT_tk AT_it AT_tk_c vT_pl r_12.2 vT_ts vT_tf vT_tk_n fT_tk_c 0 r_28 hc_28) mb_X5_numberBack mv_X5_numberBack wl_X5_95 [0, 1, 2] rfl rfl rfl (Nat.le_of_ble_eq_true rfl) (Nat.le_of_ble_eq_true rfl) rfl hl.1 rfl (Nat.le_of_ble_eq_true rfl) ⟨Nat.le_refl 0, Nat.le_refl 0⟩ dX5_readSwap_28) hP hD hS hA [0, 1, 2] rfl rfl (fun H locs hP hD hS => ?_)
      have hP : va_P D vwCl (wd_X5_readSwap cI cZ AT AT_tx AT_tk AT_it AT_tk_c AT_it_c vT_pl r_12.2 vT_ts vT_tf vT_tk_n fT_tk_c vT_it_n fT_it_c) H := hP
      have hD : va_D A (wd_X5_readSwap cI cZ AT AT_tx AT_tk AT_it AT_tk_c AT_it_c vT_pl r_12.2 vT_ts vT_tf vT_tk_n fT_tk_c vT_it_n fT_it_c) := hD
      refine lv_istore_n (lv' := [(2, .int r_28), (1, .int r_22), (0, .ref AT)]) hx hb dX5_readSwap_31 rfl hl (by decide) rfl (fun ls hl => ?_)
      refine lv_iload_n hx hb dX5_readSwap_32 rfl (lv_at hl 1 rfl) ?_
      refine lv_iload_n hx hb dX5_readSwap_33 rfl (lv_at hl 0 rfl) ?_
      refine lv_icmp_eq (tgt := 44) hx hb dX5_readSwap_34 (by decide) (fun c_34 => ?_) (fun c_34 => ?_)
      · have hm := it_s c_34 hm
        refine lv_iconst (v := 0) hx hb dX5_readSwap_44 (by decide) ?_
        have hm := Option.some.inj hm
        subst hm
        exact q_zret (v := 0) hx hb hr hlocks rfl hP hS dX5_readSwap_45
      · have hm := it_n c_34 hm
        refine lv_aload_n hx hb dX5_readSwap_37 rfl (lv_at hl 2 rfl) ?_
        obtain ⟨r_38, hc_38, hm⟩ := ob_s hm
        refine q_ci (q_rv (rest := []) ⟨hx, hb, hml, hown, hts⟩ hK hN hP hD (c_X5_ends l D cI cZ H.size AT AT_tx AT_tk AT_it AT_tk_c vT_pl r_12.2 vT_ts vT_tf vT_tk_n fT_tk_c r_38 hc_38) mb_X5_ends mv_X5_ends wl_X5_50 [0, 1, 2] rfl rfl rfl (Nat.le_of_ble_eq_true rfl) (Nat.le_of_ble_eq_true rfl) rfl hl.1 rfl (Nat.le_of_ble_eq_true rfl) ⟨Nat.le_refl 0, Nat.le_refl 0⟩ dX5_readSwap_38) hP hD hS hA [0, 1, 2] rfl rfl (fun H locs hP hD hS => ?_)
        have hP : va_P D vwCl (wd_X5_readSwap cI cZ AT AT_tx AT_tk AT_it AT_tk_c AT_it_c vT_pl r_38.2 vT_ts vT_tf vT_tk_n fT_tk_c vT_it_n fT_it_c) H := hP
        have hD : va_D A (wd_X5_readSwap cI cZ AT AT_tx AT_tk AT_it AT_tk_c AT_it_c vT_pl r_38.2 vT_ts vT_tf vT_tk_n fT_tk_c vT_it_n fT_it_c) := hD
        refine lv_if_ne (tgt := 46) hx hb dX5_readSwap_41 (by decide) (fun c_41 => ?_) (fun c_41 => ?_)
        · have hm := it_n c_41 hm
          refine lv_aload_n hx hb dX5_readSwap_46 rfl (lv_at hl 2 rfl) ?_
          refine gf_X5_23 (v := .ref AT_it) hx hb hts hown hK hN hP 0 rfl rfl dX5_readSwap_47 ?_
          refine lv_bipush (v := 7) hx hb dX5_readSwap_50 (by decide) ?_
          refine lv_iload_n hx hb dX5_readSwap_52 rfl (lv_at hl 1 rfl) ?_
          refine lv_iload_n hx hb dX5_readSwap_53 rfl (lv_at hl 0 rfl) ?_
          refine lv_iconst (v := 0) hx hb dX5_readSwap_54 (by decide) ?_
          obtain ⟨r_55, hc_55, hm⟩ := ob_s hm
          refine q_cv (q_rv (rest := []) ⟨hx, hb, hml, hown, hts⟩ hK hN hP hD (c_X3_add l D cI cZ H.size AT_it AT_it_c 4 76 vT_it_n fT_it_c 7 r_22 r_28 0 r_55 hc_55) mb_X3_add mv_X3_add wl_X5_99 [3, 4] rfl rfl rfl (Nat.le_of_ble_eq_true rfl) (Nat.le_of_ble_eq_true rfl) rfl hl.1 rfl (Nat.le_of_ble_eq_true rfl) ⟨Nat.le_refl 0, Nat.le_refl 0⟩ dX5_readSwap_55) hP hD hS hA [3, 4] rfl rfl (fun H locs hP hD hS => ?_)
          have hP : va_P D vwCl (wd_X5_readSwap cI cZ AT AT_tx AT_tk AT_it AT_tk_c AT_it_c vT_pl r_38.2 vT_ts vT_tf vT_tk_n fT_tk_c r_55.1 r_55.2) H := hP
          have hD : va_D A (wd_X5_readSwap cI cZ AT AT_tx AT_tk AT_it AT_tk_c AT_it_c vT_pl r_38.2 vT_ts vT_tf vT_tk_n fT_tk_c r_55.1 r_55.2) := hD
          refine lv_iconst (v := 1) hx hb dX5_readSwap_58 (by decide) ?_
          have hm := Option.some.inj hm
          subst hm
          exact q_zret (v := 1) hx hb hr hlocks rfl hP hS dX5_readSwap_59
        · have hm := it_s c_41 hm
          refine lv_iconst (v := 0) hx hb dX5_readSwap_44 (by decide) ?_
          have hm := Option.some.inj hm
          subst hm
          exact q_zret (v := 0) hx hb hr hlocks rfl hP hS dX5_readSwap_45
    · have hm := it_s c_15 hm
      refine lv_iconst (v := 0) hx hb dX5_readSwap_18 (by decide) ?_
      have hm := Option.some.inj hm
      subst hm
      exact q_zret (v := 0) hx hb hr hlocks rfl hP hS dX5_readSwap_19
theorem gf_X5_40 {p : Program} {l : Launch} {e : Env} {R : Room} {s : State} {m : MethodId} {args : Array Value} {below : List Frame} {meth : Method} {c : Code} {H : Heap} {locs : List Loc} {cells slots : Nat} {Q : State → Prop} {pc : Nat} {ls : Array Slot} {cc : ByteArray} {D : va_G} {cI cZ : ClassId} {ws : va_W} {a : Nat} {rest fs : List Value} (hx : p.tables.exec = Jvm.exec) (hb : c.code = cc) (hts : ∀ w ∈ bg, w.before args s = true) (hown : s.vm.findClass RX5 = some m.cls) (hK : va_K D vwCl (q_tys cI cZ) s) (hN : q_N s) (hP : va_P D vwCl ws H) (q0 : Nat) (he : ws[q0]? = some (a, .inr (5, fs))) {v : Value} (hv : fs[5]? = some v) (hdg : decode cc pc = .ok (.getfield 40, 3)) (kk : W p l e R s m args below meth c H locs cells slots Q (F0 m (pc + 3) ls (v :: rest))) : W p l e R s m args below meth c H locs cells slots Q (F0 m pc ls (.ref a :: rest)) :=
  va_get (C := RX5) (T := TX5) (N := 7) hx hb hts wu_X5 hown hK hP q0 he rfl 5 (by decide) (hts _ wf_X5_40) (fun _ h9 => h9) hv hdg kk
theorem gf_X5_43 {p : Program} {l : Launch} {e : Env} {R : Room} {s : State} {m : MethodId} {args : Array Value} {below : List Frame} {meth : Method} {c : Code} {H : Heap} {locs : List Loc} {cells slots : Nat} {Q : State → Prop} {pc : Nat} {ls : Array Slot} {cc : ByteArray} {D : va_G} {cI cZ : ClassId} {ws : va_W} {a : Nat} {rest fs : List Value} (hx : p.tables.exec = Jvm.exec) (hb : c.code = cc) (hts : ∀ w ∈ bg, w.before args s = true) (hown : s.vm.findClass RX5 = some m.cls) (hK : va_K D vwCl (q_tys cI cZ) s) (hN : q_N s) (hP : va_P D vwCl ws H) (q0 : Nat) (he : ws[q0]? = some (a, .inr (5, fs))) {v : Value} (hv : fs[6]? = some v) (hdg : decode cc pc = .ok (.getfield 43, 3)) (kk : W p l e R s m args below meth c H locs cells slots Q (F0 m (pc + 3) ls (v :: rest))) : W p l e R s m args below meth c H locs cells slots Q (F0 m pc ls (.ref a :: rest)) :=
  va_get (C := RX5) (T := TX5) (N := 7) hx hb hts wu_X5 hown hK hP q0 he rfl 6 (by decide) (hts _ wf_X5_43) (fun _ h9 => h9) hv hdg kk
theorem pf_X5_40 {p : Program} {l : Launch} {e : Env} {R : Room} {s : State} {m : MethodId} {args : Array Value} {below : List Frame} {meth : Method} {c : Code} {H : Heap} {locs : List Loc} {cells slots : Nat} {Q : State → Prop} {pc : Nat} {ls : Array Slot} {cc : ByteArray} {D : va_G} {cI cZ : ClassId} {ws : va_W} {A : Nat → Prop} {a : Nat} {rest fs : List Value} {x : Int32} (hx : p.tables.exec = Jvm.exec) (hb : c.code = cc) (hts : ∀ w ∈ bg, w.before args s = true) (hown : s.vm.findClass RX5 = some m.cls) (hK : va_K D vwCl (q_tys cI cZ) s) (hN : q_N s) (hP : va_P D vwCl ws H) (hD : va_D A ws) (hS : va_S A s.heap H locs) (q0 : Nat) (he : ws[q0]? = some (a, .inr (5, fs))) (hdg : decode cc pc = .ok (.putfield 40, 3)) (kk : ∀ (H1 : Heap) (locs1 : List Loc), va_P D vwCl (ws.set q0 (a, .inr (5, fs.set 5 (.int x)))) H1 → va_D A (ws.set q0 (a, .inr (5, fs.set 5 (.int x)))) → va_S A s.heap H1 locs1 → W p l e R s m args below meth c H1 locs1 cells slots Q (F0 m (pc + 3) ls rest)) (hl : 5 < fs.length := by exact Nat.le_of_ble_eq_true rfl) : W p l e R s m args below meth c H locs cells slots Q (F0 m pc ls (.int x :: .ref a :: rest)) :=
  va_put (C := RX5) (T := TX5) (N := 7) (ty := .int) hx hb hts wu_X5 tyX5 tyX5_ok nmX5 hown hK hP hD hS q0 he rfl 5 (by decide) (hts _ wf_X5_40) (fun _ h9 => h9) rfl (by decide +kernel) rfl rfl hl hdg kk
theorem pf_X5_43 {p : Program} {l : Launch} {e : Env} {R : Room} {s : State} {m : MethodId} {args : Array Value} {below : List Frame} {meth : Method} {c : Code} {H : Heap} {locs : List Loc} {cells slots : Nat} {Q : State → Prop} {pc : Nat} {ls : Array Slot} {cc : ByteArray} {D : va_G} {cI cZ : ClassId} {ws : va_W} {A : Nat → Prop} {a : Nat} {rest fs : List Value} {x : Int32} (hx : p.tables.exec = Jvm.exec) (hb : c.code = cc) (hts : ∀ w ∈ bg, w.before args s = true) (hown : s.vm.findClass RX5 = some m.cls) (hK : va_K D vwCl (q_tys cI cZ) s) (hN : q_N s) (hP : va_P D vwCl ws H) (hD : va_D A ws) (hS : va_S A s.heap H locs) (q0 : Nat) (he : ws[q0]? = some (a, .inr (5, fs))) (hdg : decode cc pc = .ok (.putfield 43, 3)) (kk : ∀ (H1 : Heap) (locs1 : List Loc), va_P D vwCl (ws.set q0 (a, .inr (5, fs.set 6 (.int x)))) H1 → va_D A (ws.set q0 (a, .inr (5, fs.set 6 (.int x)))) → va_S A s.heap H1 locs1 → W p l e R s m args below meth c H1 locs1 cells slots Q (F0 m (pc + 3) ls rest)) (hl : 6 < fs.length := by exact Nat.le_of_ble_eq_true rfl) : W p l e R s m args below meth c H locs cells slots Q (F0 m pc ls (.int x :: .ref a :: rest)) :=
  va_put (C := RX5) (T := TX5) (N := 7) (ty := .int) hx hb hts wu_X5 tyX5 tyX5_ok nmX5 hown hK hP hD hS q0 he rfl 6 (by decide) (hts _ wf_X5_43) (fun _ h9 => h9) rfl (by decide +kernel) rfl rfl hl hdg kk
theorem mb_X5_readItem : q_mb yX5_readItem cX5_readItem 1 (some .boolean) 0 := ⟨wc_X5_readItem, wn_X5, by decide, by decide, by decide +kernel⟩
theorem mv_X5_readItem : q_mv yX5_readItem 5 := ⟨wi_X5_readItem, ws_X5_readItem, _, rfl, rfl⟩
def wd_X5_readItem (cI cZ : ClassId) (AT AT_tx AT_tk AT_it AT_tk_c AT_it_c : Nat) (vT_pl : Int32) (vT_nw : Int32) (vT_ts : Int32) (vT_tf : Int32) (vT_tk_n : Int32) (fT_tk_c : Nat → Int32) (vT_it_n : Int32) (fT_it_c : Nat → Int32) : va_W := [(AT, .inr (5, [.ref AT_tx, .ref AT_tk, .ref AT_it, .int vT_pl, .int vT_nw, .int vT_ts, .int vT_tf])), (AT_tk, .inr (3, [.int 3, .ref AT_tk_c, .int vT_tk_n])), (AT_tk_c, .inl (cI, 453, .inl fT_tk_c)), (AT_it, .inr (3, [.int 4, .ref AT_it_c, .int vT_it_n])), (AT_it_c, .inl (cI, 76, .inl fT_it_c))]
def fm_X5_readItem (vT_nw : Int32) (vT_ts : Int32) (vT_tf : Int32) (vT_tk_n : Int32) (fT_tk_c : Nat → Int32) (vT_it_n : Int32) (fT_it_c : Nat → Int32) : Option (Int32 × Int32 × Int32 × Int32 × Int32 × (Nat → Int32)) := Option.bind (fm_X5_token vT_nw vT_tk_n fT_tk_c) (fun r_1 => if r_1 = 5 then (if 6 < (vT_ts + 1) then (some (0, vT_nw, (vT_ts + 1), vT_tf, vT_it_n, fT_it_c)) else (Option.bind (fm_X5_readSleeper vT_nw vT_tk_n fT_tk_c vT_it_n fT_it_c) (fun r_56 => if r_56.1 = 0 then (some (0, r_56.2.1, (vT_ts + 1), vT_tf, r_56.2.2.1, r_56.2.2.2)) else (some (1, r_56.2.1, (vT_ts + 1), vT_tf, r_56.2.2.1, r_56.2.2.2))))) else if r_1 = 6 then (if 6 < (vT_tf + 1) then (some (0, vT_nw, vT_ts, (vT_tf + 1), vT_it_n, fT_it_c)) else (Option.bind (fm_X5_readFlower vT_nw vT_tk_n fT_tk_c vT_it_n fT_it_c) (fun r_88 => if r_88.1 = 0 then (some (0, r_88.2.1, vT_ts, (vT_tf + 1), r_88.2.2.1, r_88.2.2.2)) else (some (1, r_88.2.1, vT_ts, (vT_tf + 1), r_88.2.2.1, r_88.2.2.2))))) else if r_1 = 7 then (Option.bind (fm_X5_readSwap vT_nw vT_tk_n fT_tk_c vT_it_n fT_it_c) (fun r_101 => bz r_101.1 (some (r_101.1, r_101.2.1, vT_ts, vT_tf, r_101.2.2.1, r_101.2.2.2)))) else if r_1 = 8 then (Option.bind (fm_X5_readNights vT_nw vT_tk_n fT_tk_c vT_it_n fT_it_c) (fun r_106 => bz r_106.1 (some (r_106.1, r_106.2.1, vT_ts, vT_tf, r_106.2.2.1, r_106.2.2.2)))) else (some (0, vT_nw, vT_ts, vT_tf, vT_it_n, fT_it_c)))
set_option maxHeartbeats 4000000 in
set_option maxRecDepth 100000 in
theorem c_X5_readItem (l : Launch) (D : va_G) (cI cZ : ClassId) (sz : Nat) (AT AT_tx AT_tk AT_it AT_tk_c AT_it_c : Nat) (vT_pl : Int32) (vT_nw : Int32) (vT_ts : Int32) (vT_tf : Int32) (vT_tk_n : Int32) (fT_tk_c : Nat → Int32) (vT_it_n : Int32) (fT_it_c : Nat → Int32) (out : (Int32 × Int32 × Int32 × Int32 × Int32 × (Nat → Int32))) (hm : fm_X5_readItem vT_nw vT_ts vT_tf vT_tk_n fT_tk_c vT_it_n fT_it_c = some out) : Met l yX5_readItem (Cond.code yX5_readItem cX5_readItem 1 (some .boolean) :: bg) { frames := 4, cells := 0, slots := 0, locals := 89 } (va_Pc [.ref AT] (q_pre D cI cZ sz (wd_X5_readItem cI cZ AT AT_tx AT_tk AT_it AT_tk_c AT_it_c vT_pl vT_nw vT_ts vT_tf vT_tk_n fT_tk_c vT_it_n fT_it_c))) (q_Qi D (wd_X5_readItem cI cZ AT AT_tx AT_tk AT_it AT_tk_c AT_it_c vT_pl out.2.1 out.2.2.1 out.2.2.2.1 vT_tk_n fT_tk_c out.2.2.2.2.1 out.2.2.2.2.2) out.1 (va_A (wd_X5_readItem cI cZ AT AT_tx AT_tk AT_it AT_tk_c AT_it_c vT_pl vT_nw vT_ts vT_tf vT_tk_n fT_tk_c vT_it_n fT_it_c) sz)) 0 0 (va_A (wd_X5_readItem cI cZ AT AT_tx AT_tk AT_it AT_tk_c AT_it_c vT_pl vT_nw vT_ts vT_tf vT_tk_n fT_tk_c vT_it_n fT_it_c) sz) := by
  refine q_met (fun A => q_Qi D (wd_X5_readItem cI cZ AT AT_tx AT_tk AT_it AT_tk_c AT_it_c vT_pl out.2.1 out.2.2.1 out.2.2.2.1 vT_tk_n fT_tk_c out.2.2.2.2.1 out.2.2.2.2.2) out.1 A) (by decide) (Nat.le_of_ble_eq_true rfl) ?_
  intro p e s m below meth c ls A hx hb hr hml hown hts hlocks _ hA hS hP hD hK hN hl
  have hown : s.vm.findClass RX5 = some m.cls := hown
  have hl : lv_has ls 1 [(0, .ref AT)] := hl
  unfold fm_X5_readItem at hm
  refine q_gen hS hP ?_
  intro H locs hP hS
  refine lv_aload_n hx hb dX5_readItem_0 rfl (lv_at hl 0 rfl) ?_
  obtain ⟨r_1, hc_1, hm⟩ := ob_s hm
  refine q_ci (q_rv (rest := []) ⟨hx, hb, hml, hown, hts⟩ hK hN hP hD (c_X5_token l D cI cZ H.size AT AT_tx AT_tk AT_it AT_tk_c vT_pl vT_nw vT_ts vT_tf vT_tk_n fT_tk_c r_1 hc_1) mb_X5_token mv_X5_token wl_X5_46 [0, 1, 2] rfl rfl rfl (Nat.le_of_ble_eq_true rfl) (Nat.le_of_ble_eq_true rfl) rfl hl.1 rfl (Nat.le_of_ble_eq_true rfl) ⟨Nat.le_refl 0, Nat.le_refl 0⟩ dX5_readItem_1) hP hD hS hA [0, 1, 2] rfl rfl (fun H locs hP hD hS => ?_)
  have hP : va_P D vwCl (wd_X5_readItem cI cZ AT AT_tx AT_tk AT_it AT_tk_c AT_it_c vT_pl vT_nw vT_ts vT_tf vT_tk_n fT_tk_c vT_it_n fT_it_c) H := hP
  have hD : va_D A (wd_X5_readItem cI cZ AT AT_tx AT_tk AT_it AT_tk_c AT_it_c vT_pl vT_nw vT_ts vT_tf vT_tk_n fT_tk_c vT_it_n fT_it_c) := hD
  rcases Decidable.em (r_1 = 5) with c_4_5 | c_4_5
  · have hm := it_s c_4_5 hm
    refine lv_tableIn (tgt := 36) hx hb dX5_readItem_4 (by rw [c_4_5]; decide) (by rw [c_4_5]; decide) (by rw [c_4_5]; rfl) (by decide) ?_
    refine lv_aload_n hx hb dX5_readItem_36 rfl (lv_at hl 0 rfl) ?_
    refine lv_dup hx hb dX5_readItem_37 rfl ?_
    refine gf_X5_40 (v := .int vT_ts) hx hb hts hown hK hN hP 0 rfl rfl dX5_readItem_38 ?_
    refine lv_iconst (v := 1) hx hb dX5_readItem_41 (by decide) ?_
    refine lv_iadd hx hb dX5_readItem_42 ?_
    refine pf_X5_40 hx hb hts hown hK hN hP hD hS 0 rfl dX5_readItem_43 (fun H locs hP hD hS => ?_)
    have hP : va_P D vwCl (wd_X5_readItem cI cZ AT AT_tx AT_tk AT_it AT_tk_c AT_it_c vT_pl vT_nw (vT_ts + 1) vT_tf vT_tk_n fT_tk_c vT_it_n fT_it_c) H := hP
    have hD : va_D A (wd_X5_readItem cI cZ AT AT_tx AT_tk AT_it AT_tk_c AT_it_c vT_pl vT_nw (vT_ts + 1) vT_tf vT_tk_n fT_tk_c vT_it_n fT_it_c) := hD
    refine lv_aload_n hx hb dX5_readItem_46 rfl (lv_at hl 0 rfl) ?_
    refine gf_X5_40 (v := .int (vT_ts + 1)) hx hb hts hown hK hN hP 0 rfl rfl dX5_readItem_47 ?_
    refine lv_bipush (v := 6) hx hb dX5_readItem_50 (by decide) ?_
    refine lv_icmp_gt (tgt := 66) hx hb dX5_readItem_52 (by decide) (fun c_52 => ?_) (fun c_52 => ?_)
    · have hm := it_s c_52 hm
      refine lv_iconst (v := 0) hx hb dX5_readItem_66 (by decide) ?_
      have hm := Option.some.inj hm
      subst hm
      exact q_zret (v := 0) hx hb hr hlocks rfl hP hS dX5_readItem_67
    · have hm := it_n c_52 hm
      refine lv_aload_n hx hb dX5_readItem_55 rfl (lv_at hl 0 rfl) ?_
      obtain ⟨r_56, hc_56, hm⟩ := ob_s hm
      refine q_ci (q_rv (rest := []) ⟨hx, hb, hml, hown, hts⟩ hK hN hP hD (c_X5_readSleeper l D cI cZ H.size AT AT_tx AT_tk AT_it AT_tk_c AT_it_c vT_pl vT_nw (vT_ts + 1) vT_tf vT_tk_n fT_tk_c vT_it_n fT_it_c r_56 hc_56) mb_X5_readSleeper mv_X5_readSleeper wl_X5_79 [0, 1, 2, 3, 4] rfl rfl rfl (Nat.le_of_ble_eq_true rfl) (Nat.le_of_ble_eq_true rfl) rfl hl.1 rfl (Nat.le_of_ble_eq_true rfl) ⟨Nat.le_refl 0, Nat.le_refl 0⟩ dX5_readItem_56) hP hD hS hA [0, 1, 2, 3, 4] rfl rfl (fun H locs hP hD hS => ?_)
      have hP : va_P D vwCl (wd_X5_readItem cI cZ AT AT_tx AT_tk AT_it AT_tk_c AT_it_c vT_pl r_56.2.1 (vT_ts + 1) vT_tf vT_tk_n fT_tk_c r_56.2.2.1 r_56.2.2.2) H := hP
      have hD : va_D A (wd_X5_readItem cI cZ AT AT_tx AT_tk AT_it AT_tk_c AT_it_c vT_pl r_56.2.1 (vT_ts + 1) vT_tf vT_tk_n fT_tk_c r_56.2.2.1 r_56.2.2.2) := hD
      refine lv_if_eq (tgt := 66) hx hb dX5_readItem_59 (by decide) (fun c_59 => ?_) (fun c_59 => ?_)
      · have hm := it_s c_59 hm
        refine lv_iconst (v := 0) hx hb dX5_readItem_66 (by decide) ?_
        have hm := Option.some.inj hm
        subst hm
        exact q_zret (v := 0) hx hb hr hlocks rfl hP hS dX5_readItem_67
      · have hm := it_n c_59 hm
        refine lv_iconst (v := 1) hx hb dX5_readItem_62 (by decide) ?_
        refine lv_goto (tgt := 67) hx hb dX5_readItem_63 (by decide) ?_
        have hm := Option.some.inj hm
        subst hm
        exact q_zret (v := 1) hx hb hr hlocks rfl hP hS dX5_readItem_67
  have hm := it_n c_4_5 hm
  rcases Decidable.em (r_1 = 6) with c_4_6 | c_4_6
  · have hm := it_s c_4_6 hm
    refine lv_tableIn (tgt := 68) hx hb dX5_readItem_4 (by rw [c_4_6]; decide) (by rw [c_4_6]; decide) (by rw [c_4_6]; rfl) (by decide) ?_
    refine lv_aload_n hx hb dX5_readItem_68 rfl (lv_at hl 0 rfl) ?_
    refine lv_dup hx hb dX5_readItem_69 rfl ?_
    refine gf_X5_43 (v := .int vT_tf) hx hb hts hown hK hN hP 0 rfl rfl dX5_readItem_70 ?_
    refine lv_iconst (v := 1) hx hb dX5_readItem_73 (by decide) ?_
    refine lv_iadd hx hb dX5_readItem_74 ?_
    refine pf_X5_43 hx hb hts hown hK hN hP hD hS 0 rfl dX5_readItem_75 (fun H locs hP hD hS => ?_)
    have hP : va_P D vwCl (wd_X5_readItem cI cZ AT AT_tx AT_tk AT_it AT_tk_c AT_it_c vT_pl vT_nw vT_ts (vT_tf + 1) vT_tk_n fT_tk_c vT_it_n fT_it_c) H := hP
    have hD : va_D A (wd_X5_readItem cI cZ AT AT_tx AT_tk AT_it AT_tk_c AT_it_c vT_pl vT_nw vT_ts (vT_tf + 1) vT_tk_n fT_tk_c vT_it_n fT_it_c) := hD
    refine lv_aload_n hx hb dX5_readItem_78 rfl (lv_at hl 0 rfl) ?_
    refine gf_X5_43 (v := .int (vT_tf + 1)) hx hb hts hown hK hN hP 0 rfl rfl dX5_readItem_79 ?_
    refine lv_bipush (v := 6) hx hb dX5_readItem_82 (by decide) ?_
    refine lv_icmp_gt (tgt := 98) hx hb dX5_readItem_84 (by decide) (fun c_84 => ?_) (fun c_84 => ?_)
    · have hm := it_s c_84 hm
      refine lv_iconst (v := 0) hx hb dX5_readItem_98 (by decide) ?_
      have hm := Option.some.inj hm
      subst hm
      exact q_zret (v := 0) hx hb hr hlocks rfl hP hS dX5_readItem_99
    · have hm := it_n c_84 hm
      refine lv_aload_n hx hb dX5_readItem_87 rfl (lv_at hl 0 rfl) ?_
      obtain ⟨r_88, hc_88, hm⟩ := ob_s hm
      refine q_ci (q_rv (rest := []) ⟨hx, hb, hml, hown, hts⟩ hK hN hP hD (c_X5_readFlower l D cI cZ H.size AT AT_tx AT_tk AT_it AT_tk_c AT_it_c vT_pl vT_nw vT_ts (vT_tf + 1) vT_tk_n fT_tk_c vT_it_n fT_it_c r_88 hc_88) mb_X5_readFlower mv_X5_readFlower wl_X5_82 [0, 1, 2, 3, 4] rfl rfl rfl (Nat.le_of_ble_eq_true rfl) (Nat.le_of_ble_eq_true rfl) rfl hl.1 rfl (Nat.le_of_ble_eq_true rfl) ⟨Nat.le_refl 0, Nat.le_refl 0⟩ dX5_readItem_88) hP hD hS hA [0, 1, 2, 3, 4] rfl rfl (fun H locs hP hD hS => ?_)
      have hP : va_P D vwCl (wd_X5_readItem cI cZ AT AT_tx AT_tk AT_it AT_tk_c AT_it_c vT_pl r_88.2.1 vT_ts (vT_tf + 1) vT_tk_n fT_tk_c r_88.2.2.1 r_88.2.2.2) H := hP
      have hD : va_D A (wd_X5_readItem cI cZ AT AT_tx AT_tk AT_it AT_tk_c AT_it_c vT_pl r_88.2.1 vT_ts (vT_tf + 1) vT_tk_n fT_tk_c r_88.2.2.1 r_88.2.2.2) := hD
      refine lv_if_eq (tgt := 98) hx hb dX5_readItem_91 (by decide) (fun c_91 => ?_) (fun c_91 => ?_)
      · have hm := it_s c_91 hm
        refine lv_iconst (v := 0) hx hb dX5_readItem_98 (by decide) ?_
        have hm := Option.some.inj hm
        subst hm
        exact q_zret (v := 0) hx hb hr hlocks rfl hP hS dX5_readItem_99
      · have hm := it_n c_91 hm
        refine lv_iconst (v := 1) hx hb dX5_readItem_94 (by decide) ?_
        refine lv_goto (tgt := 99) hx hb dX5_readItem_95 (by decide) ?_
        have hm := Option.some.inj hm
        subst hm
        exact q_zret (v := 1) hx hb hr hlocks rfl hP hS dX5_readItem_99
  have hm := it_n c_4_6 hm
  rcases Decidable.em (r_1 = 7) with c_4_7 | c_4_7
  · have hm := it_s c_4_7 hm
    refine lv_tableIn (tgt := 100) hx hb dX5_readItem_4 (by rw [c_4_7]; decide) (by rw [c_4_7]; decide) (by rw [c_4_7]; rfl) (by decide) ?_
    refine lv_aload_n hx hb dX5_readItem_100 rfl (lv_at hl 0 rfl) ?_
    obtain ⟨r_101, hc_101, hm⟩ := ob_s hm
    refine q_ci (q_rv (rest := []) ⟨hx, hb, hml, hown, hts⟩ hK hN hP hD (c_X5_readSwap l D cI cZ H.size AT AT_tx AT_tk AT_it AT_tk_c AT_it_c vT_pl vT_nw vT_ts vT_tf vT_tk_n fT_tk_c vT_it_n fT_it_c r_101 hc_101) mb_X5_readSwap mv_X5_readSwap wl_X5_85 [0, 1, 2, 3, 4] rfl rfl rfl (Nat.le_of_ble_eq_true rfl) (Nat.le_of_ble_eq_true rfl) rfl hl.1 rfl (Nat.le_of_ble_eq_true rfl) ⟨Nat.le_refl 0, Nat.le_refl 0⟩ dX5_readItem_101) hP hD hS hA [0, 1, 2, 3, 4] rfl rfl (fun H locs hP hD hS => ?_)
    have hP : va_P D vwCl (wd_X5_readItem cI cZ AT AT_tx AT_tk AT_it AT_tk_c AT_it_c vT_pl r_101.2.1 vT_ts vT_tf vT_tk_n fT_tk_c r_101.2.2.1 r_101.2.2.2) H := hP
    have hD : va_D A (wd_X5_readItem cI cZ AT AT_tx AT_tk AT_it AT_tk_c AT_it_c vT_pl r_101.2.1 vT_ts vT_tf vT_tk_n fT_tk_c r_101.2.2.1 r_101.2.2.2) := hD
    obtain ⟨hz, hm⟩ := bz_s hm
    have hm := Option.some.inj hm
    subst hm
    exact q_zret (v := r_101.1) hx hb hr hlocks hz hP hS dX5_readItem_104
  have hm := it_n c_4_7 hm
  rcases Decidable.em (r_1 = 8) with c_4_8 | c_4_8
  · have hm := it_s c_4_8 hm
    refine lv_tableIn (tgt := 105) hx hb dX5_readItem_4 (by rw [c_4_8]; decide) (by rw [c_4_8]; decide) (by rw [c_4_8]; rfl) (by decide) ?_
    refine lv_aload_n hx hb dX5_readItem_105 rfl (lv_at hl 0 rfl) ?_
    obtain ⟨r_106, hc_106, hm⟩ := ob_s hm
    refine q_ci (q_rv (rest := []) ⟨hx, hb, hml, hown, hts⟩ hK hN hP hD (c_X5_readNights l D cI cZ H.size AT AT_tx AT_tk AT_it AT_tk_c AT_it_c vT_pl vT_nw vT_ts vT_tf vT_tk_n fT_tk_c vT_it_n fT_it_c r_106 hc_106) mb_X5_readNights mv_X5_readNights wl_X5_88 [0, 1, 2, 3, 4] rfl rfl rfl (Nat.le_of_ble_eq_true rfl) (Nat.le_of_ble_eq_true rfl) rfl hl.1 rfl (Nat.le_of_ble_eq_true rfl) ⟨Nat.le_refl 0, Nat.le_refl 0⟩ dX5_readItem_106) hP hD hS hA [0, 1, 2, 3, 4] rfl rfl (fun H locs hP hD hS => ?_)
    have hP : va_P D vwCl (wd_X5_readItem cI cZ AT AT_tx AT_tk AT_it AT_tk_c AT_it_c vT_pl r_106.2.1 vT_ts vT_tf vT_tk_n fT_tk_c r_106.2.2.1 r_106.2.2.2) H := hP
    have hD : va_D A (wd_X5_readItem cI cZ AT AT_tx AT_tk AT_it AT_tk_c AT_it_c vT_pl r_106.2.1 vT_ts vT_tf vT_tk_n fT_tk_c r_106.2.2.1 r_106.2.2.2) := hD
    obtain ⟨hz, hm⟩ := bz_s hm
    have hm := Option.some.inj hm
    subst hm
    exact q_zret (v := r_106.1) hx hb hr hlocks hz hP hS dX5_readItem_109
  have hm := it_n c_4_8 hm
  have ht_0 := lv_neT c_4_5 (show (5 : Int32).toInt = 5 by decide)
  have ht_1 := lv_neT c_4_6 (show (6 : Int32).toInt = 6 by decide)
  have ht_2 := lv_neT c_4_7 (show (7 : Int32).toInt = 7 by decide)
  have ht_3 := lv_neT c_4_8 (show (8 : Int32).toInt = 8 by decide)
  refine lv_tableOut (tgt := 110) hx hb dX5_readItem_4 (by omega) (by decide) ?_
  refine lv_iconst (v := 0) hx hb dX5_readItem_110 (by decide) ?_
  have hm := Option.some.inj hm
  subst hm
  exact q_zret (v := 0) hx hb hr hlocks rfl hP hS dX5_readItem_111
theorem gf_X5_9 {p : Program} {l : Launch} {e : Env} {R : Room} {s : State} {m : MethodId} {args : Array Value} {below : List Frame} {meth : Method} {c : Code} {H : Heap} {locs : List Loc} {cells slots : Nat} {Q : State → Prop} {pc : Nat} {ls : Array Slot} {cc : ByteArray} {D : va_G} {cI cZ : ClassId} {ws : va_W} {a : Nat} {rest fs : List Value} (hx : p.tables.exec = Jvm.exec) (hb : c.code = cc) (hts : ∀ w ∈ bg, w.before args s = true) (hown : s.vm.findClass RX5 = some m.cls) (hK : va_K D vwCl (q_tys cI cZ) s) (hN : q_N s) (hP : va_P D vwCl ws H) (q0 : Nat) (he : ws[q0]? = some (a, .inr (5, fs))) {v : Value} (hv : fs[0]? = some v) (hdg : decode cc pc = .ok (.getfield 9, 3)) (kk : W p l e R s m args below meth c H locs cells slots Q (F0 m (pc + 3) ls (v :: rest))) : W p l e R s m args below meth c H locs cells slots Q (F0 m pc ls (.ref a :: rest)) :=
  va_get (C := RX5) (T := TX5) (N := 7) hx hb hts wu_X5 hown hK hP q0 he rfl 0 (by decide) (hts _ wf_X5_9) (fun _ h9 => h9) hv hdg kk
theorem gf_X5_107 {p : Program} {l : Launch} {e : Env} {R : Room} {s : State} {m : MethodId} {args : Array Value} {below : List Frame} {meth : Method} {c : Code} {H : Heap} {locs : List Loc} {cells slots : Nat} {Q : State → Prop} {pc : Nat} {ls : Array Slot} {cc : ByteArray} {D : va_G} {cI cZ : ClassId} {ws : va_W} {a : Nat} {rest fs : List Value} (hx : p.tables.exec = Jvm.exec) (hb : c.code = cc) (hts : ∀ w ∈ bg, w.before args s = true) (hown : s.vm.findClass RX5 = some m.cls) (hK : va_K D vwCl (q_tys cI cZ) s) (hN : q_N s) (hP : va_P D vwCl ws H) (q0 : Nat) (he : ws[q0]? = some (a, .inr (5, fs))) {v : Value} (hv : fs[3]? = some v) (hdg : decode cc pc = .ok (.getfield 107, 3)) (kk : W p l e R s m args below meth c H locs cells slots Q (F0 m (pc + 3) ls (v :: rest))) : W p l e R s m args below meth c H locs cells slots Q (F0 m pc ls (.ref a :: rest)) :=
  va_get (C := RX5) (T := TX5) (N := 7) hx hb hts wu_X5 hown hK hP q0 he rfl 3 (by decide) (hts _ wf_X5_107) (fun _ h9 => h9) hv hdg kk
theorem mb_X5_isFigure : q_mb yX5_isFigure cX5_isFigure 1 (some .boolean) 0 := ⟨wc_X5_isFigure, wn_X5, by decide, by decide, by decide +kernel⟩
theorem mv_X5_isFigure : q_mv yX5_isFigure 5 := ⟨wi_X5_isFigure, ws_X5_isFigure, _, rfl, rfl⟩
def wd_X5_isFigure (cI cZ : ClassId) (AT AT_tx AT_tk AT_it AT_tx_c : Nat) (vT_pl : Int32) (vT_nw : Int32) (vT_ts : Int32) (vT_tf : Int32) (vT_tx_n : Int32) (fT_tx_c : Nat → Int32) : va_W := [(AT, .inr (5, [.ref AT_tx, .ref AT_tk, .ref AT_it, .int vT_pl, .int vT_nw, .int vT_ts, .int vT_tf])), (AT_tx, .inr (3, [.int 1, .ref AT_tx_c, .int vT_tx_n])), (AT_tx_c, .inl (cI, 150, .inl fT_tx_c))]
def fm_X5_isFigure (vT_pl : Int32) (vT_tx_n : Int32) (fT_tx_c : Nat → Int32) : Option (Int32) := Option.bind (fm_X3_cell 1 150 vT_pl 0 vT_tx_n fT_tx_c) (fun r_9 => Option.bind (fm_X7_within r_9 48 57) (fun r_16 => bz r_16 (some (r_16))))
set_option maxHeartbeats 4000000 in
set_option maxRecDepth 100000 in
theorem c_X5_isFigure (l : Launch) (D : va_G) (cI cZ : ClassId) (sz : Nat) (AT AT_tx AT_tk AT_it AT_tx_c : Nat) (vT_pl : Int32) (vT_nw : Int32) (vT_ts : Int32) (vT_tf : Int32) (vT_tx_n : Int32) (fT_tx_c : Nat → Int32) (out : (Int32)) (hm : fm_X5_isFigure vT_pl vT_tx_n fT_tx_c = some out) : Met l yX5_isFigure (Cond.code yX5_isFigure cX5_isFigure 1 (some .boolean) :: bg) { frames := 1, cells := 0, slots := 0, locals := 24 } (va_Pc [.ref AT] (q_pre D cI cZ sz (wd_X5_isFigure cI cZ AT AT_tx AT_tk AT_it AT_tx_c vT_pl vT_nw vT_ts vT_tf vT_tx_n fT_tx_c))) (q_Qi D (wd_X5_isFigure cI cZ AT AT_tx AT_tk AT_it AT_tx_c vT_pl vT_nw vT_ts vT_tf vT_tx_n fT_tx_c) out (va_A (wd_X5_isFigure cI cZ AT AT_tx AT_tk AT_it AT_tx_c vT_pl vT_nw vT_ts vT_tf vT_tx_n fT_tx_c) sz)) 0 0 (va_A (wd_X5_isFigure cI cZ AT AT_tx AT_tk AT_it AT_tx_c vT_pl vT_nw vT_ts vT_tf vT_tx_n fT_tx_c) sz) := by
  refine q_met (fun A => q_Qi D (wd_X5_isFigure cI cZ AT AT_tx AT_tk AT_it AT_tx_c vT_pl vT_nw vT_ts vT_tf vT_tx_n fT_tx_c) out A) (by decide) (Nat.le_of_ble_eq_true rfl) ?_
  intro p e s m below meth c ls A hx hb hr hml hown hts hlocks _ hA hS hP hD hK hN hl
  have hown : s.vm.findClass RX5 = some m.cls := hown
  have hl : lv_has ls 1 [(0, .ref AT)] := hl
  unfold fm_X5_isFigure at hm
  refine q_gen hS hP ?_
  intro H locs hP hS
  refine lv_aload_n hx hb dX5_isFigure_0 rfl (lv_at hl 0 rfl) ?_
  refine gf_X5_9 (v := .ref AT_tx) hx hb hts hown hK hN hP 0 rfl rfl dX5_isFigure_1 ?_
  refine lv_aload_n hx hb dX5_isFigure_4 rfl (lv_at hl 0 rfl) ?_
  refine gf_X5_107 (v := .int vT_pl) hx hb hts hown hK hN hP 0 rfl rfl dX5_isFigure_5 ?_
  refine lv_iconst (v := 0) hx hb dX5_isFigure_8 (by decide) ?_
  obtain ⟨r_9, hc_9, hm⟩ := ob_s hm
  refine q_ci (q_rv (rest := []) ⟨hx, hb, hml, hown, hts⟩ hK hN hP hD (c_X3_cell l D cI cZ H.size AT_tx AT_tx_c 1 150 vT_tx_n fT_tx_c vT_pl 0 r_9 hc_9) mb_X3_cell mv_X3_cell wl_X5_30 [1, 2] rfl rfl rfl (Nat.le_of_ble_eq_true rfl) (Nat.le_of_ble_eq_true rfl) rfl hl.1 rfl (Nat.le_of_ble_eq_true rfl) ⟨Nat.le_refl 0, Nat.le_refl 0⟩ dX5_isFigure_9) hP hD hS hA [1, 2] rfl rfl (fun H locs hP hD hS => ?_)
  have hP : va_P D vwCl (wd_X5_isFigure cI cZ AT AT_tx AT_tk AT_it AT_tx_c vT_pl vT_nw vT_ts vT_tf vT_tx_n fT_tx_c) H := hP
  have hD : va_D A (wd_X5_isFigure cI cZ AT AT_tx AT_tk AT_it AT_tx_c vT_pl vT_nw vT_ts vT_tf vT_tx_n fT_tx_c) := hD
  refine lv_bipush (v := 48) hx hb dX5_isFigure_12 (by decide) ?_
  refine lv_bipush (v := 57) hx hb dX5_isFigure_14 (by decide) ?_
  obtain ⟨r_16, hc_16, hm⟩ := ob_s hm
  refine q_ci (q_rn (rest := []) ⟨hx, hb, hml, hown, hts⟩ hK hN hP hD (c_X7_within l D cI cZ H.size r_9 48 57 r_16 hc_16) mb_X7_within wt_X7_within (nl_X5_103 hN) [] rfl rfl (Nat.le_of_ble_eq_true rfl) (Nat.le_of_ble_eq_true rfl) rfl hl.1 rfl (Nat.le_of_ble_eq_true rfl) ⟨Nat.le_refl 0, Nat.le_refl 0⟩ dX5_isFigure_16) hP hD hS hA [] rfl rfl (fun H locs hP hD hS => ?_)
  have hP : va_P D vwCl (wd_X5_isFigure cI cZ AT AT_tx AT_tk AT_it AT_tx_c vT_pl vT_nw vT_ts vT_tf vT_tx_n fT_tx_c) H := hP
  have hD : va_D A (wd_X5_isFigure cI cZ AT AT_tx AT_tk AT_it AT_tx_c vT_pl vT_nw vT_ts vT_tf vT_tx_n fT_tx_c) := hD
  obtain ⟨hz, hm⟩ := bz_s hm
  have hm := Option.some.inj hm
  subst hm
  exact q_zret (v := r_16) hx hb hr hlocks hz hP hS dX5_isFigure_19
theorem mb_X5_isLetter : q_mb yX5_isLetter cX5_isLetter 1 (some .boolean) 0 := ⟨wc_X5_isLetter, wn_X5, by decide, by decide, by decide +kernel⟩
theorem mv_X5_isLetter : q_mv yX5_isLetter 5 := ⟨wi_X5_isLetter, ws_X5_isLetter, _, rfl, rfl⟩
def wd_X5_isLetter (cI cZ : ClassId) (AT AT_tx AT_tk AT_it AT_tx_c : Nat) (vT_pl : Int32) (vT_nw : Int32) (vT_ts : Int32) (vT_tf : Int32) (vT_tx_n : Int32) (fT_tx_c : Nat → Int32) : va_W := [(AT, .inr (5, [.ref AT_tx, .ref AT_tk, .ref AT_it, .int vT_pl, .int vT_nw, .int vT_ts, .int vT_tf])), (AT_tx, .inr (3, [.int 1, .ref AT_tx_c, .int vT_tx_n])), (AT_tx_c, .inl (cI, 150, .inl fT_tx_c))]
def fm_X5_isLetter (vT_pl : Int32) (vT_tx_n : Int32) (fT_tx_c : Nat → Int32) : Option (Int32) := Option.bind (fm_X3_cell 1 150 vT_pl 0 vT_tx_n fT_tx_c) (fun r_9 => Option.bind (fm_X7_within r_9 97 122) (fun r_16 => bz r_16 (some (r_16))))
set_option maxHeartbeats 4000000 in
set_option maxRecDepth 100000 in
theorem c_X5_isLetter (l : Launch) (D : va_G) (cI cZ : ClassId) (sz : Nat) (AT AT_tx AT_tk AT_it AT_tx_c : Nat) (vT_pl : Int32) (vT_nw : Int32) (vT_ts : Int32) (vT_tf : Int32) (vT_tx_n : Int32) (fT_tx_c : Nat → Int32) (out : (Int32)) (hm : fm_X5_isLetter vT_pl vT_tx_n fT_tx_c = some out) : Met l yX5_isLetter (Cond.code yX5_isLetter cX5_isLetter 1 (some .boolean) :: bg) { frames := 1, cells := 0, slots := 0, locals := 24 } (va_Pc [.ref AT] (q_pre D cI cZ sz (wd_X5_isLetter cI cZ AT AT_tx AT_tk AT_it AT_tx_c vT_pl vT_nw vT_ts vT_tf vT_tx_n fT_tx_c))) (q_Qi D (wd_X5_isLetter cI cZ AT AT_tx AT_tk AT_it AT_tx_c vT_pl vT_nw vT_ts vT_tf vT_tx_n fT_tx_c) out (va_A (wd_X5_isLetter cI cZ AT AT_tx AT_tk AT_it AT_tx_c vT_pl vT_nw vT_ts vT_tf vT_tx_n fT_tx_c) sz)) 0 0 (va_A (wd_X5_isLetter cI cZ AT AT_tx AT_tk AT_it AT_tx_c vT_pl vT_nw vT_ts vT_tf vT_tx_n fT_tx_c) sz) := by
  refine q_met (fun A => q_Qi D (wd_X5_isLetter cI cZ AT AT_tx AT_tk AT_it AT_tx_c vT_pl vT_nw vT_ts vT_tf vT_tx_n fT_tx_c) out A) (by decide) (Nat.le_of_ble_eq_true rfl) ?_
  intro p e s m below meth c ls A hx hb hr hml hown hts hlocks _ hA hS hP hD hK hN hl
  have hown : s.vm.findClass RX5 = some m.cls := hown
  have hl : lv_has ls 1 [(0, .ref AT)] := hl
  unfold fm_X5_isLetter at hm
  refine q_gen hS hP ?_
  intro H locs hP hS
  refine lv_aload_n hx hb dX5_isLetter_0 rfl (lv_at hl 0 rfl) ?_
  refine gf_X5_9 (v := .ref AT_tx) hx hb hts hown hK hN hP 0 rfl rfl dX5_isLetter_1 ?_
  refine lv_aload_n hx hb dX5_isLetter_4 rfl (lv_at hl 0 rfl) ?_
  refine gf_X5_107 (v := .int vT_pl) hx hb hts hown hK hN hP 0 rfl rfl dX5_isLetter_5 ?_
  refine lv_iconst (v := 0) hx hb dX5_isLetter_8 (by decide) ?_
  obtain ⟨r_9, hc_9, hm⟩ := ob_s hm
  refine q_ci (q_rv (rest := []) ⟨hx, hb, hml, hown, hts⟩ hK hN hP hD (c_X3_cell l D cI cZ H.size AT_tx AT_tx_c 1 150 vT_tx_n fT_tx_c vT_pl 0 r_9 hc_9) mb_X3_cell mv_X3_cell wl_X5_30 [1, 2] rfl rfl rfl (Nat.le_of_ble_eq_true rfl) (Nat.le_of_ble_eq_true rfl) rfl hl.1 rfl (Nat.le_of_ble_eq_true rfl) ⟨Nat.le_refl 0, Nat.le_refl 0⟩ dX5_isLetter_9) hP hD hS hA [1, 2] rfl rfl (fun H locs hP hD hS => ?_)
  have hP : va_P D vwCl (wd_X5_isLetter cI cZ AT AT_tx AT_tk AT_it AT_tx_c vT_pl vT_nw vT_ts vT_tf vT_tx_n fT_tx_c) H := hP
  have hD : va_D A (wd_X5_isLetter cI cZ AT AT_tx AT_tk AT_it AT_tx_c vT_pl vT_nw vT_ts vT_tf vT_tx_n fT_tx_c) := hD
  refine lv_bipush (v := 97) hx hb dX5_isLetter_12 (by decide) ?_
  refine lv_bipush (v := 122) hx hb dX5_isLetter_14 (by decide) ?_
  obtain ⟨r_16, hc_16, hm⟩ := ob_s hm
  refine q_ci (q_rn (rest := []) ⟨hx, hb, hml, hown, hts⟩ hK hN hP hD (c_X7_within l D cI cZ H.size r_9 97 122 r_16 hc_16) mb_X7_within wt_X7_within (nl_X5_103 hN) [] rfl rfl (Nat.le_of_ble_eq_true rfl) (Nat.le_of_ble_eq_true rfl) rfl hl.1 rfl (Nat.le_of_ble_eq_true rfl) ⟨Nat.le_refl 0, Nat.le_refl 0⟩ dX5_isLetter_16) hP hD hS hA [] rfl rfl (fun H locs hP hD hS => ?_)
  have hP : va_P D vwCl (wd_X5_isLetter cI cZ AT AT_tx AT_tk AT_it AT_tx_c vT_pl vT_nw vT_ts vT_tf vT_tx_n fT_tx_c) H := hP
  have hD : va_D A (wd_X5_isLetter cI cZ AT AT_tx AT_tk AT_it AT_tx_c vT_pl vT_nw vT_ts vT_tf vT_tx_n fT_tx_c) := hD
  obtain ⟨hz, hm⟩ := bz_s hm
  have hm := Option.some.inj hm
  subst hm
  exact q_zret (v := r_16) hx hb hr hlocks hz hP hS dX5_isLetter_19
theorem pf_X5_107 {p : Program} {l : Launch} {e : Env} {R : Room} {s : State} {m : MethodId} {args : Array Value} {below : List Frame} {meth : Method} {c : Code} {H : Heap} {locs : List Loc} {cells slots : Nat} {Q : State → Prop} {pc : Nat} {ls : Array Slot} {cc : ByteArray} {D : va_G} {cI cZ : ClassId} {ws : va_W} {A : Nat → Prop} {a : Nat} {rest fs : List Value} {x : Int32} (hx : p.tables.exec = Jvm.exec) (hb : c.code = cc) (hts : ∀ w ∈ bg, w.before args s = true) (hown : s.vm.findClass RX5 = some m.cls) (hK : va_K D vwCl (q_tys cI cZ) s) (hN : q_N s) (hP : va_P D vwCl ws H) (hD : va_D A ws) (hS : va_S A s.heap H locs) (q0 : Nat) (he : ws[q0]? = some (a, .inr (5, fs))) (hdg : decode cc pc = .ok (.putfield 107, 3)) (kk : ∀ (H1 : Heap) (locs1 : List Loc), va_P D vwCl (ws.set q0 (a, .inr (5, fs.set 3 (.int x)))) H1 → va_D A (ws.set q0 (a, .inr (5, fs.set 3 (.int x)))) → va_S A s.heap H1 locs1 → W p l e R s m args below meth c H1 locs1 cells slots Q (F0 m (pc + 3) ls rest)) (hl : 3 < fs.length := by exact Nat.le_of_ble_eq_true rfl) : W p l e R s m args below meth c H locs cells slots Q (F0 m pc ls (.int x :: .ref a :: rest)) :=
  va_put (C := RX5) (T := TX5) (N := 7) (ty := .int) hx hb hts wu_X5 tyX5 tyX5_ok nmX5 hown hK hP hD hS q0 he rfl 3 (by decide) (hts _ wf_X5_107) (fun _ h9 => h9) rfl (by decide +kernel) rfl rfl hl hdg kk
theorem mb_X5_takeNumber : q_mb yX5_takeNumber cX5_takeNumber 3 none 0 := ⟨wc_X5_takeNumber, wn_X5, by decide, by decide, by decide +kernel⟩
theorem mv_X5_takeNumber : q_mv yX5_takeNumber 5 := ⟨wi_X5_takeNumber, ws_X5_takeNumber, _, rfl, rfl⟩
def wd_X5_takeNumber (cI cZ : ClassId) (AT AT_tx AT_tk AT_it AT_tx_c AT_tk_c : Nat) (vT_pl : Int32) (vT_nw : Int32) (vT_ts : Int32) (vT_tf : Int32) (vT_tx_n : Int32) (vT_tk_n : Int32) (fT_tk_c : Nat → Int32) (fT_tx_c : Nat → Int32) : va_W := [(AT, .inr (5, [.ref AT_tx, .ref AT_tk, .ref AT_it, .int vT_pl, .int vT_nw, .int vT_ts, .int vT_tf])), (AT_tx, .inr (3, [.int 1, .ref AT_tx_c, .int vT_tx_n])), (AT_tk, .inr (3, [.int 3, .ref AT_tk_c, .int vT_tk_n])), (AT_tk_c, .inl (cI, 453, .inl fT_tk_c)), (AT_tx_c, .inl (cI, 150, .inl fT_tx_c))]
def fL_X5_takeNumber_7 (vT_tx_n : Int32) (fT_tx_c : Nat → Int32) : Nat → Int32 → Int32 → Int32 → Int32 → (Nat → Int32) → Option (Int32 × Int32 × (Nat → Int32))
  | 0, _, _, _, _, _ => none
  | fu + 1, x2, x1, vT_pl, vT_tk_n, fT_tk_c => Option.bind (fm_X3_size vT_tx_n) (fun r_15 => if r_15 ≤ vT_pl then (if 2 < (vT_pl - x1) then (Option.bind (fm_X3_add 3 453 1 x1 x2 0 vT_tk_n fT_tk_c) (fun r_84 => some (vT_pl, r_84.1, r_84.2))) else (Option.bind (fm_X3_add 3 453 2 x1 x2 0 vT_tk_n fT_tk_c) (fun r_84 => some (vT_pl, r_84.1, r_84.2)))) else (Option.bind (fm_X5_isFigure vT_pl vT_tx_n fT_tx_c) (fun r_22 => if r_22 = 0 then (if 2 < (vT_pl - x1) then (Option.bind (fm_X3_add 3 453 1 x1 x2 0 vT_tk_n fT_tk_c) (fun r_84 => some (vT_pl, r_84.1, r_84.2))) else (Option.bind (fm_X3_add 3 453 2 x1 x2 0 vT_tk_n fT_tk_c) (fun r_84 => some (vT_pl, r_84.1, r_84.2)))) else (Option.bind (fm_X3_cell 1 150 vT_pl 0 vT_tx_n fT_tx_c) (fun r_41 => fL_X5_takeNumber_7 vT_tx_n fT_tx_c fu (((10 * x2) + r_41) - 48) x1 (vT_pl + 1) vT_tk_n fT_tk_c)))))
def fm_X5_takeNumber (vT_pl : Int32) (vT_tx_n : Int32) (vT_tk_n : Int32) (fT_tk_c : Nat → Int32) (fT_tx_c : Nat → Int32) : Option (Int32 × Int32 × (Nat → Int32)) := fL_X5_takeNumber_7 vT_tx_n fT_tx_c FU 0 vT_pl vT_pl vT_tk_n fT_tk_c
set_option maxHeartbeats 4000000 in
set_option maxRecDepth 100000 in
theorem c_X5_takeNumber (l : Launch) (D : va_G) (cI cZ : ClassId) (sz : Nat) (AT AT_tx AT_tk AT_it AT_tx_c AT_tk_c : Nat) (vT_pl : Int32) (vT_nw : Int32) (vT_ts : Int32) (vT_tf : Int32) (vT_tx_n : Int32) (vT_tk_n : Int32) (fT_tk_c : Nat → Int32) (fT_tx_c : Nat → Int32) (out : (Int32 × Int32 × (Nat → Int32))) (hm : fm_X5_takeNumber vT_pl vT_tx_n vT_tk_n fT_tk_c fT_tx_c = some out) : Met l yX5_takeNumber (Cond.code yX5_takeNumber cX5_takeNumber 3 none :: bg) { frames := 2, cells := 0, slots := 0, locals := 49 } (va_Pc [.ref AT] (q_pre D cI cZ sz (wd_X5_takeNumber cI cZ AT AT_tx AT_tk AT_it AT_tx_c AT_tk_c vT_pl vT_nw vT_ts vT_tf vT_tx_n vT_tk_n fT_tk_c fT_tx_c))) (q_Qv D (wd_X5_takeNumber cI cZ AT AT_tx AT_tk AT_it AT_tx_c AT_tk_c out.1 vT_nw vT_ts vT_tf vT_tx_n out.2.1 out.2.2 fT_tx_c) (va_A (wd_X5_takeNumber cI cZ AT AT_tx AT_tk AT_it AT_tx_c AT_tk_c vT_pl vT_nw vT_ts vT_tf vT_tx_n vT_tk_n fT_tk_c fT_tx_c) sz)) 0 0 (va_A (wd_X5_takeNumber cI cZ AT AT_tx AT_tk AT_it AT_tx_c AT_tk_c vT_pl vT_nw vT_ts vT_tf vT_tx_n vT_tk_n fT_tk_c fT_tx_c) sz) := by
  refine q_met (fun A => q_Qv D (wd_X5_takeNumber cI cZ AT AT_tx AT_tk AT_it AT_tx_c AT_tk_c out.1 vT_nw vT_ts vT_tf vT_tx_n out.2.1 out.2.2 fT_tx_c) A) (by decide) (Nat.le_of_ble_eq_true rfl) ?_
  intro p e s m below meth c ls A hx hb hr hml hown hts hlocks _ hA hS hP hD hK hN hl
  have hown : s.vm.findClass RX5 = some m.cls := hown
  have hl : lv_has ls 3 [(0, .ref AT)] := hl
  have hL_7 : ∀ (fu_7 : Nat) (x2 : Int32) (x1 : Int32) (vT_pl : Int32) (vT_tk_n : Int32) (fT_tk_c : Nat → Int32) (H : Heap) (locs : List Loc) (ls : Array Slot), fL_X5_takeNumber_7 vT_tx_n fT_tx_c fu_7 x2 x1 vT_pl vT_tk_n fT_tk_c = some out → va_P D vwCl (wd_X5_takeNumber cI cZ AT AT_tx AT_tk AT_it AT_tx_c AT_tk_c vT_pl vT_nw vT_ts vT_tf vT_tx_n vT_tk_n fT_tk_c fT_tx_c) H → va_D A (wd_X5_takeNumber cI cZ AT AT_tx AT_tk AT_it AT_tx_c AT_tk_c vT_pl vT_nw vT_ts vT_tf vT_tx_n vT_tk_n fT_tk_c fT_tx_c) → va_S A s.heap H locs → lv_has ls 3 [(2, .int x2), (1, .int x1), (0, .ref AT)] → W p l e { frames := 2, cells := 0, slots := 0, locals := 49 } s m ([.ref AT] : List Value).toArray below meth c H locs 0 0 (MQ below (q_Qv D (wd_X5_takeNumber cI cZ AT AT_tx AT_tk AT_it AT_tx_c AT_tk_c out.1 vT_nw vT_ts vT_tf vT_tx_n out.2.1 out.2.2 fT_tx_c) A) ([.ref AT] : List Value).toArray s 0 0 A) (F0 m 7 ls []) := by
    intro fu_7
    induction fu_7 with
    | zero => intro x2 x1 vT_pl vT_tk_n fT_tk_c H locs ls hm hP hD hS hl; exact absurd (show (none : Option (Int32 × Int32 × (Nat → Int32))) = some out from hm) (fun h => nomatch h)
    | succ fu_7 ih_7 =>
      intro x2 x1 vT_pl vT_tk_n fT_tk_c H locs ls hm hP hD hS hl
      rw [fL_X5_takeNumber_7] at hm
      refine lv_aload_n hx hb dX5_takeNumber_7 rfl (lv_at hl 2 rfl) ?_
      refine gf_X5_107 (v := .int vT_pl) hx hb hts hown hK hN hP 0 rfl rfl dX5_takeNumber_8 ?_
      refine lv_aload_n hx hb dX5_takeNumber_11 rfl (lv_at hl 2 rfl) ?_
      refine gf_X5_9 (v := .ref AT_tx) hx hb hts hown hK hN hP 0 rfl rfl dX5_takeNumber_12 ?_
      obtain ⟨r_15, hc_15, hm⟩ := ob_s hm
      refine q_ci (q_rv (rest := [.int vT_pl]) ⟨hx, hb, hml, hown, hts⟩ hK hN hP hD (c_X3_size l D cI cZ H.size AT_tx AT_tx_c 1 vT_tx_n r_15 hc_15) mb_X3_size mv_X3_size wl_X5_54 [1] rfl rfl rfl (Nat.le_of_ble_eq_true rfl) (Nat.le_of_ble_eq_true rfl) rfl hl.1 rfl (Nat.le_of_ble_eq_true rfl) ⟨Nat.le_refl 0, Nat.le_refl 0⟩ dX5_takeNumber_15) hP hD hS hA [1] rfl rfl (fun H locs hP hD hS => ?_)
      have hP : va_P D vwCl (wd_X5_takeNumber cI cZ AT AT_tx AT_tk AT_it AT_tx_c AT_tk_c vT_pl vT_nw vT_ts vT_tf vT_tx_n vT_tk_n fT_tk_c fT_tx_c) H := hP
      have hD : va_D A (wd_X5_takeNumber cI cZ AT AT_tx AT_tk AT_it AT_tx_c AT_tk_c vT_pl vT_nw vT_ts vT_tf vT_tx_n vT_tk_n fT_tk_c fT_tx_c) := hD
      refine lv_icmp_ge (tgt := 62) hx hb dX5_takeNumber_18 (by decide) (fun c_18 => ?_) (fun c_18 => ?_)
      · have hm := it_s c_18 hm
        refine lv_aload_n hx hb dX5_takeNumber_62 rfl (lv_at hl 2 rfl) ?_
        refine gf_X5_20 (v := .ref AT_tk) hx hb hts hown hK hN hP 0 rfl rfl dX5_takeNumber_63 ?_
        refine lv_aload_n hx hb dX5_takeNumber_66 rfl (lv_at hl 2 rfl) ?_
        refine gf_X5_107 (v := .int vT_pl) hx hb hts hown hK hN hP 0 rfl rfl dX5_takeNumber_67 ?_
        refine lv_iload_n hx hb dX5_takeNumber_70 rfl (lv_at hl 1 rfl) ?_
        refine lv_isub hx hb dX5_takeNumber_71 ?_
        refine lv_iconst (v := 2) hx hb dX5_takeNumber_72 (by decide) ?_
        refine lv_icmp_gt (tgt := 80) hx hb dX5_takeNumber_73 (by decide) (fun c_73 => ?_) (fun c_73 => ?_)
        · have hm := it_s c_73 hm
          refine lv_iconst (v := 1) hx hb dX5_takeNumber_80 (by decide) ?_
          refine lv_iload_n hx hb dX5_takeNumber_81 rfl (lv_at hl 1 rfl) ?_
          refine lv_iload_n hx hb dX5_takeNumber_82 rfl (lv_at hl 0 rfl) ?_
          refine lv_iconst (v := 0) hx hb dX5_takeNumber_83 (by decide) ?_
          obtain ⟨r_84, hc_84, hm⟩ := ob_s hm
          refine q_cv (q_rv (rest := []) ⟨hx, hb, hml, hown, hts⟩ hK hN hP hD (c_X3_add l D cI cZ H.size AT_tk AT_tk_c 3 453 vT_tk_n fT_tk_c 1 x1 x2 0 r_84 hc_84) mb_X3_add mv_X3_add wl_X5_99 [2, 3] rfl rfl rfl (Nat.le_of_ble_eq_true rfl) (Nat.le_of_ble_eq_true rfl) rfl hl.1 rfl (Nat.le_of_ble_eq_true rfl) ⟨Nat.le_refl 0, Nat.le_refl 0⟩ dX5_takeNumber_84) hP hD hS hA [2, 3] rfl rfl (fun H locs hP hD hS => ?_)
          have hP : va_P D vwCl (wd_X5_takeNumber cI cZ AT AT_tx AT_tk AT_it AT_tx_c AT_tk_c vT_pl vT_nw vT_ts vT_tf vT_tx_n r_84.1 r_84.2 fT_tx_c) H := hP
          have hD : va_D A (wd_X5_takeNumber cI cZ AT AT_tx AT_tk AT_it AT_tx_c AT_tk_c vT_pl vT_nw vT_ts vT_tf vT_tx_n r_84.1 r_84.2 fT_tx_c) := hD
          have hm := Option.some.inj hm
          subst hm
          exact q_vret hx hb hr hlocks hP hS dX5_takeNumber_87
        · have hm := it_n c_73 hm
          refine lv_iconst (v := 2) hx hb dX5_takeNumber_76 (by decide) ?_
          refine lv_goto (tgt := 81) hx hb dX5_takeNumber_77 (by decide) ?_
          refine lv_iload_n hx hb dX5_takeNumber_81 rfl (lv_at hl 1 rfl) ?_
          refine lv_iload_n hx hb dX5_takeNumber_82 rfl (lv_at hl 0 rfl) ?_
          refine lv_iconst (v := 0) hx hb dX5_takeNumber_83 (by decide) ?_
          obtain ⟨r_84, hc_84, hm⟩ := ob_s hm
          refine q_cv (q_rv (rest := []) ⟨hx, hb, hml, hown, hts⟩ hK hN hP hD (c_X3_add l D cI cZ H.size AT_tk AT_tk_c 3 453 vT_tk_n fT_tk_c 2 x1 x2 0 r_84 hc_84) mb_X3_add mv_X3_add wl_X5_99 [2, 3] rfl rfl rfl (Nat.le_of_ble_eq_true rfl) (Nat.le_of_ble_eq_true rfl) rfl hl.1 rfl (Nat.le_of_ble_eq_true rfl) ⟨Nat.le_refl 0, Nat.le_refl 0⟩ dX5_takeNumber_84) hP hD hS hA [2, 3] rfl rfl (fun H locs hP hD hS => ?_)
          have hP : va_P D vwCl (wd_X5_takeNumber cI cZ AT AT_tx AT_tk AT_it AT_tx_c AT_tk_c vT_pl vT_nw vT_ts vT_tf vT_tx_n r_84.1 r_84.2 fT_tx_c) H := hP
          have hD : va_D A (wd_X5_takeNumber cI cZ AT AT_tx AT_tk AT_it AT_tx_c AT_tk_c vT_pl vT_nw vT_ts vT_tf vT_tx_n r_84.1 r_84.2 fT_tx_c) := hD
          have hm := Option.some.inj hm
          subst hm
          exact q_vret hx hb hr hlocks hP hS dX5_takeNumber_87
      · have hm := it_n c_18 hm
        refine lv_aload_n hx hb dX5_takeNumber_21 rfl (lv_at hl 2 rfl) ?_
        obtain ⟨r_22, hc_22, hm⟩ := ob_s hm
        refine q_ci (q_rv (rest := []) ⟨hx, hb, hml, hown, hts⟩ hK hN hP hD (c_X5_isFigure l D cI cZ H.size AT AT_tx AT_tk AT_it AT_tx_c vT_pl vT_nw vT_ts vT_tf vT_tx_n fT_tx_c r_22 hc_22) mb_X5_isFigure mv_X5_isFigure wl_X5_116 [0, 1, 4] rfl rfl rfl (Nat.le_of_ble_eq_true rfl) (Nat.le_of_ble_eq_true rfl) rfl hl.1 rfl (Nat.le_of_ble_eq_true rfl) ⟨Nat.le_refl 0, Nat.le_refl 0⟩ dX5_takeNumber_22) hP hD hS hA [0, 1, 4] rfl rfl (fun H locs hP hD hS => ?_)
        have hP : va_P D vwCl (wd_X5_takeNumber cI cZ AT AT_tx AT_tk AT_it AT_tx_c AT_tk_c vT_pl vT_nw vT_ts vT_tf vT_tx_n vT_tk_n fT_tk_c fT_tx_c) H := hP
        have hD : va_D A (wd_X5_takeNumber cI cZ AT AT_tx AT_tk AT_it AT_tx_c AT_tk_c vT_pl vT_nw vT_ts vT_tf vT_tx_n vT_tk_n fT_tk_c fT_tx_c) := hD
        refine lv_if_eq (tgt := 62) hx hb dX5_takeNumber_25 (by decide) (fun c_25 => ?_) (fun c_25 => ?_)
        · have hm := it_s c_25 hm
          refine lv_aload_n hx hb dX5_takeNumber_62 rfl (lv_at hl 2 rfl) ?_
          refine gf_X5_20 (v := .ref AT_tk) hx hb hts hown hK hN hP 0 rfl rfl dX5_takeNumber_63 ?_
          refine lv_aload_n hx hb dX5_takeNumber_66 rfl (lv_at hl 2 rfl) ?_
          refine gf_X5_107 (v := .int vT_pl) hx hb hts hown hK hN hP 0 rfl rfl dX5_takeNumber_67 ?_
          refine lv_iload_n hx hb dX5_takeNumber_70 rfl (lv_at hl 1 rfl) ?_
          refine lv_isub hx hb dX5_takeNumber_71 ?_
          refine lv_iconst (v := 2) hx hb dX5_takeNumber_72 (by decide) ?_
          refine lv_icmp_gt (tgt := 80) hx hb dX5_takeNumber_73 (by decide) (fun c_73 => ?_) (fun c_73 => ?_)
          · have hm := it_s c_73 hm
            refine lv_iconst (v := 1) hx hb dX5_takeNumber_80 (by decide) ?_
            refine lv_iload_n hx hb dX5_takeNumber_81 rfl (lv_at hl 1 rfl) ?_
            refine lv_iload_n hx hb dX5_takeNumber_82 rfl (lv_at hl 0 rfl) ?_
            refine lv_iconst (v := 0) hx hb dX5_takeNumber_83 (by decide) ?_
            obtain ⟨r_84, hc_84, hm⟩ := ob_s hm
            refine q_cv (q_rv (rest := []) ⟨hx, hb, hml, hown, hts⟩ hK hN hP hD (c_X3_add l D cI cZ H.size AT_tk AT_tk_c 3 453 vT_tk_n fT_tk_c 1 x1 x2 0 r_84 hc_84) mb_X3_add mv_X3_add wl_X5_99 [2, 3] rfl rfl rfl (Nat.le_of_ble_eq_true rfl) (Nat.le_of_ble_eq_true rfl) rfl hl.1 rfl (Nat.le_of_ble_eq_true rfl) ⟨Nat.le_refl 0, Nat.le_refl 0⟩ dX5_takeNumber_84) hP hD hS hA [2, 3] rfl rfl (fun H locs hP hD hS => ?_)
            have hP : va_P D vwCl (wd_X5_takeNumber cI cZ AT AT_tx AT_tk AT_it AT_tx_c AT_tk_c vT_pl vT_nw vT_ts vT_tf vT_tx_n r_84.1 r_84.2 fT_tx_c) H := hP
            have hD : va_D A (wd_X5_takeNumber cI cZ AT AT_tx AT_tk AT_it AT_tx_c AT_tk_c vT_pl vT_nw vT_ts vT_tf vT_tx_n r_84.1 r_84.2 fT_tx_c) := hD
            have hm := Option.some.inj hm
            subst hm
            exact q_vret hx hb hr hlocks hP hS dX5_takeNumber_87
          · have hm := it_n c_73 hm
            refine lv_iconst (v := 2) hx hb dX5_takeNumber_76 (by decide) ?_
            refine lv_goto (tgt := 81) hx hb dX5_takeNumber_77 (by decide) ?_
            refine lv_iload_n hx hb dX5_takeNumber_81 rfl (lv_at hl 1 rfl) ?_
            refine lv_iload_n hx hb dX5_takeNumber_82 rfl (lv_at hl 0 rfl) ?_
            refine lv_iconst (v := 0) hx hb dX5_takeNumber_83 (by decide) ?_
            obtain ⟨r_84, hc_84, hm⟩ := ob_s hm
            refine q_cv (q_rv (rest := []) ⟨hx, hb, hml, hown, hts⟩ hK hN hP hD (c_X3_add l D cI cZ H.size AT_tk AT_tk_c 3 453 vT_tk_n fT_tk_c 2 x1 x2 0 r_84 hc_84) mb_X3_add mv_X3_add wl_X5_99 [2, 3] rfl rfl rfl (Nat.le_of_ble_eq_true rfl) (Nat.le_of_ble_eq_true rfl) rfl hl.1 rfl (Nat.le_of_ble_eq_true rfl) ⟨Nat.le_refl 0, Nat.le_refl 0⟩ dX5_takeNumber_84) hP hD hS hA [2, 3] rfl rfl (fun H locs hP hD hS => ?_)
            have hP : va_P D vwCl (wd_X5_takeNumber cI cZ AT AT_tx AT_tk AT_it AT_tx_c AT_tk_c vT_pl vT_nw vT_ts vT_tf vT_tx_n r_84.1 r_84.2 fT_tx_c) H := hP
            have hD : va_D A (wd_X5_takeNumber cI cZ AT AT_tx AT_tk AT_it AT_tx_c AT_tk_c vT_pl vT_nw vT_ts vT_tf vT_tx_n r_84.1 r_84.2 fT_tx_c) := hD
            have hm := Option.some.inj hm
            subst hm
            exact q_vret hx hb hr hlocks hP hS dX5_takeNumber_87
        · have hm := it_n c_25 hm
          refine lv_bipush (v := 10) hx hb dX5_takeNumber_28 (by decide) ?_
          refine lv_iload_n hx hb dX5_takeNumber_30 rfl (lv_at hl 0 rfl) ?_
          refine lv_imul hx hb dX5_takeNumber_31 ?_
          refine lv_aload_n hx hb dX5_takeNumber_32 rfl (lv_at hl 2 rfl) ?_
          refine gf_X5_9 (v := .ref AT_tx) hx hb hts hown hK hN hP 0 rfl rfl dX5_takeNumber_33 ?_
          refine lv_aload_n hx hb dX5_takeNumber_36 rfl (lv_at hl 2 rfl) ?_
          refine gf_X5_107 (v := .int vT_pl) hx hb hts hown hK hN hP 0 rfl rfl dX5_takeNumber_37 ?_
          refine lv_iconst (v := 0) hx hb dX5_takeNumber_40 (by decide) ?_
          obtain ⟨r_41, hc_41, hm⟩ := ob_s hm
          refine q_ci (q_rv (rest := [.int (10 * x2)]) ⟨hx, hb, hml, hown, hts⟩ hK hN hP hD (c_X3_cell l D cI cZ H.size AT_tx AT_tx_c 1 150 vT_tx_n fT_tx_c vT_pl 0 r_41 hc_41) mb_X3_cell mv_X3_cell wl_X5_30 [1, 4] rfl rfl rfl (Nat.le_of_ble_eq_true rfl) (Nat.le_of_ble_eq_true rfl) rfl hl.1 rfl (Nat.le_of_ble_eq_true rfl) ⟨Nat.le_refl 0, Nat.le_refl 0⟩ dX5_takeNumber_41) hP hD hS hA [1, 4] rfl rfl (fun H locs hP hD hS => ?_)
          have hP : va_P D vwCl (wd_X5_takeNumber cI cZ AT AT_tx AT_tk AT_it AT_tx_c AT_tk_c vT_pl vT_nw vT_ts vT_tf vT_tx_n vT_tk_n fT_tk_c fT_tx_c) H := hP
          have hD : va_D A (wd_X5_takeNumber cI cZ AT AT_tx AT_tk AT_it AT_tx_c AT_tk_c vT_pl vT_nw vT_ts vT_tf vT_tx_n vT_tk_n fT_tk_c fT_tx_c) := hD
          refine lv_iadd hx hb dX5_takeNumber_44 ?_
          refine lv_bipush (v := 48) hx hb dX5_takeNumber_45 (by decide) ?_
          refine lv_isub hx hb dX5_takeNumber_47 ?_
          refine lv_istore_n (lv' := [(2, .int (((10 * x2) + r_41) - 48)), (1, .int x1), (0, .ref AT)]) hx hb dX5_takeNumber_48 rfl hl (by decide) rfl (fun ls hl => ?_)
          refine lv_aload_n hx hb dX5_takeNumber_49 rfl (lv_at hl 2 rfl) ?_
          refine lv_dup hx hb dX5_takeNumber_50 rfl ?_
          refine gf_X5_107 (v := .int vT_pl) hx hb hts hown hK hN hP 0 rfl rfl dX5_takeNumber_51 ?_
          refine lv_iconst (v := 1) hx hb dX5_takeNumber_54 (by decide) ?_
          refine lv_iadd hx hb dX5_takeNumber_55 ?_
          refine pf_X5_107 hx hb hts hown hK hN hP hD hS 0 rfl dX5_takeNumber_56 (fun H locs hP hD hS => ?_)
          have hP : va_P D vwCl (wd_X5_takeNumber cI cZ AT AT_tx AT_tk AT_it AT_tx_c AT_tk_c (vT_pl + 1) vT_nw vT_ts vT_tf vT_tx_n vT_tk_n fT_tk_c fT_tx_c) H := hP
          have hD : va_D A (wd_X5_takeNumber cI cZ AT AT_tx AT_tk AT_it AT_tx_c AT_tk_c (vT_pl + 1) vT_nw vT_ts vT_tf vT_tx_n vT_tk_n fT_tk_c fT_tx_c) := hD
          refine lv_goto (tgt := 7) hx hb dX5_takeNumber_59 (by decide) ?_
          exact ih_7 (((10 * x2) + r_41) - 48) x1 (vT_pl + 1) vT_tk_n fT_tk_c H locs ls hm hP hD hS (lv_sub hl [0, 1, 2] rfl)
  unfold fm_X5_takeNumber at hm
  refine q_gen hS hP ?_
  intro H locs hP hS
  refine lv_aload_n hx hb dX5_takeNumber_0 rfl (lv_at hl 0 rfl) ?_
  refine gf_X5_107 (v := .int vT_pl) hx hb hts hown hK hN hP 0 rfl rfl dX5_takeNumber_1 ?_
  refine lv_istore_n (lv' := [(1, .int vT_pl), (0, .ref AT)]) hx hb dX5_takeNumber_4 rfl hl (by decide) rfl (fun ls hl => ?_)
  refine lv_iconst (v := 0) hx hb dX5_takeNumber_5 (by decide) ?_
  refine lv_istore_n (lv' := [(2, .int 0), (1, .int vT_pl), (0, .ref AT)]) hx hb dX5_takeNumber_6 rfl hl (by decide) rfl (fun ls hl => ?_)
  exact hL_7 FU 0 vT_pl vT_pl vT_tk_n fT_tk_c H locs ls hm hP hD hS (lv_sub hl [0, 1, 2] rfl)
theorem mb_X5_takeSign : q_mb yX5_takeSign cX5_takeSign 2 none 0 := ⟨wc_X5_takeSign, wn_X5, by decide, by decide, by decide +kernel⟩
theorem mv_X5_takeSign : q_mv yX5_takeSign 5 := ⟨wi_X5_takeSign, ws_X5_takeSign, _, rfl, rfl⟩
def wd_X5_takeSign (cI cZ : ClassId) (AT AT_tx AT_tk AT_it AT_tx_c AT_tk_c : Nat) (vT_pl : Int32) (vT_nw : Int32) (vT_ts : Int32) (vT_tf : Int32) (vT_tx_n : Int32) (fT_tx_c : Nat → Int32) (vT_tk_n : Int32) (fT_tk_c : Nat → Int32) : va_W := [(AT, .inr (5, [.ref AT_tx, .ref AT_tk, .ref AT_it, .int vT_pl, .int vT_nw, .int vT_ts, .int vT_tf])), (AT_tx, .inr (3, [.int 1, .ref AT_tx_c, .int vT_tx_n])), (AT_tx_c, .inl (cI, 150, .inl fT_tx_c)), (AT_tk, .inr (3, [.int 3, .ref AT_tk_c, .int vT_tk_n])), (AT_tk_c, .inl (cI, 453, .inl fT_tk_c))]
def fm_X5_takeSign (vT_pl : Int32) (vT_tx_n : Int32) (fT_tx_c : Nat → Int32) (vT_tk_n : Int32) (fT_tk_c : Nat → Int32) : Option (Int32 × Int32 × (Nat → Int32)) := Option.bind (fm_X3_cell 1 150 vT_pl 0 vT_tx_n fT_tx_c) (fun r_9 => if r_9 = 32 then (some ((vT_pl + 1), vT_tk_n, fT_tk_c)) else (if r_9 = 59 then (Option.bind (fm_X3_add 3 453 3 vT_pl 0 0 vT_tk_n fT_tk_c) (fun r_40 => some ((vT_pl + 1), r_40.1, r_40.2))) else (Option.bind (fm_X3_add 3 453 1 vT_pl 0 0 vT_tk_n fT_tk_c) (fun r_40 => some ((vT_pl + 1), r_40.1, r_40.2)))))
set_option maxHeartbeats 4000000 in
set_option maxRecDepth 100000 in
theorem c_X5_takeSign (l : Launch) (D : va_G) (cI cZ : ClassId) (sz : Nat) (AT AT_tx AT_tk AT_it AT_tx_c AT_tk_c : Nat) (vT_pl : Int32) (vT_nw : Int32) (vT_ts : Int32) (vT_tf : Int32) (vT_tx_n : Int32) (fT_tx_c : Nat → Int32) (vT_tk_n : Int32) (fT_tk_c : Nat → Int32) (out : (Int32 × Int32 × (Nat → Int32))) (hm : fm_X5_takeSign vT_pl vT_tx_n fT_tx_c vT_tk_n fT_tk_c = some out) : Met l yX5_takeSign (Cond.code yX5_takeSign cX5_takeSign 2 none :: bg) { frames := 2, cells := 0, slots := 0, locals := 49 } (va_Pc [.ref AT] (q_pre D cI cZ sz (wd_X5_takeSign cI cZ AT AT_tx AT_tk AT_it AT_tx_c AT_tk_c vT_pl vT_nw vT_ts vT_tf vT_tx_n fT_tx_c vT_tk_n fT_tk_c))) (q_Qv D (wd_X5_takeSign cI cZ AT AT_tx AT_tk AT_it AT_tx_c AT_tk_c out.1 vT_nw vT_ts vT_tf vT_tx_n fT_tx_c out.2.1 out.2.2) (va_A (wd_X5_takeSign cI cZ AT AT_tx AT_tk AT_it AT_tx_c AT_tk_c vT_pl vT_nw vT_ts vT_tf vT_tx_n fT_tx_c vT_tk_n fT_tk_c) sz)) 0 0 (va_A (wd_X5_takeSign cI cZ AT AT_tx AT_tk AT_it AT_tx_c AT_tk_c vT_pl vT_nw vT_ts vT_tf vT_tx_n fT_tx_c vT_tk_n fT_tk_c) sz) := by
  refine q_met (fun A => q_Qv D (wd_X5_takeSign cI cZ AT AT_tx AT_tk AT_it AT_tx_c AT_tk_c out.1 vT_nw vT_ts vT_tf vT_tx_n fT_tx_c out.2.1 out.2.2) A) (by decide) (Nat.le_of_ble_eq_true rfl) ?_
  intro p e s m below meth c ls A hx hb hr hml hown hts hlocks _ hA hS hP hD hK hN hl
  have hown : s.vm.findClass RX5 = some m.cls := hown
  have hl : lv_has ls 2 [(0, .ref AT)] := hl
  unfold fm_X5_takeSign at hm
  refine q_gen hS hP ?_
  intro H locs hP hS
  refine lv_aload_n hx hb dX5_takeSign_0 rfl (lv_at hl 0 rfl) ?_
  refine gf_X5_9 (v := .ref AT_tx) hx hb hts hown hK hN hP 0 rfl rfl dX5_takeSign_1 ?_
  refine lv_aload_n hx hb dX5_takeSign_4 rfl (lv_at hl 0 rfl) ?_
  refine gf_X5_107 (v := .int vT_pl) hx hb hts hown hK hN hP 0 rfl rfl dX5_takeSign_5 ?_
  refine lv_iconst (v := 0) hx hb dX5_takeSign_8 (by decide) ?_
  obtain ⟨r_9, hc_9, hm⟩ := ob_s hm
  refine q_ci (q_rv (rest := []) ⟨hx, hb, hml, hown, hts⟩ hK hN hP hD (c_X3_cell l D cI cZ H.size AT_tx AT_tx_c 1 150 vT_tx_n fT_tx_c vT_pl 0 r_9 hc_9) mb_X3_cell mv_X3_cell wl_X5_30 [1, 2] rfl rfl rfl (Nat.le_of_ble_eq_true rfl) (Nat.le_of_ble_eq_true rfl) rfl hl.1 rfl (Nat.le_of_ble_eq_true rfl) ⟨Nat.le_refl 0, Nat.le_refl 0⟩ dX5_takeSign_9) hP hD hS hA [1, 2] rfl rfl (fun H locs hP hD hS => ?_)
  have hP : va_P D vwCl (wd_X5_takeSign cI cZ AT AT_tx AT_tk AT_it AT_tx_c AT_tk_c vT_pl vT_nw vT_ts vT_tf vT_tx_n fT_tx_c vT_tk_n fT_tk_c) H := hP
  have hD : va_D A (wd_X5_takeSign cI cZ AT AT_tx AT_tk AT_it AT_tx_c AT_tk_c vT_pl vT_nw vT_ts vT_tf vT_tx_n fT_tx_c vT_tk_n fT_tk_c) := hD
  refine lv_istore_n (lv' := [(1, .int r_9), (0, .ref AT)]) hx hb dX5_takeSign_12 rfl hl (by decide) rfl (fun ls hl => ?_)
  refine lv_iload_n hx hb dX5_takeSign_13 rfl (lv_at hl 0 rfl) ?_
  refine lv_bipush (v := 32) hx hb dX5_takeSign_14 (by decide) ?_
  refine lv_icmp_eq (tgt := 43) hx hb dX5_takeSign_16 (by decide) (fun c_16 => ?_) (fun c_16 => ?_)
  · have hm := it_s c_16 hm
    refine lv_aload_n hx hb dX5_takeSign_43 rfl (lv_at hl 1 rfl) ?_
    refine lv_dup hx hb dX5_takeSign_44 rfl ?_
    refine gf_X5_107 (v := .int vT_pl) hx hb hts hown hK hN hP 0 rfl rfl dX5_takeSign_45 ?_
    refine lv_iconst (v := 1) hx hb dX5_takeSign_48 (by decide) ?_
    refine lv_iadd hx hb dX5_takeSign_49 ?_
    refine pf_X5_107 hx hb hts hown hK hN hP hD hS 0 rfl dX5_takeSign_50 (fun H locs hP hD hS => ?_)
    have hP : va_P D vwCl (wd_X5_takeSign cI cZ AT AT_tx AT_tk AT_it AT_tx_c AT_tk_c (vT_pl + 1) vT_nw vT_ts vT_tf vT_tx_n fT_tx_c vT_tk_n fT_tk_c) H := hP
    have hD : va_D A (wd_X5_takeSign cI cZ AT AT_tx AT_tk AT_it AT_tx_c AT_tk_c (vT_pl + 1) vT_nw vT_ts vT_tf vT_tx_n fT_tx_c vT_tk_n fT_tk_c) := hD
    have hm := Option.some.inj hm
    subst hm
    exact q_vret hx hb hr hlocks hP hS dX5_takeSign_53
  · have hm := it_n c_16 hm
    refine lv_aload_n hx hb dX5_takeSign_19 rfl (lv_at hl 1 rfl) ?_
    refine gf_X5_20 (v := .ref AT_tk) hx hb hts hown hK hN hP 0 rfl rfl dX5_takeSign_20 ?_
    refine lv_iload_n hx hb dX5_takeSign_23 rfl (lv_at hl 0 rfl) ?_
    refine lv_bipush (v := 59) hx hb dX5_takeSign_24 (by decide) ?_
    refine lv_icmp_ne (tgt := 33) hx hb dX5_takeSign_26 (by decide) (fun c_26 => ?_) (fun c_26 => ?_)
    · have hm := it_n c_26 hm
      refine lv_iconst (v := 1) hx hb dX5_takeSign_33 (by decide) ?_
      refine lv_aload_n hx hb dX5_takeSign_34 rfl (lv_at hl 1 rfl) ?_
      refine gf_X5_107 (v := .int vT_pl) hx hb hts hown hK hN hP 0 rfl rfl dX5_takeSign_35 ?_
      refine lv_iconst (v := 0) hx hb dX5_takeSign_38 (by decide) ?_
      refine lv_iconst (v := 0) hx hb dX5_takeSign_39 (by decide) ?_
      obtain ⟨r_40, hc_40, hm⟩ := ob_s hm
      refine q_cv (q_rv (rest := []) ⟨hx, hb, hml, hown, hts⟩ hK hN hP hD (c_X3_add l D cI cZ H.size AT_tk AT_tk_c 3 453 vT_tk_n fT_tk_c 1 vT_pl 0 0 r_40 hc_40) mb_X3_add mv_X3_add wl_X5_99 [3, 4] rfl rfl rfl (Nat.le_of_ble_eq_true rfl) (Nat.le_of_ble_eq_true rfl) rfl hl.1 rfl (Nat.le_of_ble_eq_true rfl) ⟨Nat.le_refl 0, Nat.le_refl 0⟩ dX5_takeSign_40) hP hD hS hA [3, 4] rfl rfl (fun H locs hP hD hS => ?_)
      have hP : va_P D vwCl (wd_X5_takeSign cI cZ AT AT_tx AT_tk AT_it AT_tx_c AT_tk_c vT_pl vT_nw vT_ts vT_tf vT_tx_n fT_tx_c r_40.1 r_40.2) H := hP
      have hD : va_D A (wd_X5_takeSign cI cZ AT AT_tx AT_tk AT_it AT_tx_c AT_tk_c vT_pl vT_nw vT_ts vT_tf vT_tx_n fT_tx_c r_40.1 r_40.2) := hD
      refine lv_aload_n hx hb dX5_takeSign_43 rfl (lv_at hl 1 rfl) ?_
      refine lv_dup hx hb dX5_takeSign_44 rfl ?_
      refine gf_X5_107 (v := .int vT_pl) hx hb hts hown hK hN hP 0 rfl rfl dX5_takeSign_45 ?_
      refine lv_iconst (v := 1) hx hb dX5_takeSign_48 (by decide) ?_
      refine lv_iadd hx hb dX5_takeSign_49 ?_
      refine pf_X5_107 hx hb hts hown hK hN hP hD hS 0 rfl dX5_takeSign_50 (fun H locs hP hD hS => ?_)
      have hP : va_P D vwCl (wd_X5_takeSign cI cZ AT AT_tx AT_tk AT_it AT_tx_c AT_tk_c (vT_pl + 1) vT_nw vT_ts vT_tf vT_tx_n fT_tx_c r_40.1 r_40.2) H := hP
      have hD : va_D A (wd_X5_takeSign cI cZ AT AT_tx AT_tk AT_it AT_tx_c AT_tk_c (vT_pl + 1) vT_nw vT_ts vT_tf vT_tx_n fT_tx_c r_40.1 r_40.2) := hD
      have hm := Option.some.inj hm
      subst hm
      exact q_vret hx hb hr hlocks hP hS dX5_takeSign_53
    · have hm := it_s c_26 hm
      refine lv_iconst (v := 3) hx hb dX5_takeSign_29 (by decide) ?_
      refine lv_goto (tgt := 34) hx hb dX5_takeSign_30 (by decide) ?_
      refine lv_aload_n hx hb dX5_takeSign_34 rfl (lv_at hl 1 rfl) ?_
      refine gf_X5_107 (v := .int vT_pl) hx hb hts hown hK hN hP 0 rfl rfl dX5_takeSign_35 ?_
      refine lv_iconst (v := 0) hx hb dX5_takeSign_38 (by decide) ?_
      refine lv_iconst (v := 0) hx hb dX5_takeSign_39 (by decide) ?_
      obtain ⟨r_40, hc_40, hm⟩ := ob_s hm
      refine q_cv (q_rv (rest := []) ⟨hx, hb, hml, hown, hts⟩ hK hN hP hD (c_X3_add l D cI cZ H.size AT_tk AT_tk_c 3 453 vT_tk_n fT_tk_c 3 vT_pl 0 0 r_40 hc_40) mb_X3_add mv_X3_add wl_X5_99 [3, 4] rfl rfl rfl (Nat.le_of_ble_eq_true rfl) (Nat.le_of_ble_eq_true rfl) rfl hl.1 rfl (Nat.le_of_ble_eq_true rfl) ⟨Nat.le_refl 0, Nat.le_refl 0⟩ dX5_takeSign_40) hP hD hS hA [3, 4] rfl rfl (fun H locs hP hD hS => ?_)
      have hP : va_P D vwCl (wd_X5_takeSign cI cZ AT AT_tx AT_tk AT_it AT_tx_c AT_tk_c vT_pl vT_nw vT_ts vT_tf vT_tx_n fT_tx_c r_40.1 r_40.2) H := hP
      have hD : va_D A (wd_X5_takeSign cI cZ AT AT_tx AT_tk AT_it AT_tx_c AT_tk_c vT_pl vT_nw vT_ts vT_tf vT_tx_n fT_tx_c r_40.1 r_40.2) := hD
      refine lv_aload_n hx hb dX5_takeSign_43 rfl (lv_at hl 1 rfl) ?_
      refine lv_dup hx hb dX5_takeSign_44 rfl ?_
      refine gf_X5_107 (v := .int vT_pl) hx hb hts hown hK hN hP 0 rfl rfl dX5_takeSign_45 ?_
      refine lv_iconst (v := 1) hx hb dX5_takeSign_48 (by decide) ?_
      refine lv_iadd hx hb dX5_takeSign_49 ?_
      refine pf_X5_107 hx hb hts hown hK hN hP hD hS 0 rfl dX5_takeSign_50 (fun H locs hP hD hS => ?_)
      have hP : va_P D vwCl (wd_X5_takeSign cI cZ AT AT_tx AT_tk AT_it AT_tx_c AT_tk_c (vT_pl + 1) vT_nw vT_ts vT_tf vT_tx_n fT_tx_c r_40.1 r_40.2) H := hP
      have hD : va_D A (wd_X5_takeSign cI cZ AT AT_tx AT_tk AT_it AT_tx_c AT_tk_c (vT_pl + 1) vT_nw vT_ts vT_tf vT_tx_n fT_tx_c r_40.1 r_40.2) := hD
      have hm := Option.some.inj hm
      subst hm
      exact q_vret hx hb hr hlocks hP hS dX5_takeSign_53
theorem mb_X5_wordIs : q_mb yX5_wordIs cX5_wordIs 4 (some .boolean) 2 := ⟨wc_X5_wordIs, wn_X5, by decide, by decide, by decide +kernel⟩
theorem mv_X5_wordIs : q_mv yX5_wordIs 5 := ⟨wi_X5_wordIs, ws_X5_wordIs, _, rfl, rfl⟩
def wd_X5_wordIs (cI cZ : ClassId) (AT AT_tx AT_tk AT_it AT_tx_c : Nat) (vT_pl : Int32) (vT_nw : Int32) (vT_ts : Int32) (vT_tf : Int32) (vT_tx_n : Int32) (fT_tx_c : Nat → Int32) : va_W := [(AT, .inr (5, [.ref AT_tx, .ref AT_tk, .ref AT_it, .int vT_pl, .int vT_nw, .int vT_ts, .int vT_tf])), (AT_tx, .inr (3, [.int 1, .ref AT_tx_c, .int vT_tx_n])), (AT_tx_c, .inl (cI, 150, .inl fT_tx_c))]
def fL_X5_wordIs_17 (p1 : Nat) (p2 : Int32) (vT_pl : Int32) (vT_tx_n : Int32) (fT_tx_c : Nat → Int32) : Nat → Int32 → Option (Int32)
  | 0, _ => none
  | fu + 1, x3 => if (Int32.ofNat (q_len p1)) ≤ x3 then (some (1)) else (Option.bind (fm_X3_cell 1 150 (p2 + x3) 0 vT_tx_n fT_tx_c) (fun r_33 => gd x3 (q_len p1) (if r_33 = (q_ch p1 (Int32.toNatClampNeg x3)) then (fL_X5_wordIs_17 p1 p2 vT_pl vT_tx_n fT_tx_c fu (x3 + 1)) else (some (0)))))
def fm_X5_wordIs (p1 : Nat) (p2 : Int32) (vT_pl : Int32) (vT_tx_n : Int32) (fT_tx_c : Nat → Int32) : Option (Int32) := if (vT_pl - p2) = (Int32.ofNat (q_len p1)) then (fL_X5_wordIs_17 p1 p2 vT_pl vT_tx_n fT_tx_c FU 0) else (some (0))
set_option maxHeartbeats 4000000 in
set_option maxRecDepth 100000 in
theorem c_X5_wordIs (l : Launch) (adK adV : Nat → Nat) (D : va_G) (cI cZ : ClassId) (sz : Nat) (AT AT_tx AT_tk AT_it AT_tx_c : Nat) (vT_pl : Int32) (vT_nw : Int32) (vT_ts : Int32) (vT_tf : Int32) (vT_tx_n : Int32) (fT_tx_c : Nat → Int32) (p1 : Nat) (p2 : Int32) (out : (Int32)) (hm : fm_X5_wordIs p1 p2 vT_pl vT_tx_n fT_tx_c = some out) (hi : p1 < 5) : Met l yX5_wordIs (Cond.code yX5_wordIs cX5_wordIs 4 (some .boolean) :: bg) { frames := 4, cells := 0, slots := 0, locals := 85 } (va_Pc [.ref AT, .ref (adK p1), .int p2] (q_preX adK adV D cI cZ sz (wd_X5_wordIs cI cZ AT AT_tx AT_tk AT_it AT_tx_c vT_pl vT_nw vT_ts vT_tf vT_tx_n fT_tx_c))) (q_Qi D (wd_X5_wordIs cI cZ AT AT_tx AT_tk AT_it AT_tx_c vT_pl vT_nw vT_ts vT_tf vT_tx_n fT_tx_c) out (va_A (wd_X5_wordIs cI cZ AT AT_tx AT_tk AT_it AT_tx_c vT_pl vT_nw vT_ts vT_tf vT_tx_n fT_tx_c) sz)) 0 0 (va_A (wd_X5_wordIs cI cZ AT AT_tx AT_tk AT_it AT_tx_c vT_pl vT_nw vT_ts vT_tf vT_tx_n fT_tx_c) sz) := by
  refine q_metX (fun A => q_Qi D (wd_X5_wordIs cI cZ AT AT_tx AT_tk AT_it AT_tx_c vT_pl vT_nw vT_ts vT_tf vT_tx_n fT_tx_c) out A) (by decide) (Nat.le_of_ble_eq_true rfl) ?_
  intro p e s m below meth c ls A hx hb hr hml hown hts hlocks _ hA hS hP hD hK hN hl hG
  have hown : s.vm.findClass RX5 = some m.cls := hown
  have hl : lv_has ls 4 [(0, .ref AT), (1, .ref (adK p1)), (2, .int p2)] := hl
  have hL_17 : ∀ (fu_17 : Nat) (x3 : Int32) (H : Heap) (locs : List Loc) (ls : Array Slot), fL_X5_wordIs_17 p1 p2 vT_pl vT_tx_n fT_tx_c fu_17 x3 = some out → va_P D vwCl (wd_X5_wordIs cI cZ AT AT_tx AT_tk AT_it AT_tx_c vT_pl vT_nw vT_ts vT_tf vT_tx_n fT_tx_c) H → va_D A (wd_X5_wordIs cI cZ AT AT_tx AT_tk AT_it AT_tx_c vT_pl vT_nw vT_ts vT_tf vT_tx_n fT_tx_c) → va_S A s.heap H locs → lv_has ls 4 [(3, .int x3), (0, .ref AT), (1, .ref (adK p1)), (2, .int p2)] → W p l e { frames := 4, cells := 0, slots := 0, locals := 85 } s m ([.ref AT, .ref (adK p1), .int p2] : List Value).toArray below meth c H locs 0 0 (MQ below (q_Qi D (wd_X5_wordIs cI cZ AT AT_tx AT_tk AT_it AT_tx_c vT_pl vT_nw vT_ts vT_tf vT_tx_n fT_tx_c) out A) ([.ref AT, .ref (adK p1), .int p2] : List Value).toArray s 0 0 A) (F0 m 17 ls []) := by
    intro fu_17
    induction fu_17 with
    | zero => intro x3 H locs ls hm hP hD hS hl; exact absurd (show (none : Option (Int32)) = some out from hm) (fun h => nomatch h)
    | succ fu_17 ih_17 =>
      intro x3 H locs ls hm hP hD hS hl
      rw [fL_X5_wordIs_17] at hm
      refine lv_iload_n hx hb dX5_wordIs_17 rfl (lv_at hl 0 rfl) ?_
      refine lv_aload_n hx hb dX5_wordIs_18 rfl (lv_at hl 2 rfl) ?_
      refine q_ci (q_rvX (rest := [.int x3]) ⟨hx, hb, hml, hown, hts⟩ hG hK hN hP hD hS hA (c_J0_length l adK adV D cI cZ H.size p1 hi) mb_J0_length wi_J0_length_8abf5 ws_J0_length_8abf5 (vk_recv hG.1 hi hS) wl_X5_142 [] rfl rfl (Nat.le_of_ble_eq_true rfl) (Nat.le_of_ble_eq_true rfl) rfl hl.1 rfl (Nat.le_of_ble_eq_true rfl) ⟨Nat.le_refl 0, Nat.le_refl 0⟩ dX5_wordIs_19) hP hD hS hA [] rfl rfl (fun H locs hP hD hS => ?_)
      have hP : va_P D vwCl (wd_X5_wordIs cI cZ AT AT_tx AT_tk AT_it AT_tx_c vT_pl vT_nw vT_ts vT_tf vT_tx_n fT_tx_c) H := hP
      have hD : va_D A (wd_X5_wordIs cI cZ AT AT_tx AT_tk AT_it AT_tx_c vT_pl vT_nw vT_ts vT_tf vT_tx_n fT_tx_c) := hD
      refine lv_icmp_ge (tgt := 52) hx hb dX5_wordIs_22 (by decide) (fun c_22 => ?_) (fun c_22 => ?_)
      · have hm := it_s c_22 hm
        refine lv_iconst (v := 1) hx hb dX5_wordIs_52 (by decide) ?_
        have hm := Option.some.inj hm
        subst hm
        exact q_zret (v := 1) hx hb hr hlocks rfl hP hS dX5_wordIs_53
      · have hm := it_n c_22 hm
        refine lv_aload_n hx hb dX5_wordIs_25 rfl (lv_at hl 1 rfl) ?_
        refine gf_X5_9 (v := .ref AT_tx) hx hb hts hown hK hN hP 0 rfl rfl dX5_wordIs_26 ?_
        refine lv_iload_n hx hb dX5_wordIs_29 rfl (lv_at hl 3 rfl) ?_
        refine lv_iload_n hx hb dX5_wordIs_30 rfl (lv_at hl 0 rfl) ?_
        refine lv_iadd hx hb dX5_wordIs_31 ?_
        refine lv_iconst (v := 0) hx hb dX5_wordIs_32 (by decide) ?_
        obtain ⟨r_33, hc_33, hm⟩ := ob_s hm
        refine q_ci (q_rv (rest := []) ⟨hx, hb, hml, hown, hts⟩ hK hN hP hD (c_X3_cell l D cI cZ H.size AT_tx AT_tx_c 1 150 vT_tx_n fT_tx_c (p2 + x3) 0 r_33 hc_33) mb_X3_cell mv_X3_cell wl_X5_30 [1, 2] rfl rfl rfl (Nat.le_of_ble_eq_true rfl) (Nat.le_of_ble_eq_true rfl) rfl hl.1 rfl (Nat.le_of_ble_eq_true rfl) ⟨Nat.le_refl 0, Nat.le_refl 0⟩ dX5_wordIs_33) hP hD hS hA [1, 2] rfl rfl (fun H locs hP hD hS => ?_)
        have hP : va_P D vwCl (wd_X5_wordIs cI cZ AT AT_tx AT_tk AT_it AT_tx_c vT_pl vT_nw vT_ts vT_tf vT_tx_n fT_tx_c) H := hP
        have hD : va_D A (wd_X5_wordIs cI cZ AT AT_tx AT_tk AT_it AT_tx_c vT_pl vT_nw vT_ts vT_tf vT_tx_n fT_tx_c) := hD
        refine lv_aload_n hx hb dX5_wordIs_36 rfl (lv_at hl 2 rfl) ?_
        refine lv_iload_n hx hb dX5_wordIs_37 rfl (lv_at hl 0 rfl) ?_
        obtain ⟨hi_38, hm⟩ := gd_s hm
        refine q_ci (q_rvX (rest := [.int r_33]) (As := [.int x3]) ⟨hx, hb, hml, hown, hts⟩ hG hK hN hP hD hS hA (c_J0_charAt l adK adV D cI cZ H.size p1 hi x3 hi_38) mb_J0_charAt wi_J0_charAt_5068e ws_J0_charAt_5068e (vk_recv hG.1 hi hS) wl_X5_147 [] rfl rfl (Nat.le_of_ble_eq_true rfl) (Nat.le_of_ble_eq_true rfl) rfl hl.1 rfl (Nat.le_of_ble_eq_true rfl) ⟨Nat.le_refl 0, Nat.le_refl 0⟩ dX5_wordIs_38) hP hD hS hA [] rfl rfl (fun H locs hP hD hS => ?_)
        have hP : va_P D vwCl (wd_X5_wordIs cI cZ AT AT_tx AT_tk AT_it AT_tx_c vT_pl vT_nw vT_ts vT_tf vT_tx_n fT_tx_c) H := hP
        have hD : va_D A (wd_X5_wordIs cI cZ AT AT_tx AT_tk AT_it AT_tx_c vT_pl vT_nw vT_ts vT_tf vT_tx_n fT_tx_c) := hD
        refine lv_icmp_eq (tgt := 46) hx hb dX5_wordIs_41 (by decide) (fun c_41 => ?_) (fun c_41 => ?_)
        · have hm := it_s c_41 hm
          refine lv_iinc (v := (x3 + 1)) (lv' := [(3, .int (x3 + 1)), (0, .ref AT), (1, .ref (adK p1)), (2, .int p2)]) hx hb dX5_wordIs_46 hl (k := 0) rfl rfl (by decide) rfl (fun ls hl => ?_)
          refine lv_goto (tgt := 17) hx hb dX5_wordIs_49 (by decide) ?_
          exact ih_17 (x3 + 1) H locs ls hm hP hD hS (lv_sub hl [0, 1, 2, 3] rfl)
        · have hm := it_n c_41 hm
          refine lv_iconst (v := 0) hx hb dX5_wordIs_44 (by decide) ?_
          have hm := Option.some.inj hm
          subst hm
          exact q_zret (v := 0) hx hb hr hlocks rfl hP hS dX5_wordIs_45
  unfold fm_X5_wordIs at hm
  refine q_gen hS hP ?_
  intro H locs hP hS
  refine lv_aload_n hx hb dX5_wordIs_0 rfl (lv_at hl 0 rfl) ?_
  refine gf_X5_107 (v := .int vT_pl) hx hb hts hown hK hN hP 0 rfl rfl dX5_wordIs_1 ?_
  refine lv_iload_n hx hb dX5_wordIs_4 rfl (lv_at hl 2 rfl) ?_
  refine lv_isub hx hb dX5_wordIs_5 ?_
  refine lv_aload_n hx hb dX5_wordIs_6 rfl (lv_at hl 1 rfl) ?_
  refine q_ci (q_rvX (rest := [.int (vT_pl - p2)]) ⟨hx, hb, hml, hown, hts⟩ hG hK hN hP hD hS hA (c_J0_length l adK adV D cI cZ H.size p1 hi) mb_J0_length wi_J0_length_8abf5 ws_J0_length_8abf5 (vk_recv hG.1 hi hS) wl_X5_142 [] rfl rfl (Nat.le_of_ble_eq_true rfl) (Nat.le_of_ble_eq_true rfl) rfl hl.1 rfl (Nat.le_of_ble_eq_true rfl) ⟨Nat.le_refl 0, Nat.le_refl 0⟩ dX5_wordIs_7) hP hD hS hA [] rfl rfl (fun H locs hP hD hS => ?_)
  have hP : va_P D vwCl (wd_X5_wordIs cI cZ AT AT_tx AT_tk AT_it AT_tx_c vT_pl vT_nw vT_ts vT_tf vT_tx_n fT_tx_c) H := hP
  have hD : va_D A (wd_X5_wordIs cI cZ AT AT_tx AT_tk AT_it AT_tx_c vT_pl vT_nw vT_ts vT_tf vT_tx_n fT_tx_c) := hD
  refine lv_icmp_eq (tgt := 15) hx hb dX5_wordIs_10 (by decide) (fun c_10 => ?_) (fun c_10 => ?_)
  · have hm := it_s c_10 hm
    refine lv_iconst (v := 0) hx hb dX5_wordIs_15 (by decide) ?_
    refine lv_istore_n (lv' := [(3, .int 0), (0, .ref AT), (1, .ref (adK p1)), (2, .int p2)]) hx hb dX5_wordIs_16 rfl hl (by decide) rfl (fun ls hl => ?_)
    exact hL_17 FU 0 H locs ls hm hP hD hS (lv_sub hl [0, 1, 2, 3] rfl)
  · have hm := it_n c_10 hm
    refine lv_iconst (v := 0) hx hb dX5_wordIs_13 (by decide) ?_
    have hm := Option.some.inj hm
    subst hm
    exact q_zret (v := 0) hx hb hr hlocks rfl hP hS dX5_wordIs_14
theorem mb_X5_wordFrom : q_mb yX5_wordFrom cX5_wordFrom 2 (some .int) 1 := ⟨wc_X5_wordFrom, wn_X5, by decide, by decide, by decide +kernel⟩
theorem mv_X5_wordFrom : q_mv yX5_wordFrom 5 := ⟨wi_X5_wordFrom, ws_X5_wordFrom, _, rfl, rfl⟩
def wd_X5_wordFrom (cI cZ : ClassId) (AT AT_tx AT_tk AT_it AT_tx_c : Nat) (vT_pl : Int32) (vT_nw : Int32) (vT_ts : Int32) (vT_tf : Int32) (vT_tx_n : Int32) (fT_tx_c : Nat → Int32) : va_W := [(AT, .inr (5, [.ref AT_tx, .ref AT_tk, .ref AT_it, .int vT_pl, .int vT_nw, .int vT_ts, .int vT_tf])), (AT_tx, .inr (3, [.int 1, .ref AT_tx_c, .int vT_tx_n])), (AT_tx_c, .inl (cI, 150, .inl fT_tx_c))]
def fm_X5_wordFrom (p1 : Int32) (vT_pl : Int32) (vT_tx_n : Int32) (fT_tx_c : Nat → Int32) : Option (Int32) := Option.bind (fm_X5_wordIs 0 p1 vT_pl vT_tx_n fT_tx_c) (fun r_4 => if r_4 = 0 then (Option.bind (fm_X5_wordIs 1 p1 vT_pl vT_tx_n fT_tx_c) (fun r_16 => if r_16 = 0 then (Option.bind (fm_X5_wordIs 2 p1 vT_pl vT_tx_n fT_tx_c) (fun r_28 => if r_28 = 0 then (Option.bind (fm_X5_wordIs 3 p1 vT_pl vT_tx_n fT_tx_c) (fun r_41 => if r_41 = 0 then (Option.bind (fm_X5_wordIs 4 p1 vT_pl vT_tx_n fT_tx_c) (fun r_54 => if r_54 = 0 then (some (1)) else (some (8)))) else (some (7)))) else (some (6)))) else (some (5)))) else (some (4)))
set_option maxHeartbeats 4000000 in
set_option maxRecDepth 100000 in
theorem c_X5_wordFrom (l : Launch) (adK adV : Nat → Nat) (D : va_G) (cI cZ : ClassId) (sz : Nat) (AT AT_tx AT_tk AT_it AT_tx_c : Nat) (vT_pl : Int32) (vT_nw : Int32) (vT_ts : Int32) (vT_tf : Int32) (vT_tx_n : Int32) (fT_tx_c : Nat → Int32) (p1 : Int32) (out : (Int32)) (hm : fm_X5_wordFrom p1 vT_pl vT_tx_n fT_tx_c = some out) : Met l yX5_wordFrom (Cond.code yX5_wordFrom cX5_wordFrom 2 (some .int) :: bg) { frames := 5, cells := 0, slots := 0, locals := 108 } (va_Pc [.ref AT, .int p1] (q_preX adK adV D cI cZ sz (wd_X5_wordFrom cI cZ AT AT_tx AT_tk AT_it AT_tx_c vT_pl vT_nw vT_ts vT_tf vT_tx_n fT_tx_c))) (q_Qi D (wd_X5_wordFrom cI cZ AT AT_tx AT_tk AT_it AT_tx_c vT_pl vT_nw vT_ts vT_tf vT_tx_n fT_tx_c) out (va_A (wd_X5_wordFrom cI cZ AT AT_tx AT_tk AT_it AT_tx_c vT_pl vT_nw vT_ts vT_tf vT_tx_n fT_tx_c) sz)) 0 0 (va_A (wd_X5_wordFrom cI cZ AT AT_tx AT_tk AT_it AT_tx_c vT_pl vT_nw vT_ts vT_tf vT_tx_n fT_tx_c) sz) := by
  refine q_metX (fun A => q_Qi D (wd_X5_wordFrom cI cZ AT AT_tx AT_tk AT_it AT_tx_c vT_pl vT_nw vT_ts vT_tf vT_tx_n fT_tx_c) out A) (by decide) (Nat.le_of_ble_eq_true rfl) ?_
  intro p e s m below meth c ls A hx hb hr hml hown hts hlocks _ hA hS hP hD hK hN hl hG
  have hown : s.vm.findClass RX5 = some m.cls := hown
  have hl : lv_has ls 2 [(0, .ref AT), (1, .int p1)] := hl
  unfold fm_X5_wordFrom at hm
  refine q_gen hS hP ?_
  intro H locs hP hS
  refine lv_aload_n hx hb dX5_wordFrom_0 rfl (lv_at hl 0 rfl) ?_
  refine va_ldcS hx hb hown (show vk_R RX5 128 "office" (adK 0) s from hG.2.2.2 0 (by decide)) dX5_wordFrom_1 ?_
  refine lv_iload_n hx hb dX5_wordFrom_3 rfl (lv_at hl 1 rfl) ?_
  obtain ⟨r_4, hc_4, hm⟩ := ob_s hm
  refine q_ci (q_rvY (rest := []) ⟨hx, hb, hml, hown, hts⟩ hG hK hN hP hD hS hA (c_X5_wordIs l adK adV D cI cZ H.size AT AT_tx AT_tk AT_it AT_tx_c vT_pl vT_nw vT_ts vT_tf vT_tx_n fT_tx_c 0 p1 r_4 hc_4 (by decide)) mb_X5_wordIs mv_X5_wordIs wl_X5_130 [0, 1, 2] rfl rfl rfl (Nat.le_of_ble_eq_true rfl) (Nat.le_of_ble_eq_true rfl) rfl hl.1 rfl (Nat.le_of_ble_eq_true rfl) ⟨Nat.le_refl 0, Nat.le_refl 0⟩ dX5_wordFrom_4) hP hD hS hA [0, 1, 2] rfl rfl (fun H locs hP hD hS => ?_)
  have hP : va_P D vwCl (wd_X5_wordFrom cI cZ AT AT_tx AT_tk AT_it AT_tx_c vT_pl vT_nw vT_ts vT_tf vT_tx_n fT_tx_c) H := hP
  have hD : va_D A (wd_X5_wordFrom cI cZ AT AT_tx AT_tk AT_it AT_tx_c vT_pl vT_nw vT_ts vT_tf vT_tx_n fT_tx_c) := hD
  refine lv_if_eq (tgt := 12) hx hb dX5_wordFrom_7 (by decide) (fun c_7 => ?_) (fun c_7 => ?_)
  · have hm := it_s c_7 hm
    refine lv_aload_n hx hb dX5_wordFrom_12 rfl (lv_at hl 0 rfl) ?_
    refine va_ldcS hx hb hown (show vk_R RX5 134 "sleeper" (adK 1) s from hG.2.2.2 1 (by decide)) dX5_wordFrom_13 ?_
    refine lv_iload_n hx hb dX5_wordFrom_15 rfl (lv_at hl 1 rfl) ?_
    obtain ⟨r_16, hc_16, hm⟩ := ob_s hm
    refine q_ci (q_rvY (rest := []) ⟨hx, hb, hml, hown, hts⟩ hG hK hN hP hD hS hA (c_X5_wordIs l adK adV D cI cZ H.size AT AT_tx AT_tk AT_it AT_tx_c vT_pl vT_nw vT_ts vT_tf vT_tx_n fT_tx_c 1 p1 r_16 hc_16 (by decide)) mb_X5_wordIs mv_X5_wordIs wl_X5_130 [0, 1, 2] rfl rfl rfl (Nat.le_of_ble_eq_true rfl) (Nat.le_of_ble_eq_true rfl) rfl hl.1 rfl (Nat.le_of_ble_eq_true rfl) ⟨Nat.le_refl 0, Nat.le_refl 0⟩ dX5_wordFrom_16) hP hD hS hA [0, 1, 2] rfl rfl (fun H locs hP hD hS => ?_)
    have hP : va_P D vwCl (wd_X5_wordFrom cI cZ AT AT_tx AT_tk AT_it AT_tx_c vT_pl vT_nw vT_ts vT_tf vT_tx_n fT_tx_c) H := hP
    have hD : va_D A (wd_X5_wordFrom cI cZ AT AT_tx AT_tk AT_it AT_tx_c vT_pl vT_nw vT_ts vT_tf vT_tx_n fT_tx_c) := hD
    refine lv_if_eq (tgt := 24) hx hb dX5_wordFrom_19 (by decide) (fun c_19 => ?_) (fun c_19 => ?_)
    · have hm := it_s c_19 hm
      refine lv_aload_n hx hb dX5_wordFrom_24 rfl (lv_at hl 0 rfl) ?_
      refine va_ldcS hx hb hown (show vk_R RX5 136 "flower" (adK 2) s from hG.2.2.2 2 (by decide)) dX5_wordFrom_25 ?_
      refine lv_iload_n hx hb dX5_wordFrom_27 rfl (lv_at hl 1 rfl) ?_
      obtain ⟨r_28, hc_28, hm⟩ := ob_s hm
      refine q_ci (q_rvY (rest := []) ⟨hx, hb, hml, hown, hts⟩ hG hK hN hP hD hS hA (c_X5_wordIs l adK adV D cI cZ H.size AT AT_tx AT_tk AT_it AT_tx_c vT_pl vT_nw vT_ts vT_tf vT_tx_n fT_tx_c 2 p1 r_28 hc_28 (by decide)) mb_X5_wordIs mv_X5_wordIs wl_X5_130 [0, 1, 2] rfl rfl rfl (Nat.le_of_ble_eq_true rfl) (Nat.le_of_ble_eq_true rfl) rfl hl.1 rfl (Nat.le_of_ble_eq_true rfl) ⟨Nat.le_refl 0, Nat.le_refl 0⟩ dX5_wordFrom_28) hP hD hS hA [0, 1, 2] rfl rfl (fun H locs hP hD hS => ?_)
      have hP : va_P D vwCl (wd_X5_wordFrom cI cZ AT AT_tx AT_tk AT_it AT_tx_c vT_pl vT_nw vT_ts vT_tf vT_tx_n fT_tx_c) H := hP
      have hD : va_D A (wd_X5_wordFrom cI cZ AT AT_tx AT_tk AT_it AT_tx_c vT_pl vT_nw vT_ts vT_tf vT_tx_n fT_tx_c) := hD
      refine lv_if_eq (tgt := 37) hx hb dX5_wordFrom_31 (by decide) (fun c_31 => ?_) (fun c_31 => ?_)
      · have hm := it_s c_31 hm
        refine lv_aload_n hx hb dX5_wordFrom_37 rfl (lv_at hl 0 rfl) ?_
        refine va_ldcS hx hb hown (show vk_R RX5 138 "swap" (adK 3) s from hG.2.2.2 3 (by decide)) dX5_wordFrom_38 ?_
        refine lv_iload_n hx hb dX5_wordFrom_40 rfl (lv_at hl 1 rfl) ?_
        obtain ⟨r_41, hc_41, hm⟩ := ob_s hm
        refine q_ci (q_rvY (rest := []) ⟨hx, hb, hml, hown, hts⟩ hG hK hN hP hD hS hA (c_X5_wordIs l adK adV D cI cZ H.size AT AT_tx AT_tk AT_it AT_tx_c vT_pl vT_nw vT_ts vT_tf vT_tx_n fT_tx_c 3 p1 r_41 hc_41 (by decide)) mb_X5_wordIs mv_X5_wordIs wl_X5_130 [0, 1, 2] rfl rfl rfl (Nat.le_of_ble_eq_true rfl) (Nat.le_of_ble_eq_true rfl) rfl hl.1 rfl (Nat.le_of_ble_eq_true rfl) ⟨Nat.le_refl 0, Nat.le_refl 0⟩ dX5_wordFrom_41) hP hD hS hA [0, 1, 2] rfl rfl (fun H locs hP hD hS => ?_)
        have hP : va_P D vwCl (wd_X5_wordFrom cI cZ AT AT_tx AT_tk AT_it AT_tx_c vT_pl vT_nw vT_ts vT_tf vT_tx_n fT_tx_c) H := hP
        have hD : va_D A (wd_X5_wordFrom cI cZ AT AT_tx AT_tk AT_it AT_tx_c vT_pl vT_nw vT_ts vT_tf vT_tx_n fT_tx_c) := hD
        refine lv_if_eq (tgt := 50) hx hb dX5_wordFrom_44 (by decide) (fun c_44 => ?_) (fun c_44 => ?_)
        · have hm := it_s c_44 hm
          refine lv_aload_n hx hb dX5_wordFrom_50 rfl (lv_at hl 0 rfl) ?_
          refine va_ldcS hx hb hown (show vk_R RX5 140 "nights" (adK 4) s from hG.2.2.2 4 (by decide)) dX5_wordFrom_51 ?_
          refine lv_iload_n hx hb dX5_wordFrom_53 rfl (lv_at hl 1 rfl) ?_
          obtain ⟨r_54, hc_54, hm⟩ := ob_s hm
          refine q_ci (q_rvY (rest := []) ⟨hx, hb, hml, hown, hts⟩ hG hK hN hP hD hS hA (c_X5_wordIs l adK adV D cI cZ H.size AT AT_tx AT_tk AT_it AT_tx_c vT_pl vT_nw vT_ts vT_tf vT_tx_n fT_tx_c 4 p1 r_54 hc_54 (by decide)) mb_X5_wordIs mv_X5_wordIs wl_X5_130 [0, 1, 2] rfl rfl rfl (Nat.le_of_ble_eq_true rfl) (Nat.le_of_ble_eq_true rfl) rfl hl.1 rfl (Nat.le_of_ble_eq_true rfl) ⟨Nat.le_refl 0, Nat.le_refl 0⟩ dX5_wordFrom_54) hP hD hS hA [0, 1, 2] rfl rfl (fun H locs hP hD hS => ?_)
          have hP : va_P D vwCl (wd_X5_wordFrom cI cZ AT AT_tx AT_tk AT_it AT_tx_c vT_pl vT_nw vT_ts vT_tf vT_tx_n fT_tx_c) H := hP
          have hD : va_D A (wd_X5_wordFrom cI cZ AT AT_tx AT_tk AT_it AT_tx_c vT_pl vT_nw vT_ts vT_tf vT_tx_n fT_tx_c) := hD
          refine lv_if_eq (tgt := 65) hx hb dX5_wordFrom_57 (by decide) (fun c_57 => ?_) (fun c_57 => ?_)
          · have hm := it_s c_57 hm
            refine lv_iconst (v := 1) hx hb dX5_wordFrom_65 (by decide) ?_
            have hm := Option.some.inj hm
            subst hm
            exact q_iret (v := 1) hx hb hr hlocks hP hS dX5_wordFrom_66
          · have hm := it_n c_57 hm
            refine lv_bipush (v := 8) hx hb dX5_wordFrom_60 (by decide) ?_
            refine lv_goto (tgt := 66) hx hb dX5_wordFrom_62 (by decide) ?_
            have hm := Option.some.inj hm
            subst hm
            exact q_iret (v := 8) hx hb hr hlocks hP hS dX5_wordFrom_66
        · have hm := it_n c_44 hm
          refine lv_bipush (v := 7) hx hb dX5_wordFrom_47 (by decide) ?_
          have hm := Option.some.inj hm
          subst hm
          exact q_iret (v := 7) hx hb hr hlocks hP hS dX5_wordFrom_49
      · have hm := it_n c_31 hm
        refine lv_bipush (v := 6) hx hb dX5_wordFrom_34 (by decide) ?_
        have hm := Option.some.inj hm
        subst hm
        exact q_iret (v := 6) hx hb hr hlocks hP hS dX5_wordFrom_36
    · have hm := it_n c_19 hm
      refine lv_iconst (v := 5) hx hb dX5_wordFrom_22 (by decide) ?_
      have hm := Option.some.inj hm
      subst hm
      exact q_iret (v := 5) hx hb hr hlocks hP hS dX5_wordFrom_23
  · have hm := it_n c_7 hm
    refine lv_iconst (v := 4) hx hb dX5_wordFrom_10 (by decide) ?_
    have hm := Option.some.inj hm
    subst hm
    exact q_iret (v := 4) hx hb hr hlocks hP hS dX5_wordFrom_11
theorem mb_X5_takeWord : q_mb yX5_takeWord cX5_takeWord 2 none 0 := ⟨wc_X5_takeWord, wn_X5, by decide, by decide, by decide +kernel⟩
theorem mv_X5_takeWord : q_mv yX5_takeWord 5 := ⟨wi_X5_takeWord, ws_X5_takeWord, _, rfl, rfl⟩
def wd_X5_takeWord (cI cZ : ClassId) (AT AT_tx AT_tk AT_it AT_tx_c AT_tk_c : Nat) (vT_pl : Int32) (vT_nw : Int32) (vT_ts : Int32) (vT_tf : Int32) (vT_tx_n : Int32) (fT_tx_c : Nat → Int32) (vT_tk_n : Int32) (fT_tk_c : Nat → Int32) : va_W := [(AT, .inr (5, [.ref AT_tx, .ref AT_tk, .ref AT_it, .int vT_pl, .int vT_nw, .int vT_ts, .int vT_tf])), (AT_tx, .inr (3, [.int 1, .ref AT_tx_c, .int vT_tx_n])), (AT_tx_c, .inl (cI, 150, .inl fT_tx_c)), (AT_tk, .inr (3, [.int 3, .ref AT_tk_c, .int vT_tk_n])), (AT_tk_c, .inl (cI, 453, .inl fT_tk_c))]
def fL_X5_takeWord_5 (vT_tx_n : Int32) (fT_tx_c : Nat → Int32) : Nat → Int32 → Int32 → Int32 → (Nat → Int32) → Option (Int32 × Int32 × (Nat → Int32))
  | 0, _, _, _, _ => none
  | fu + 1, x1, vT_pl, vT_tk_n, fT_tk_c => Option.bind (fm_X3_size vT_tx_n) (fun r_13 => if r_13 ≤ vT_pl then (Option.bind (fm_X5_wordFrom x1 vT_pl vT_tx_n fT_tx_c) (fun r_45 => Option.bind (fm_X3_add 3 453 r_45 x1 0 0 vT_tk_n fT_tk_c) (fun r_51 => some (vT_pl, r_51.1, r_51.2)))) else (Option.bind (fm_X5_isLetter vT_pl vT_tx_n fT_tx_c) (fun r_20 => if r_20 = 0 then (Option.bind (fm_X5_wordFrom x1 vT_pl vT_tx_n fT_tx_c) (fun r_45 => Option.bind (fm_X3_add 3 453 r_45 x1 0 0 vT_tk_n fT_tk_c) (fun r_51 => some (vT_pl, r_51.1, r_51.2)))) else (fL_X5_takeWord_5 vT_tx_n fT_tx_c fu x1 (vT_pl + 1) vT_tk_n fT_tk_c))))
def fm_X5_takeWord (vT_pl : Int32) (vT_tx_n : Int32) (fT_tx_c : Nat → Int32) (vT_tk_n : Int32) (fT_tk_c : Nat → Int32) : Option (Int32 × Int32 × (Nat → Int32)) := fL_X5_takeWord_5 vT_tx_n fT_tx_c FU vT_pl vT_pl vT_tk_n fT_tk_c
set_option maxHeartbeats 4000000 in
set_option maxRecDepth 100000 in
theorem c_X5_takeWord (l : Launch) (adK adV : Nat → Nat) (D : va_G) (cI cZ : ClassId) (sz : Nat) (AT AT_tx AT_tk AT_it AT_tx_c AT_tk_c : Nat) (vT_pl : Int32) (vT_nw : Int32) (vT_ts : Int32) (vT_tf : Int32) (vT_tx_n : Int32) (fT_tx_c : Nat → Int32) (vT_tk_n : Int32) (fT_tk_c : Nat → Int32) (out : (Int32 × Int32 × (Nat → Int32))) (hm : fm_X5_takeWord vT_pl vT_tx_n fT_tx_c vT_tk_n fT_tk_c = some out) : Met l yX5_takeWord (Cond.code yX5_takeWord cX5_takeWord 2 none :: bg) { frames := 6, cells := 0, slots := 0, locals := 129 } (va_Pc [.ref AT] (q_preX adK adV D cI cZ sz (wd_X5_takeWord cI cZ AT AT_tx AT_tk AT_it AT_tx_c AT_tk_c vT_pl vT_nw vT_ts vT_tf vT_tx_n fT_tx_c vT_tk_n fT_tk_c))) (q_Qv D (wd_X5_takeWord cI cZ AT AT_tx AT_tk AT_it AT_tx_c AT_tk_c out.1 vT_nw vT_ts vT_tf vT_tx_n fT_tx_c out.2.1 out.2.2) (va_A (wd_X5_takeWord cI cZ AT AT_tx AT_tk AT_it AT_tx_c AT_tk_c vT_pl vT_nw vT_ts vT_tf vT_tx_n fT_tx_c vT_tk_n fT_tk_c) sz)) 0 0 (va_A (wd_X5_takeWord cI cZ AT AT_tx AT_tk AT_it AT_tx_c AT_tk_c vT_pl vT_nw vT_ts vT_tf vT_tx_n fT_tx_c vT_tk_n fT_tk_c) sz) := by
  refine q_metX (fun A => q_Qv D (wd_X5_takeWord cI cZ AT AT_tx AT_tk AT_it AT_tx_c AT_tk_c out.1 vT_nw vT_ts vT_tf vT_tx_n fT_tx_c out.2.1 out.2.2) A) (by decide) (Nat.le_of_ble_eq_true rfl) ?_
  intro p e s m below meth c ls A hx hb hr hml hown hts hlocks _ hA hS hP hD hK hN hl hG
  have hown : s.vm.findClass RX5 = some m.cls := hown
  have hl : lv_has ls 2 [(0, .ref AT)] := hl
  have hL_5 : ∀ (fu_5 : Nat) (x1 : Int32) (vT_pl : Int32) (vT_tk_n : Int32) (fT_tk_c : Nat → Int32) (H : Heap) (locs : List Loc) (ls : Array Slot), fL_X5_takeWord_5 vT_tx_n fT_tx_c fu_5 x1 vT_pl vT_tk_n fT_tk_c = some out → va_P D vwCl (wd_X5_takeWord cI cZ AT AT_tx AT_tk AT_it AT_tx_c AT_tk_c vT_pl vT_nw vT_ts vT_tf vT_tx_n fT_tx_c vT_tk_n fT_tk_c) H → va_D A (wd_X5_takeWord cI cZ AT AT_tx AT_tk AT_it AT_tx_c AT_tk_c vT_pl vT_nw vT_ts vT_tf vT_tx_n fT_tx_c vT_tk_n fT_tk_c) → va_S A s.heap H locs → lv_has ls 2 [(1, .int x1), (0, .ref AT)] → W p l e { frames := 6, cells := 0, slots := 0, locals := 129 } s m ([.ref AT] : List Value).toArray below meth c H locs 0 0 (MQ below (q_Qv D (wd_X5_takeWord cI cZ AT AT_tx AT_tk AT_it AT_tx_c AT_tk_c out.1 vT_nw vT_ts vT_tf vT_tx_n fT_tx_c out.2.1 out.2.2) A) ([.ref AT] : List Value).toArray s 0 0 A) (F0 m 5 ls []) := by
    intro fu_5
    induction fu_5 with
    | zero => intro x1 vT_pl vT_tk_n fT_tk_c H locs ls hm hP hD hS hl; exact absurd (show (none : Option (Int32 × Int32 × (Nat → Int32))) = some out from hm) (fun h => nomatch h)
    | succ fu_5 ih_5 =>
      intro x1 vT_pl vT_tk_n fT_tk_c H locs ls hm hP hD hS hl
      rw [fL_X5_takeWord_5] at hm
      refine lv_aload_n hx hb dX5_takeWord_5 rfl (lv_at hl 1 rfl) ?_
      refine gf_X5_107 (v := .int vT_pl) hx hb hts hown hK hN hP 0 rfl rfl dX5_takeWord_6 ?_
      refine lv_aload_n hx hb dX5_takeWord_9 rfl (lv_at hl 1 rfl) ?_
      refine gf_X5_9 (v := .ref AT_tx) hx hb hts hown hK hN hP 0 rfl rfl dX5_takeWord_10 ?_
      obtain ⟨r_13, hc_13, hm⟩ := ob_s hm
      refine q_ci (q_rv (rest := [.int vT_pl]) ⟨hx, hb, hml, hown, hts⟩ hK hN hP hD (c_X3_size l D cI cZ H.size AT_tx AT_tx_c 1 vT_tx_n r_13 hc_13) mb_X3_size mv_X3_size wl_X5_54 [1] rfl rfl rfl (Nat.le_of_ble_eq_true rfl) (Nat.le_of_ble_eq_true rfl) rfl hl.1 rfl (Nat.le_of_ble_eq_true rfl) ⟨Nat.le_refl 0, Nat.le_refl 0⟩ dX5_takeWord_13) hP hD hS hA [1] rfl rfl (fun H locs hP hD hS => ?_)
      have hP : va_P D vwCl (wd_X5_takeWord cI cZ AT AT_tx AT_tk AT_it AT_tx_c AT_tk_c vT_pl vT_nw vT_ts vT_tf vT_tx_n fT_tx_c vT_tk_n fT_tk_c) H := hP
      have hD : va_D A (wd_X5_takeWord cI cZ AT AT_tx AT_tk AT_it AT_tx_c AT_tk_c vT_pl vT_nw vT_ts vT_tf vT_tx_n fT_tx_c vT_tk_n fT_tk_c) := hD
      refine lv_icmp_ge (tgt := 39) hx hb dX5_takeWord_16 (by decide) (fun c_16 => ?_) (fun c_16 => ?_)
      · have hm := it_s c_16 hm
        refine lv_aload_n hx hb dX5_takeWord_39 rfl (lv_at hl 1 rfl) ?_
        refine gf_X5_20 (v := .ref AT_tk) hx hb hts hown hK hN hP 0 rfl rfl dX5_takeWord_40 ?_
        refine lv_aload_n hx hb dX5_takeWord_43 rfl (lv_at hl 1 rfl) ?_
        refine lv_iload_n hx hb dX5_takeWord_44 rfl (lv_at hl 0 rfl) ?_
        obtain ⟨r_45, hc_45, hm⟩ := ob_s hm
        refine q_ci (q_rvY (rest := [.ref AT_tk]) ⟨hx, hb, hml, hown, hts⟩ hG hK hN hP hD hS hA (c_X5_wordFrom l adK adV D cI cZ H.size AT AT_tx AT_tk AT_it AT_tx_c vT_pl vT_nw vT_ts vT_tf vT_tx_n fT_tx_c x1 r_45 hc_45) mb_X5_wordFrom mv_X5_wordFrom wl_X5_125 [0, 1, 2] rfl rfl rfl (Nat.le_of_ble_eq_true rfl) (Nat.le_of_ble_eq_true rfl) rfl hl.1 rfl (Nat.le_of_ble_eq_true rfl) ⟨Nat.le_refl 0, Nat.le_refl 0⟩ dX5_takeWord_45) hP hD hS hA [0, 1, 2] rfl rfl (fun H locs hP hD hS => ?_)
        have hP : va_P D vwCl (wd_X5_takeWord cI cZ AT AT_tx AT_tk AT_it AT_tx_c AT_tk_c vT_pl vT_nw vT_ts vT_tf vT_tx_n fT_tx_c vT_tk_n fT_tk_c) H := hP
        have hD : va_D A (wd_X5_takeWord cI cZ AT AT_tx AT_tk AT_it AT_tx_c AT_tk_c vT_pl vT_nw vT_ts vT_tf vT_tx_n fT_tx_c vT_tk_n fT_tk_c) := hD
        refine lv_iload_n hx hb dX5_takeWord_48 rfl (lv_at hl 0 rfl) ?_
        refine lv_iconst (v := 0) hx hb dX5_takeWord_49 (by decide) ?_
        refine lv_iconst (v := 0) hx hb dX5_takeWord_50 (by decide) ?_
        obtain ⟨r_51, hc_51, hm⟩ := ob_s hm
        refine q_cv (q_rv (rest := []) ⟨hx, hb, hml, hown, hts⟩ hK hN hP hD (c_X3_add l D cI cZ H.size AT_tk AT_tk_c 3 453 vT_tk_n fT_tk_c r_45 x1 0 0 r_51 hc_51) mb_X3_add mv_X3_add wl_X5_99 [3, 4] rfl rfl rfl (Nat.le_of_ble_eq_true rfl) (Nat.le_of_ble_eq_true rfl) rfl hl.1 rfl (Nat.le_of_ble_eq_true rfl) ⟨Nat.le_refl 0, Nat.le_refl 0⟩ dX5_takeWord_51) hP hD hS hA [3, 4] rfl rfl (fun H locs hP hD hS => ?_)
        have hP : va_P D vwCl (wd_X5_takeWord cI cZ AT AT_tx AT_tk AT_it AT_tx_c AT_tk_c vT_pl vT_nw vT_ts vT_tf vT_tx_n fT_tx_c r_51.1 r_51.2) H := hP
        have hD : va_D A (wd_X5_takeWord cI cZ AT AT_tx AT_tk AT_it AT_tx_c AT_tk_c vT_pl vT_nw vT_ts vT_tf vT_tx_n fT_tx_c r_51.1 r_51.2) := hD
        have hm := Option.some.inj hm
        subst hm
        exact q_vret hx hb hr hlocks hP hS dX5_takeWord_54
      · have hm := it_n c_16 hm
        refine lv_aload_n hx hb dX5_takeWord_19 rfl (lv_at hl 1 rfl) ?_
        obtain ⟨r_20, hc_20, hm⟩ := ob_s hm
        refine q_ci (q_rv (rest := []) ⟨hx, hb, hml, hown, hts⟩ hK hN hP hD (c_X5_isLetter l D cI cZ H.size AT AT_tx AT_tk AT_it AT_tx_c vT_pl vT_nw vT_ts vT_tf vT_tx_n fT_tx_c r_20 hc_20) mb_X5_isLetter mv_X5_isLetter wl_X5_110 [0, 1, 2] rfl rfl rfl (Nat.le_of_ble_eq_true rfl) (Nat.le_of_ble_eq_true rfl) rfl hl.1 rfl (Nat.le_of_ble_eq_true rfl) ⟨Nat.le_refl 0, Nat.le_refl 0⟩ dX5_takeWord_20) hP hD hS hA [0, 1, 2] rfl rfl (fun H locs hP hD hS => ?_)
        have hP : va_P D vwCl (wd_X5_takeWord cI cZ AT AT_tx AT_tk AT_it AT_tx_c AT_tk_c vT_pl vT_nw vT_ts vT_tf vT_tx_n fT_tx_c vT_tk_n fT_tk_c) H := hP
        have hD : va_D A (wd_X5_takeWord cI cZ AT AT_tx AT_tk AT_it AT_tx_c AT_tk_c vT_pl vT_nw vT_ts vT_tf vT_tx_n fT_tx_c vT_tk_n fT_tk_c) := hD
        refine lv_if_eq (tgt := 39) hx hb dX5_takeWord_23 (by decide) (fun c_23 => ?_) (fun c_23 => ?_)
        · have hm := it_s c_23 hm
          refine lv_aload_n hx hb dX5_takeWord_39 rfl (lv_at hl 1 rfl) ?_
          refine gf_X5_20 (v := .ref AT_tk) hx hb hts hown hK hN hP 0 rfl rfl dX5_takeWord_40 ?_
          refine lv_aload_n hx hb dX5_takeWord_43 rfl (lv_at hl 1 rfl) ?_
          refine lv_iload_n hx hb dX5_takeWord_44 rfl (lv_at hl 0 rfl) ?_
          obtain ⟨r_45, hc_45, hm⟩ := ob_s hm
          refine q_ci (q_rvY (rest := [.ref AT_tk]) ⟨hx, hb, hml, hown, hts⟩ hG hK hN hP hD hS hA (c_X5_wordFrom l adK adV D cI cZ H.size AT AT_tx AT_tk AT_it AT_tx_c vT_pl vT_nw vT_ts vT_tf vT_tx_n fT_tx_c x1 r_45 hc_45) mb_X5_wordFrom mv_X5_wordFrom wl_X5_125 [0, 1, 2] rfl rfl rfl (Nat.le_of_ble_eq_true rfl) (Nat.le_of_ble_eq_true rfl) rfl hl.1 rfl (Nat.le_of_ble_eq_true rfl) ⟨Nat.le_refl 0, Nat.le_refl 0⟩ dX5_takeWord_45) hP hD hS hA [0, 1, 2] rfl rfl (fun H locs hP hD hS => ?_)
          have hP : va_P D vwCl (wd_X5_takeWord cI cZ AT AT_tx AT_tk AT_it AT_tx_c AT_tk_c vT_pl vT_nw vT_ts vT_tf vT_tx_n fT_tx_c vT_tk_n fT_tk_c) H := hP
          have hD : va_D A (wd_X5_takeWord cI cZ AT AT_tx AT_tk AT_it AT_tx_c AT_tk_c vT_pl vT_nw vT_ts vT_tf vT_tx_n fT_tx_c vT_tk_n fT_tk_c) := hD
          refine lv_iload_n hx hb dX5_takeWord_48 rfl (lv_at hl 0 rfl) ?_
          refine lv_iconst (v := 0) hx hb dX5_takeWord_49 (by decide) ?_
          refine lv_iconst (v := 0) hx hb dX5_takeWord_50 (by decide) ?_
          obtain ⟨r_51, hc_51, hm⟩ := ob_s hm
          refine q_cv (q_rv (rest := []) ⟨hx, hb, hml, hown, hts⟩ hK hN hP hD (c_X3_add l D cI cZ H.size AT_tk AT_tk_c 3 453 vT_tk_n fT_tk_c r_45 x1 0 0 r_51 hc_51) mb_X3_add mv_X3_add wl_X5_99 [3, 4] rfl rfl rfl (Nat.le_of_ble_eq_true rfl) (Nat.le_of_ble_eq_true rfl) rfl hl.1 rfl (Nat.le_of_ble_eq_true rfl) ⟨Nat.le_refl 0, Nat.le_refl 0⟩ dX5_takeWord_51) hP hD hS hA [3, 4] rfl rfl (fun H locs hP hD hS => ?_)
          have hP : va_P D vwCl (wd_X5_takeWord cI cZ AT AT_tx AT_tk AT_it AT_tx_c AT_tk_c vT_pl vT_nw vT_ts vT_tf vT_tx_n fT_tx_c r_51.1 r_51.2) H := hP
          have hD : va_D A (wd_X5_takeWord cI cZ AT AT_tx AT_tk AT_it AT_tx_c AT_tk_c vT_pl vT_nw vT_ts vT_tf vT_tx_n fT_tx_c r_51.1 r_51.2) := hD
          have hm := Option.some.inj hm
          subst hm
          exact q_vret hx hb hr hlocks hP hS dX5_takeWord_54
        · have hm := it_n c_23 hm
          refine lv_aload_n hx hb dX5_takeWord_26 rfl (lv_at hl 1 rfl) ?_
          refine lv_dup hx hb dX5_takeWord_27 rfl ?_
          refine gf_X5_107 (v := .int vT_pl) hx hb hts hown hK hN hP 0 rfl rfl dX5_takeWord_28 ?_
          refine lv_iconst (v := 1) hx hb dX5_takeWord_31 (by decide) ?_
          refine lv_iadd hx hb dX5_takeWord_32 ?_
          refine pf_X5_107 hx hb hts hown hK hN hP hD hS 0 rfl dX5_takeWord_33 (fun H locs hP hD hS => ?_)
          have hP : va_P D vwCl (wd_X5_takeWord cI cZ AT AT_tx AT_tk AT_it AT_tx_c AT_tk_c (vT_pl + 1) vT_nw vT_ts vT_tf vT_tx_n fT_tx_c vT_tk_n fT_tk_c) H := hP
          have hD : va_D A (wd_X5_takeWord cI cZ AT AT_tx AT_tk AT_it AT_tx_c AT_tk_c (vT_pl + 1) vT_nw vT_ts vT_tf vT_tx_n fT_tx_c vT_tk_n fT_tk_c) := hD
          refine lv_goto (tgt := 5) hx hb dX5_takeWord_36 (by decide) ?_
          exact ih_5 x1 (vT_pl + 1) vT_tk_n fT_tk_c H locs ls hm hP hD hS (lv_sub hl [0, 1] rfl)
  unfold fm_X5_takeWord at hm
  refine q_gen hS hP ?_
  intro H locs hP hS
  refine lv_aload_n hx hb dX5_takeWord_0 rfl (lv_at hl 0 rfl) ?_
  refine gf_X5_107 (v := .int vT_pl) hx hb hts hown hK hN hP 0 rfl rfl dX5_takeWord_1 ?_
  refine lv_istore_n (lv' := [(1, .int vT_pl), (0, .ref AT)]) hx hb dX5_takeWord_4 rfl hl (by decide) rfl (fun ls hl => ?_)
  exact hL_5 FU vT_pl vT_pl vT_tk_n fT_tk_c H locs ls hm hP hD hS (lv_sub hl [0, 1] rfl)
theorem mb_X5_splitText : q_mb yX5_splitText cX5_splitText 2 none 0 := ⟨wc_X5_splitText, wn_X5, by decide, by decide, by decide +kernel⟩
theorem mv_X5_splitText : q_mv yX5_splitText 5 := ⟨wi_X5_splitText, ws_X5_splitText, _, rfl, rfl⟩
def wd_X5_splitText (cI cZ : ClassId) (AT AT_tx AT_tk AT_it AT_tk_c AT_tx_c : Nat) (vT_pl : Int32) (vT_nw : Int32) (vT_ts : Int32) (vT_tf : Int32) (vT_tk_n : Int32) (vT_tx_n : Int32) (fT_tk_c : Nat → Int32) (fT_tx_c : Nat → Int32) : va_W := [(AT, .inr (5, [.ref AT_tx, .ref AT_tk, .ref AT_it, .int vT_pl, .int vT_nw, .int vT_ts, .int vT_tf])), (AT_tk, .inr (3, [.int 3, .ref AT_tk_c, .int vT_tk_n])), (AT_tx, .inr (3, [.int 1, .ref AT_tx_c, .int vT_tx_n])), (AT_tk_c, .inl (cI, 453, .inl fT_tk_c)), (AT_tx_c, .inl (cI, 150, .inl fT_tx_c))]
def fL_X5_splitText_14 (vT_tx_n : Int32) (fT_tx_c : Nat → Int32) : Nat → Int32 → Int32 → Int32 → (Nat → Int32) → Option (Int32 × Int32 × (Nat → Int32))
  | 0, _, _, _, _ => none
  | fu + 1, x1, vT_pl, vT_tk_n, fT_tk_c => Option.bind (fm_X3_size vT_tx_n) (fun r_19 => if r_19 ≤ x1 then (Option.bind (fm_X3_size vT_tx_n) (fun r_86 => Option.bind (fm_X3_add 3 453 0 r_86 0 0 vT_tk_n fT_tk_c) (fun r_91 => some (vT_pl, r_91.1, r_91.2)))) else (Option.bind (fm_X3_size vT_tx_n) (fun r_33 => if r_33 ≤ vT_pl then (Option.bind (fm_X3_size vT_tx_n) (fun r_86 => Option.bind (fm_X3_add 3 453 0 r_86 0 0 vT_tk_n fT_tk_c) (fun r_91 => some (vT_pl, r_91.1, r_91.2)))) else (Option.bind (fm_X5_isLetter vT_pl vT_tx_n fT_tx_c) (fun r_40 => if r_40 = 0 then (Option.bind (fm_X5_isFigure vT_pl vT_tx_n fT_tx_c) (fun r_54 => if r_54 = 0 then (Option.bind (fm_X5_takeSign vT_pl vT_tx_n fT_tx_c vT_tk_n fT_tk_c) (fun r_68 => fL_X5_splitText_14 vT_tx_n fT_tx_c fu (x1 + 1) r_68.1 r_68.2.1 r_68.2.2)) else (Option.bind (fm_X5_takeNumber vT_pl vT_tx_n vT_tk_n fT_tk_c fT_tx_c) (fun r_61 => fL_X5_splitText_14 vT_tx_n fT_tx_c fu (x1 + 1) r_61.1 r_61.2.1 r_61.2.2)))) else (Option.bind (fm_X5_takeWord vT_pl vT_tx_n fT_tx_c vT_tk_n fT_tk_c) (fun r_47 => fL_X5_splitText_14 vT_tx_n fT_tx_c fu (x1 + 1) r_47.1 r_47.2.1 r_47.2.2)))))))
def fm_X5_splitText (vT_pl : Int32) (vT_tk_n : Int32) (vT_tx_n : Int32) (fT_tk_c : Nat → Int32) (fT_tx_c : Nat → Int32) : Option (Int32 × Int32 × (Nat → Int32)) := Option.bind (fm_X3_empty vT_tk_n) (fun r_4 => fL_X5_splitText_14 vT_tx_n fT_tx_c FU 0 0 r_4 fT_tk_c)
set_option maxHeartbeats 4000000 in
set_option maxRecDepth 100000 in
theorem c_X5_splitText (l : Launch) (adK adV : Nat → Nat) (D : va_G) (cI cZ : ClassId) (sz : Nat) (AT AT_tx AT_tk AT_it AT_tk_c AT_tx_c : Nat) (vT_pl : Int32) (vT_nw : Int32) (vT_ts : Int32) (vT_tf : Int32) (vT_tk_n : Int32) (vT_tx_n : Int32) (fT_tk_c : Nat → Int32) (fT_tx_c : Nat → Int32) (out : (Int32 × Int32 × (Nat → Int32))) (hm : fm_X5_splitText vT_pl vT_tk_n vT_tx_n fT_tk_c fT_tx_c = some out) : Met l yX5_splitText (Cond.code yX5_splitText cX5_splitText 2 none :: bg) { frames := 7, cells := 0, slots := 0, locals := 150 } (va_Pc [.ref AT] (q_preX adK adV D cI cZ sz (wd_X5_splitText cI cZ AT AT_tx AT_tk AT_it AT_tk_c AT_tx_c vT_pl vT_nw vT_ts vT_tf vT_tk_n vT_tx_n fT_tk_c fT_tx_c))) (q_Qv D (wd_X5_splitText cI cZ AT AT_tx AT_tk AT_it AT_tk_c AT_tx_c out.1 vT_nw vT_ts vT_tf out.2.1 vT_tx_n out.2.2 fT_tx_c) (va_A (wd_X5_splitText cI cZ AT AT_tx AT_tk AT_it AT_tk_c AT_tx_c vT_pl vT_nw vT_ts vT_tf vT_tk_n vT_tx_n fT_tk_c fT_tx_c) sz)) 0 0 (va_A (wd_X5_splitText cI cZ AT AT_tx AT_tk AT_it AT_tk_c AT_tx_c vT_pl vT_nw vT_ts vT_tf vT_tk_n vT_tx_n fT_tk_c fT_tx_c) sz) := by
  refine q_metX (fun A => q_Qv D (wd_X5_splitText cI cZ AT AT_tx AT_tk AT_it AT_tk_c AT_tx_c out.1 vT_nw vT_ts vT_tf out.2.1 vT_tx_n out.2.2 fT_tx_c) A) (by decide) (Nat.le_of_ble_eq_true rfl) ?_
  intro p e s m below meth c ls A hx hb hr hml hown hts hlocks _ hA hS hP hD hK hN hl hG
  have hown : s.vm.findClass RX5 = some m.cls := hown
  have hl : lv_has ls 2 [(0, .ref AT)] := hl
  have hL_14 : ∀ (fu_14 : Nat) (x1 : Int32) (vT_pl : Int32) (vT_tk_n : Int32) (fT_tk_c : Nat → Int32) (H : Heap) (locs : List Loc) (ls : Array Slot), fL_X5_splitText_14 vT_tx_n fT_tx_c fu_14 x1 vT_pl vT_tk_n fT_tk_c = some out → va_P D vwCl (wd_X5_splitText cI cZ AT AT_tx AT_tk AT_it AT_tk_c AT_tx_c vT_pl vT_nw vT_ts vT_tf vT_tk_n vT_tx_n fT_tk_c fT_tx_c) H → va_D A (wd_X5_splitText cI cZ AT AT_tx AT_tk AT_it AT_tk_c AT_tx_c vT_pl vT_nw vT_ts vT_tf vT_tk_n vT_tx_n fT_tk_c fT_tx_c) → va_S A s.heap H locs → lv_has ls 2 [(1, .int x1), (0, .ref AT)] → W p l e { frames := 7, cells := 0, slots := 0, locals := 150 } s m ([.ref AT] : List Value).toArray below meth c H locs 0 0 (MQ below (q_Qv D (wd_X5_splitText cI cZ AT AT_tx AT_tk AT_it AT_tk_c AT_tx_c out.1 vT_nw vT_ts vT_tf out.2.1 vT_tx_n out.2.2 fT_tx_c) A) ([.ref AT] : List Value).toArray s 0 0 A) (F0 m 14 ls []) := by
    intro fu_14
    induction fu_14 with
    | zero => intro x1 vT_pl vT_tk_n fT_tk_c H locs ls hm hP hD hS hl; exact absurd (show (none : Option (Int32 × Int32 × (Nat → Int32))) = some out from hm) (fun h => nomatch h)
    | succ fu_14 ih_14 =>
      intro x1 vT_pl vT_tk_n fT_tk_c H locs ls hm hP hD hS hl
      rw [fL_X5_splitText_14] at hm
      refine lv_iload_n hx hb dX5_splitText_14 rfl (lv_at hl 0 rfl) ?_
      refine lv_aload_n hx hb dX5_splitText_15 rfl (lv_at hl 1 rfl) ?_
      refine gf_X5_9 (v := .ref AT_tx) hx hb hts hown hK hN hP 0 rfl rfl dX5_splitText_16 ?_
      obtain ⟨r_19, hc_19, hm⟩ := ob_s hm
      refine q_ci (q_rv (rest := [.int x1]) ⟨hx, hb, hml, hown, hts⟩ hK hN hP hD (c_X3_size l D cI cZ H.size AT_tx AT_tx_c 1 vT_tx_n r_19 hc_19) mb_X3_size mv_X3_size wl_X5_54 [2] rfl rfl rfl (Nat.le_of_ble_eq_true rfl) (Nat.le_of_ble_eq_true rfl) rfl hl.1 rfl (Nat.le_of_ble_eq_true rfl) ⟨Nat.le_refl 0, Nat.le_refl 0⟩ dX5_splitText_19) hP hD hS hA [2] rfl rfl (fun H locs hP hD hS => ?_)
      have hP : va_P D vwCl (wd_X5_splitText cI cZ AT AT_tx AT_tk AT_it AT_tk_c AT_tx_c vT_pl vT_nw vT_ts vT_tf vT_tk_n vT_tx_n fT_tk_c fT_tx_c) H := hP
      have hD : va_D A (wd_X5_splitText cI cZ AT AT_tx AT_tk AT_it AT_tk_c AT_tx_c vT_pl vT_nw vT_ts vT_tf vT_tk_n vT_tx_n fT_tk_c fT_tx_c) := hD
      refine lv_icmp_ge (tgt := 77) hx hb dX5_splitText_22 (by decide) (fun c_22 => ?_) (fun c_22 => ?_)
      · have hm := it_s c_22 hm
        refine lv_aload_n hx hb dX5_splitText_77 rfl (lv_at hl 1 rfl) ?_
        refine gf_X5_20 (v := .ref AT_tk) hx hb hts hown hK hN hP 0 rfl rfl dX5_splitText_78 ?_
        refine lv_iconst (v := 0) hx hb dX5_splitText_81 (by decide) ?_
        refine lv_aload_n hx hb dX5_splitText_82 rfl (lv_at hl 1 rfl) ?_
        refine gf_X5_9 (v := .ref AT_tx) hx hb hts hown hK hN hP 0 rfl rfl dX5_splitText_83 ?_
        obtain ⟨r_86, hc_86, hm⟩ := ob_s hm
        refine q_ci (q_rv (rest := [.int 0, .ref AT_tk]) ⟨hx, hb, hml, hown, hts⟩ hK hN hP hD (c_X3_size l D cI cZ H.size AT_tx AT_tx_c 1 vT_tx_n r_86 hc_86) mb_X3_size mv_X3_size wl_X5_54 [2] rfl rfl rfl (Nat.le_of_ble_eq_true rfl) (Nat.le_of_ble_eq_true rfl) rfl hl.1 rfl (Nat.le_of_ble_eq_true rfl) ⟨Nat.le_refl 0, Nat.le_refl 0⟩ dX5_splitText_86) hP hD hS hA [2] rfl rfl (fun H locs hP hD hS => ?_)
        have hP : va_P D vwCl (wd_X5_splitText cI cZ AT AT_tx AT_tk AT_it AT_tk_c AT_tx_c vT_pl vT_nw vT_ts vT_tf vT_tk_n vT_tx_n fT_tk_c fT_tx_c) H := hP
        have hD : va_D A (wd_X5_splitText cI cZ AT AT_tx AT_tk AT_it AT_tk_c AT_tx_c vT_pl vT_nw vT_ts vT_tf vT_tk_n vT_tx_n fT_tk_c fT_tx_c) := hD
        refine lv_iconst (v := 0) hx hb dX5_splitText_89 (by decide) ?_
        refine lv_iconst (v := 0) hx hb dX5_splitText_90 (by decide) ?_
        obtain ⟨r_91, hc_91, hm⟩ := ob_s hm
        refine q_cv (q_rv (rest := []) ⟨hx, hb, hml, hown, hts⟩ hK hN hP hD (c_X3_add l D cI cZ H.size AT_tk AT_tk_c 3 453 vT_tk_n fT_tk_c 0 r_86 0 0 r_91 hc_91) mb_X3_add mv_X3_add wl_X5_99 [1, 3] rfl rfl rfl (Nat.le_of_ble_eq_true rfl) (Nat.le_of_ble_eq_true rfl) rfl hl.1 rfl (Nat.le_of_ble_eq_true rfl) ⟨Nat.le_refl 0, Nat.le_refl 0⟩ dX5_splitText_91) hP hD hS hA [1, 3] rfl rfl (fun H locs hP hD hS => ?_)
        have hP : va_P D vwCl (wd_X5_splitText cI cZ AT AT_tx AT_tk AT_it AT_tk_c AT_tx_c vT_pl vT_nw vT_ts vT_tf r_91.1 vT_tx_n r_91.2 fT_tx_c) H := hP
        have hD : va_D A (wd_X5_splitText cI cZ AT AT_tx AT_tk AT_it AT_tk_c AT_tx_c vT_pl vT_nw vT_ts vT_tf r_91.1 vT_tx_n r_91.2 fT_tx_c) := hD
        have hm := Option.some.inj hm
        subst hm
        exact q_vret hx hb hr hlocks hP hS dX5_splitText_94
      · have hm := it_n c_22 hm
        refine lv_aload_n hx hb dX5_splitText_25 rfl (lv_at hl 1 rfl) ?_
        refine gf_X5_107 (v := .int vT_pl) hx hb hts hown hK hN hP 0 rfl rfl dX5_splitText_26 ?_
        refine lv_aload_n hx hb dX5_splitText_29 rfl (lv_at hl 1 rfl) ?_
        refine gf_X5_9 (v := .ref AT_tx) hx hb hts hown hK hN hP 0 rfl rfl dX5_splitText_30 ?_
        obtain ⟨r_33, hc_33, hm⟩ := ob_s hm
        refine q_ci (q_rv (rest := [.int vT_pl]) ⟨hx, hb, hml, hown, hts⟩ hK hN hP hD (c_X3_size l D cI cZ H.size AT_tx AT_tx_c 1 vT_tx_n r_33 hc_33) mb_X3_size mv_X3_size wl_X5_54 [2] rfl rfl rfl (Nat.le_of_ble_eq_true rfl) (Nat.le_of_ble_eq_true rfl) rfl hl.1 rfl (Nat.le_of_ble_eq_true rfl) ⟨Nat.le_refl 0, Nat.le_refl 0⟩ dX5_splitText_33) hP hD hS hA [2] rfl rfl (fun H locs hP hD hS => ?_)
        have hP : va_P D vwCl (wd_X5_splitText cI cZ AT AT_tx AT_tk AT_it AT_tk_c AT_tx_c vT_pl vT_nw vT_ts vT_tf vT_tk_n vT_tx_n fT_tk_c fT_tx_c) H := hP
        have hD : va_D A (wd_X5_splitText cI cZ AT AT_tx AT_tk AT_it AT_tk_c AT_tx_c vT_pl vT_nw vT_ts vT_tf vT_tk_n vT_tx_n fT_tk_c fT_tx_c) := hD
        refine lv_icmp_ge (tgt := 77) hx hb dX5_splitText_36 (by decide) (fun c_36 => ?_) (fun c_36 => ?_)
        · have hm := it_s c_36 hm
          refine lv_aload_n hx hb dX5_splitText_77 rfl (lv_at hl 1 rfl) ?_
          refine gf_X5_20 (v := .ref AT_tk) hx hb hts hown hK hN hP 0 rfl rfl dX5_splitText_78 ?_
          refine lv_iconst (v := 0) hx hb dX5_splitText_81 (by decide) ?_
          refine lv_aload_n hx hb dX5_splitText_82 rfl (lv_at hl 1 rfl) ?_
          refine gf_X5_9 (v := .ref AT_tx) hx hb hts hown hK hN hP 0 rfl rfl dX5_splitText_83 ?_
          obtain ⟨r_86, hc_86, hm⟩ := ob_s hm
          refine q_ci (q_rv (rest := [.int 0, .ref AT_tk]) ⟨hx, hb, hml, hown, hts⟩ hK hN hP hD (c_X3_size l D cI cZ H.size AT_tx AT_tx_c 1 vT_tx_n r_86 hc_86) mb_X3_size mv_X3_size wl_X5_54 [2] rfl rfl rfl (Nat.le_of_ble_eq_true rfl) (Nat.le_of_ble_eq_true rfl) rfl hl.1 rfl (Nat.le_of_ble_eq_true rfl) ⟨Nat.le_refl 0, Nat.le_refl 0⟩ dX5_splitText_86) hP hD hS hA [2] rfl rfl (fun H locs hP hD hS => ?_)
          have hP : va_P D vwCl (wd_X5_splitText cI cZ AT AT_tx AT_tk AT_it AT_tk_c AT_tx_c vT_pl vT_nw vT_ts vT_tf vT_tk_n vT_tx_n fT_tk_c fT_tx_c) H := hP
          have hD : va_D A (wd_X5_splitText cI cZ AT AT_tx AT_tk AT_it AT_tk_c AT_tx_c vT_pl vT_nw vT_ts vT_tf vT_tk_n vT_tx_n fT_tk_c fT_tx_c) := hD
          refine lv_iconst (v := 0) hx hb dX5_splitText_89 (by decide) ?_
          refine lv_iconst (v := 0) hx hb dX5_splitText_90 (by decide) ?_
          obtain ⟨r_91, hc_91, hm⟩ := ob_s hm
          refine q_cv (q_rv (rest := []) ⟨hx, hb, hml, hown, hts⟩ hK hN hP hD (c_X3_add l D cI cZ H.size AT_tk AT_tk_c 3 453 vT_tk_n fT_tk_c 0 r_86 0 0 r_91 hc_91) mb_X3_add mv_X3_add wl_X5_99 [1, 3] rfl rfl rfl (Nat.le_of_ble_eq_true rfl) (Nat.le_of_ble_eq_true rfl) rfl hl.1 rfl (Nat.le_of_ble_eq_true rfl) ⟨Nat.le_refl 0, Nat.le_refl 0⟩ dX5_splitText_91) hP hD hS hA [1, 3] rfl rfl (fun H locs hP hD hS => ?_)
          have hP : va_P D vwCl (wd_X5_splitText cI cZ AT AT_tx AT_tk AT_it AT_tk_c AT_tx_c vT_pl vT_nw vT_ts vT_tf r_91.1 vT_tx_n r_91.2 fT_tx_c) H := hP
          have hD : va_D A (wd_X5_splitText cI cZ AT AT_tx AT_tk AT_it AT_tk_c AT_tx_c vT_pl vT_nw vT_ts vT_tf r_91.1 vT_tx_n r_91.2 fT_tx_c) := hD
          have hm := Option.some.inj hm
          subst hm
          exact q_vret hx hb hr hlocks hP hS dX5_splitText_94
        · have hm := it_n c_36 hm
          refine lv_aload_n hx hb dX5_splitText_39 rfl (lv_at hl 1 rfl) ?_
          obtain ⟨r_40, hc_40, hm⟩ := ob_s hm
          refine q_ci (q_rv (rest := []) ⟨hx, hb, hml, hown, hts⟩ hK hN hP hD (c_X5_isLetter l D cI cZ H.size AT AT_tx AT_tk AT_it AT_tx_c vT_pl vT_nw vT_ts vT_tf vT_tx_n fT_tx_c r_40 hc_40) mb_X5_isLetter mv_X5_isLetter wl_X5_110 [0, 2, 4] rfl rfl rfl (Nat.le_of_ble_eq_true rfl) (Nat.le_of_ble_eq_true rfl) rfl hl.1 rfl (Nat.le_of_ble_eq_true rfl) ⟨Nat.le_refl 0, Nat.le_refl 0⟩ dX5_splitText_40) hP hD hS hA [0, 2, 4] rfl rfl (fun H locs hP hD hS => ?_)
          have hP : va_P D vwCl (wd_X5_splitText cI cZ AT AT_tx AT_tk AT_it AT_tk_c AT_tx_c vT_pl vT_nw vT_ts vT_tf vT_tk_n vT_tx_n fT_tk_c fT_tx_c) H := hP
          have hD : va_D A (wd_X5_splitText cI cZ AT AT_tx AT_tk AT_it AT_tk_c AT_tx_c vT_pl vT_nw vT_ts vT_tf vT_tk_n vT_tx_n fT_tk_c fT_tx_c) := hD
          refine lv_if_eq (tgt := 53) hx hb dX5_splitText_43 (by decide) (fun c_43 => ?_) (fun c_43 => ?_)
          · have hm := it_s c_43 hm
            refine lv_aload_n hx hb dX5_splitText_53 rfl (lv_at hl 1 rfl) ?_
            obtain ⟨r_54, hc_54, hm⟩ := ob_s hm
            refine q_ci (q_rv (rest := []) ⟨hx, hb, hml, hown, hts⟩ hK hN hP hD (c_X5_isFigure l D cI cZ H.size AT AT_tx AT_tk AT_it AT_tx_c vT_pl vT_nw vT_ts vT_tf vT_tx_n fT_tx_c r_54 hc_54) mb_X5_isFigure mv_X5_isFigure wl_X5_116 [0, 2, 4] rfl rfl rfl (Nat.le_of_ble_eq_true rfl) (Nat.le_of_ble_eq_true rfl) rfl hl.1 rfl (Nat.le_of_ble_eq_true rfl) ⟨Nat.le_refl 0, Nat.le_refl 0⟩ dX5_splitText_54) hP hD hS hA [0, 2, 4] rfl rfl (fun H locs hP hD hS => ?_)
            have hP : va_P D vwCl (wd_X5_splitText cI cZ AT AT_tx AT_tk AT_it AT_tk_c AT_tx_c vT_pl vT_nw vT_ts vT_tf vT_tk_n vT_tx_n fT_tk_c fT_tx_c) H := hP
            have hD : va_D A (wd_X5_splitText cI cZ AT AT_tx AT_tk AT_it AT_tk_c AT_tx_c vT_pl vT_nw vT_ts vT_tf vT_tk_n vT_tx_n fT_tk_c fT_tx_c) := hD
            refine lv_if_eq (tgt := 67) hx hb dX5_splitText_57 (by decide) (fun c_57 => ?_) (fun c_57 => ?_)
            · have hm := it_s c_57 hm
              refine lv_aload_n hx hb dX5_splitText_67 rfl (lv_at hl 1 rfl) ?_
              obtain ⟨r_68, hc_68, hm⟩ := ob_s hm
              refine q_cv (q_rv (rest := []) ⟨hx, hb, hml, hown, hts⟩ hK hN hP hD (c_X5_takeSign l D cI cZ H.size AT AT_tx AT_tk AT_it AT_tx_c AT_tk_c vT_pl vT_nw vT_ts vT_tf vT_tx_n fT_tx_c vT_tk_n fT_tk_c r_68 hc_68) mb_X5_takeSign mv_X5_takeSign wl_X5_122 [0, 2, 4, 1, 3] rfl rfl rfl (Nat.le_of_ble_eq_true rfl) (Nat.le_of_ble_eq_true rfl) rfl hl.1 rfl (Nat.le_of_ble_eq_true rfl) ⟨Nat.le_refl 0, Nat.le_refl 0⟩ dX5_splitText_68) hP hD hS hA [0, 2, 4, 1, 3] rfl rfl (fun H locs hP hD hS => ?_)
              have hP : va_P D vwCl (wd_X5_splitText cI cZ AT AT_tx AT_tk AT_it AT_tk_c AT_tx_c r_68.1 vT_nw vT_ts vT_tf r_68.2.1 vT_tx_n r_68.2.2 fT_tx_c) H := hP
              have hD : va_D A (wd_X5_splitText cI cZ AT AT_tx AT_tk AT_it AT_tk_c AT_tx_c r_68.1 vT_nw vT_ts vT_tf r_68.2.1 vT_tx_n r_68.2.2 fT_tx_c) := hD
              refine lv_iinc (v := (x1 + 1)) (lv' := [(1, .int (x1 + 1)), (0, .ref AT)]) hx hb dX5_splitText_71 hl (k := 0) rfl rfl (by decide) rfl (fun ls hl => ?_)
              refine lv_goto (tgt := 14) hx hb dX5_splitText_74 (by decide) ?_
              exact ih_14 (x1 + 1) r_68.1 r_68.2.1 r_68.2.2 H locs ls hm hP hD hS (lv_sub hl [0, 1] rfl)
            · have hm := it_n c_57 hm
              refine lv_aload_n hx hb dX5_splitText_60 rfl (lv_at hl 1 rfl) ?_
              obtain ⟨r_61, hc_61, hm⟩ := ob_s hm
              refine q_cv (q_rv (rest := []) ⟨hx, hb, hml, hown, hts⟩ hK hN hP hD (c_X5_takeNumber l D cI cZ H.size AT AT_tx AT_tk AT_it AT_tx_c AT_tk_c vT_pl vT_nw vT_ts vT_tf vT_tx_n vT_tk_n fT_tk_c fT_tx_c r_61 hc_61) mb_X5_takeNumber mv_X5_takeNumber wl_X5_119 [0, 2, 1, 3, 4] rfl rfl rfl (Nat.le_of_ble_eq_true rfl) (Nat.le_of_ble_eq_true rfl) rfl hl.1 rfl (Nat.le_of_ble_eq_true rfl) ⟨Nat.le_refl 0, Nat.le_refl 0⟩ dX5_splitText_61) hP hD hS hA [0, 2, 1, 3, 4] rfl rfl (fun H locs hP hD hS => ?_)
              have hP : va_P D vwCl (wd_X5_splitText cI cZ AT AT_tx AT_tk AT_it AT_tk_c AT_tx_c r_61.1 vT_nw vT_ts vT_tf r_61.2.1 vT_tx_n r_61.2.2 fT_tx_c) H := hP
              have hD : va_D A (wd_X5_splitText cI cZ AT AT_tx AT_tk AT_it AT_tk_c AT_tx_c r_61.1 vT_nw vT_ts vT_tf r_61.2.1 vT_tx_n r_61.2.2 fT_tx_c) := hD
              refine lv_goto (tgt := 71) hx hb dX5_splitText_64 (by decide) ?_
              refine lv_iinc (v := (x1 + 1)) (lv' := [(1, .int (x1 + 1)), (0, .ref AT)]) hx hb dX5_splitText_71 hl (k := 0) rfl rfl (by decide) rfl (fun ls hl => ?_)
              refine lv_goto (tgt := 14) hx hb dX5_splitText_74 (by decide) ?_
              exact ih_14 (x1 + 1) r_61.1 r_61.2.1 r_61.2.2 H locs ls hm hP hD hS (lv_sub hl [0, 1] rfl)
          · have hm := it_n c_43 hm
            refine lv_aload_n hx hb dX5_splitText_46 rfl (lv_at hl 1 rfl) ?_
            obtain ⟨r_47, hc_47, hm⟩ := ob_s hm
            refine q_cv (q_rvY (rest := []) ⟨hx, hb, hml, hown, hts⟩ hG hK hN hP hD hS hA (c_X5_takeWord l adK adV D cI cZ H.size AT AT_tx AT_tk AT_it AT_tx_c AT_tk_c vT_pl vT_nw vT_ts vT_tf vT_tx_n fT_tx_c vT_tk_n fT_tk_c r_47 hc_47) mb_X5_takeWord mv_X5_takeWord wl_X5_113 [0, 2, 4, 1, 3] rfl rfl rfl (Nat.le_of_ble_eq_true rfl) (Nat.le_of_ble_eq_true rfl) rfl hl.1 rfl (Nat.le_of_ble_eq_true rfl) ⟨Nat.le_refl 0, Nat.le_refl 0⟩ dX5_splitText_47) hP hD hS hA [0, 2, 4, 1, 3] rfl rfl (fun H locs hP hD hS => ?_)
            have hP : va_P D vwCl (wd_X5_splitText cI cZ AT AT_tx AT_tk AT_it AT_tk_c AT_tx_c r_47.1 vT_nw vT_ts vT_tf r_47.2.1 vT_tx_n r_47.2.2 fT_tx_c) H := hP
            have hD : va_D A (wd_X5_splitText cI cZ AT AT_tx AT_tk AT_it AT_tk_c AT_tx_c r_47.1 vT_nw vT_ts vT_tf r_47.2.1 vT_tx_n r_47.2.2 fT_tx_c) := hD
            refine lv_goto (tgt := 71) hx hb dX5_splitText_50 (by decide) ?_
            refine lv_iinc (v := (x1 + 1)) (lv' := [(1, .int (x1 + 1)), (0, .ref AT)]) hx hb dX5_splitText_71 hl (k := 0) rfl rfl (by decide) rfl (fun ls hl => ?_)
            refine lv_goto (tgt := 14) hx hb dX5_splitText_74 (by decide) ?_
            exact ih_14 (x1 + 1) r_47.1 r_47.2.1 r_47.2.2 H locs ls hm hP hD hS (lv_sub hl [0, 1] rfl)
  unfold fm_X5_splitText at hm
  refine q_gen hS hP ?_
  intro H locs hP hS
  refine lv_aload_n hx hb dX5_splitText_0 rfl (lv_at hl 0 rfl) ?_
  refine gf_X5_20 (v := .ref AT_tk) hx hb hts hown hK hN hP 0 rfl rfl dX5_splitText_1 ?_
  obtain ⟨r_4, hc_4, hm⟩ := ob_s hm
  refine q_cv (q_rv (rest := []) ⟨hx, hb, hml, hown, hts⟩ hK hN hP hD (c_X3_empty l D cI cZ H.size AT_tk AT_tk_c 3 vT_tk_n r_4 hc_4) mb_X3_empty mv_X3_empty wl_X5_37 [1] rfl rfl rfl (Nat.le_of_ble_eq_true rfl) (Nat.le_of_ble_eq_true rfl) rfl hl.1 rfl (Nat.le_of_ble_eq_true rfl) ⟨Nat.le_refl 0, Nat.le_refl 0⟩ dX5_splitText_4) hP hD hS hA [1] rfl rfl (fun H locs hP hD hS => ?_)
  have hP : va_P D vwCl (wd_X5_splitText cI cZ AT AT_tx AT_tk AT_it AT_tk_c AT_tx_c vT_pl vT_nw vT_ts vT_tf r_4 vT_tx_n fT_tk_c fT_tx_c) H := hP
  have hD : va_D A (wd_X5_splitText cI cZ AT AT_tx AT_tk AT_it AT_tk_c AT_tx_c vT_pl vT_nw vT_ts vT_tf r_4 vT_tx_n fT_tk_c fT_tx_c) := hD
  refine lv_aload_n hx hb dX5_splitText_7 rfl (lv_at hl 0 rfl) ?_
  refine lv_iconst (v := 0) hx hb dX5_splitText_8 (by decide) ?_
  refine pf_X5_107 hx hb hts hown hK hN hP hD hS 0 rfl dX5_splitText_9 (fun H locs hP hD hS => ?_)
  have hP : va_P D vwCl (wd_X5_splitText cI cZ AT AT_tx AT_tk AT_it AT_tk_c AT_tx_c 0 vT_nw vT_ts vT_tf r_4 vT_tx_n fT_tk_c fT_tx_c) H := hP
  have hD : va_D A (wd_X5_splitText cI cZ AT AT_tx AT_tk AT_it AT_tk_c AT_tx_c 0 vT_nw vT_ts vT_tf r_4 vT_tx_n fT_tk_c fT_tx_c) := hD
  refine lv_iconst (v := 0) hx hb dX5_splitText_12 (by decide) ?_
  refine lv_istore_n (lv' := [(1, .int 0), (0, .ref AT)]) hx hb dX5_splitText_13 rfl hl (by decide) rfl (fun ls hl => ?_)
  exact hL_14 FU 0 0 r_4 fT_tk_c H locs ls hm hP hD hS (lv_sub hl [0, 1] rfl)
theorem mb_X5_readItems : q_mb yX5_readItems cX5_readItems 1 (some .int) 0 := ⟨wc_X5_readItems, wn_X5, by decide, by decide, by decide +kernel⟩
theorem mv_X5_readItems : q_mv yX5_readItems 5 := ⟨wi_X5_readItems, ws_X5_readItems, _, rfl, rfl⟩
def wd_X5_readItems (cI cZ : ClassId) (AT AT_tx AT_tk AT_it AT_tk_c AT_tx_c AT_it_c : Nat) (vT_pl : Int32) (vT_nw : Int32) (vT_ts : Int32) (vT_tf : Int32) (vT_tk_n : Int32) (vT_tx_n : Int32) (fT_tk_c : Nat → Int32) (fT_tx_c : Nat → Int32) (vT_it_n : Int32) (fT_it_c : Nat → Int32) : va_W := [(AT, .inr (5, [.ref AT_tx, .ref AT_tk, .ref AT_it, .int vT_pl, .int vT_nw, .int vT_ts, .int vT_tf])), (AT_tk, .inr (3, [.int 3, .ref AT_tk_c, .int vT_tk_n])), (AT_tx, .inr (3, [.int 1, .ref AT_tx_c, .int vT_tx_n])), (AT_tk_c, .inl (cI, 453, .inl fT_tk_c)), (AT_tx_c, .inl (cI, 150, .inl fT_tx_c)), (AT_it, .inr (3, [.int 4, .ref AT_it_c, .int vT_it_n])), (AT_it_c, .inl (cI, 76, .inl fT_it_c))]
def fL_X5_readItems_53 (vT_tx_n : Int32) (fT_tx_c : Nat → Int32) : Nat → Int32 → Int32 → Int32 → Int32 → Int32 → (Nat → Int32) → Int32 → (Nat → Int32) → Option (Int32 × Int32 × Int32 × Int32 × Int32 × Int32 × (Nat → Int32) × Int32 × (Nat → Int32))
  | 0, _, _, _, _, _, _, _, _ => none
  | fu + 1, vT_pl, vT_nw, vT_ts, vT_tf, vT_tk_n, fT_tk_c, vT_it_n, fT_it_c => Option.bind (fm_X3_size vT_tk_n) (fun r_61 => if r_61 ≤ vT_nw then (Option.bind (fm_X3_size vT_it_n) (fun r_100 => some ((r_100 + 1), vT_pl, vT_nw, vT_ts, vT_tf, vT_tk_n, fT_tk_c, vT_it_n, fT_it_c))) else (Option.bind (fm_X5_token vT_nw vT_tk_n fT_tk_c) (fun r_68 => if r_68 = 0 then (Option.bind (fm_X3_size vT_it_n) (fun r_100 => some ((r_100 + 1), vT_pl, vT_nw, vT_ts, vT_tf, vT_tk_n, fT_tk_c, vT_it_n, fT_it_c))) else (Option.bind (fm_X5_readItem vT_nw vT_ts vT_tf vT_tk_n fT_tk_c vT_it_n fT_it_c) (fun r_75 => if r_75.1 = 0 then (some ((-1), vT_pl, r_75.2.1, r_75.2.2.1, r_75.2.2.2.1, vT_tk_n, fT_tk_c, r_75.2.2.2.2.1, r_75.2.2.2.2.2)) else (fL_X5_readItems_53 vT_tx_n fT_tx_c fu vT_pl (r_75.2.1 + 1) r_75.2.2.1 r_75.2.2.2.1 vT_tk_n fT_tk_c r_75.2.2.2.2.1 r_75.2.2.2.2.2))))))
def fm_X5_readItems (vT_pl : Int32) (vT_nw : Int32) (vT_ts : Int32) (vT_tf : Int32) (vT_tk_n : Int32) (vT_tx_n : Int32) (fT_tk_c : Nat → Int32) (fT_tx_c : Nat → Int32) (vT_it_n : Int32) (fT_it_c : Nat → Int32) : Option (Int32 × Int32 × Int32 × Int32 × Int32 × Int32 × (Nat → Int32) × Int32 × (Nat → Int32)) := Option.bind (fm_X5_splitText vT_pl vT_tk_n vT_tx_n fT_tk_c fT_tx_c) (fun r_1 => Option.bind (fm_X3_empty vT_it_n) (fun r_8 => Option.bind (fm_X5_token 0 r_1.2.1 r_1.2.2) (fun r_27 => if r_27 = 4 then (Option.bind (fm_X5_ends 0 r_1.2.1 r_1.2.2) (fun r_35 => if r_35.1 = 0 then (some ((-1), r_1.1, r_35.2, 0, 0, r_1.2.1, r_1.2.2, r_8, fT_it_c)) else (fL_X5_readItems_53 vT_tx_n fT_tx_c FU r_1.1 (r_35.2 + 1) 0 0 r_1.2.1 r_1.2.2 r_8 fT_it_c))) else (some ((-1), r_1.1, 0, 0, 0, r_1.2.1, r_1.2.2, r_8, fT_it_c)))))
set_option maxHeartbeats 4000000 in
set_option maxRecDepth 100000 in
theorem c_X5_readItems (l : Launch) (adK adV : Nat → Nat) (D : va_G) (cI cZ : ClassId) (sz : Nat) (AT AT_tx AT_tk AT_it AT_tk_c AT_tx_c AT_it_c : Nat) (vT_pl : Int32) (vT_nw : Int32) (vT_ts : Int32) (vT_tf : Int32) (vT_tk_n : Int32) (vT_tx_n : Int32) (fT_tk_c : Nat → Int32) (fT_tx_c : Nat → Int32) (vT_it_n : Int32) (fT_it_c : Nat → Int32) (out : (Int32 × Int32 × Int32 × Int32 × Int32 × Int32 × (Nat → Int32) × Int32 × (Nat → Int32))) (hm : fm_X5_readItems vT_pl vT_nw vT_ts vT_tf vT_tk_n vT_tx_n fT_tk_c fT_tx_c vT_it_n fT_it_c = some out) : Met l yX5_readItems (Cond.code yX5_readItems cX5_readItems 1 (some .int) :: bg) { frames := 8, cells := 0, slots := 0, locals := 171 } (va_Pc [.ref AT] (q_preX adK adV D cI cZ sz (wd_X5_readItems cI cZ AT AT_tx AT_tk AT_it AT_tk_c AT_tx_c AT_it_c vT_pl vT_nw vT_ts vT_tf vT_tk_n vT_tx_n fT_tk_c fT_tx_c vT_it_n fT_it_c))) (q_Qi D (wd_X5_readItems cI cZ AT AT_tx AT_tk AT_it AT_tk_c AT_tx_c AT_it_c out.2.1 out.2.2.1 out.2.2.2.1 out.2.2.2.2.1 out.2.2.2.2.2.1 vT_tx_n out.2.2.2.2.2.2.1 fT_tx_c out.2.2.2.2.2.2.2.1 out.2.2.2.2.2.2.2.2) out.1 (va_A (wd_X5_readItems cI cZ AT AT_tx AT_tk AT_it AT_tk_c AT_tx_c AT_it_c vT_pl vT_nw vT_ts vT_tf vT_tk_n vT_tx_n fT_tk_c fT_tx_c vT_it_n fT_it_c) sz)) 0 0 (va_A (wd_X5_readItems cI cZ AT AT_tx AT_tk AT_it AT_tk_c AT_tx_c AT_it_c vT_pl vT_nw vT_ts vT_tf vT_tk_n vT_tx_n fT_tk_c fT_tx_c vT_it_n fT_it_c) sz) := by
  refine q_metX (fun A => q_Qi D (wd_X5_readItems cI cZ AT AT_tx AT_tk AT_it AT_tk_c AT_tx_c AT_it_c out.2.1 out.2.2.1 out.2.2.2.1 out.2.2.2.2.1 out.2.2.2.2.2.1 vT_tx_n out.2.2.2.2.2.2.1 fT_tx_c out.2.2.2.2.2.2.2.1 out.2.2.2.2.2.2.2.2) out.1 A) (by decide) (Nat.le_of_ble_eq_true rfl) ?_
  intro p e s m below meth c ls A hx hb hr hml hown hts hlocks _ hA hS hP hD hK hN hl hG
  have hown : s.vm.findClass RX5 = some m.cls := hown
  have hl : lv_has ls 1 [(0, .ref AT)] := hl
  have hL_53 : ∀ (fu_53 : Nat) (vT_pl : Int32) (vT_nw : Int32) (vT_ts : Int32) (vT_tf : Int32) (vT_tk_n : Int32) (fT_tk_c : Nat → Int32) (vT_it_n : Int32) (fT_it_c : Nat → Int32) (H : Heap) (locs : List Loc) (ls : Array Slot), fL_X5_readItems_53 vT_tx_n fT_tx_c fu_53 vT_pl vT_nw vT_ts vT_tf vT_tk_n fT_tk_c vT_it_n fT_it_c = some out → va_P D vwCl (wd_X5_readItems cI cZ AT AT_tx AT_tk AT_it AT_tk_c AT_tx_c AT_it_c vT_pl vT_nw vT_ts vT_tf vT_tk_n vT_tx_n fT_tk_c fT_tx_c vT_it_n fT_it_c) H → va_D A (wd_X5_readItems cI cZ AT AT_tx AT_tk AT_it AT_tk_c AT_tx_c AT_it_c vT_pl vT_nw vT_ts vT_tf vT_tk_n vT_tx_n fT_tk_c fT_tx_c vT_it_n fT_it_c) → va_S A s.heap H locs → lv_has ls 1 [(0, .ref AT)] → W p l e { frames := 8, cells := 0, slots := 0, locals := 171 } s m ([.ref AT] : List Value).toArray below meth c H locs 0 0 (MQ below (q_Qi D (wd_X5_readItems cI cZ AT AT_tx AT_tk AT_it AT_tk_c AT_tx_c AT_it_c out.2.1 out.2.2.1 out.2.2.2.1 out.2.2.2.2.1 out.2.2.2.2.2.1 vT_tx_n out.2.2.2.2.2.2.1 fT_tx_c out.2.2.2.2.2.2.2.1 out.2.2.2.2.2.2.2.2) out.1 A) ([.ref AT] : List Value).toArray s 0 0 A) (F0 m 53 ls []) := by
    intro fu_53
    induction fu_53 with
    | zero => intro vT_pl vT_nw vT_ts vT_tf vT_tk_n fT_tk_c vT_it_n fT_it_c H locs ls hm hP hD hS hl; exact absurd (show (none : Option (Int32 × Int32 × Int32 × Int32 × Int32 × Int32 × (Nat → Int32) × Int32 × (Nat → Int32))) = some out from hm) (fun h => nomatch h)
    | succ fu_53 ih_53 =>
      intro vT_pl vT_nw vT_ts vT_tf vT_tk_n fT_tk_c vT_it_n fT_it_c H locs ls hm hP hD hS hl
      rw [fL_X5_readItems_53] at hm
      refine lv_aload_n hx hb dX5_readItems_53 rfl (lv_at hl 0 rfl) ?_
      refine gf_X5_26 (v := .int vT_nw) hx hb hts hown hK hN hP 0 rfl rfl dX5_readItems_54 ?_
      refine lv_aload_n hx hb dX5_readItems_57 rfl (lv_at hl 0 rfl) ?_
      refine gf_X5_20 (v := .ref AT_tk) hx hb hts hown hK hN hP 0 rfl rfl dX5_readItems_58 ?_
      obtain ⟨r_61, hc_61, hm⟩ := ob_s hm
      refine q_ci (q_rv (rest := [.int vT_nw]) ⟨hx, hb, hml, hown, hts⟩ hK hN hP hD (c_X3_size l D cI cZ H.size AT_tk AT_tk_c 3 vT_tk_n r_61 hc_61) mb_X3_size mv_X3_size wl_X5_54 [1] rfl rfl rfl (Nat.le_of_ble_eq_true rfl) (Nat.le_of_ble_eq_true rfl) rfl hl.1 rfl (Nat.le_of_ble_eq_true rfl) ⟨Nat.le_refl 0, Nat.le_refl 0⟩ dX5_readItems_61) hP hD hS hA [1] rfl rfl (fun H locs hP hD hS => ?_)
      have hP : va_P D vwCl (wd_X5_readItems cI cZ AT AT_tx AT_tk AT_it AT_tk_c AT_tx_c AT_it_c vT_pl vT_nw vT_ts vT_tf vT_tk_n vT_tx_n fT_tk_c fT_tx_c vT_it_n fT_it_c) H := hP
      have hD : va_D A (wd_X5_readItems cI cZ AT AT_tx AT_tk AT_it AT_tk_c AT_tx_c AT_it_c vT_pl vT_nw vT_ts vT_tf vT_tk_n vT_tx_n fT_tk_c fT_tx_c vT_it_n fT_it_c) := hD
      refine lv_icmp_ge (tgt := 96) hx hb dX5_readItems_64 (by decide) (fun c_64 => ?_) (fun c_64 => ?_)
      · have hm := it_s c_64 hm
        refine lv_aload_n hx hb dX5_readItems_96 rfl (lv_at hl 0 rfl) ?_
        refine gf_X5_23 (v := .ref AT_it) hx hb hts hown hK hN hP 0 rfl rfl dX5_readItems_97 ?_
        obtain ⟨r_100, hc_100, hm⟩ := ob_s hm
        refine q_ci (q_rv (rest := []) ⟨hx, hb, hml, hown, hts⟩ hK hN hP hD (c_X3_size l D cI cZ H.size AT_it AT_it_c 4 vT_it_n r_100 hc_100) mb_X3_size mv_X3_size wl_X5_54 [5] rfl rfl rfl (Nat.le_of_ble_eq_true rfl) (Nat.le_of_ble_eq_true rfl) rfl hl.1 rfl (Nat.le_of_ble_eq_true rfl) ⟨Nat.le_refl 0, Nat.le_refl 0⟩ dX5_readItems_100) hP hD hS hA [5] rfl rfl (fun H locs hP hD hS => ?_)
        have hP : va_P D vwCl (wd_X5_readItems cI cZ AT AT_tx AT_tk AT_it AT_tk_c AT_tx_c AT_it_c vT_pl vT_nw vT_ts vT_tf vT_tk_n vT_tx_n fT_tk_c fT_tx_c vT_it_n fT_it_c) H := hP
        have hD : va_D A (wd_X5_readItems cI cZ AT AT_tx AT_tk AT_it AT_tk_c AT_tx_c AT_it_c vT_pl vT_nw vT_ts vT_tf vT_tk_n vT_tx_n fT_tk_c fT_tx_c vT_it_n fT_it_c) := hD
        refine lv_iconst (v := 1) hx hb dX5_readItems_103 (by decide) ?_
        refine lv_iadd hx hb dX5_readItems_104 ?_
        have hm := Option.some.inj hm
        subst hm
        exact q_iret (v := (r_100 + 1)) hx hb hr hlocks hP hS dX5_readItems_105
      · have hm := it_n c_64 hm
        refine lv_aload_n hx hb dX5_readItems_67 rfl (lv_at hl 0 rfl) ?_
        obtain ⟨r_68, hc_68, hm⟩ := ob_s hm
        refine q_ci (q_rv (rest := []) ⟨hx, hb, hml, hown, hts⟩ hK hN hP hD (c_X5_token l D cI cZ H.size AT AT_tx AT_tk AT_it AT_tk_c vT_pl vT_nw vT_ts vT_tf vT_tk_n fT_tk_c r_68 hc_68) mb_X5_token mv_X5_token wl_X5_46 [0, 1, 3] rfl rfl rfl (Nat.le_of_ble_eq_true rfl) (Nat.le_of_ble_eq_true rfl) rfl hl.1 rfl (Nat.le_of_ble_eq_true rfl) ⟨Nat.le_refl 0, Nat.le_refl 0⟩ dX5_readItems_68) hP hD hS hA [0, 1, 3] rfl rfl (fun H locs hP hD hS => ?_)
        have hP : va_P D vwCl (wd_X5_readItems cI cZ AT AT_tx AT_tk AT_it AT_tk_c AT_tx_c AT_it_c vT_pl vT_nw vT_ts vT_tf vT_tk_n vT_tx_n fT_tk_c fT_tx_c vT_it_n fT_it_c) H := hP
        have hD : va_D A (wd_X5_readItems cI cZ AT AT_tx AT_tk AT_it AT_tk_c AT_tx_c AT_it_c vT_pl vT_nw vT_ts vT_tf vT_tk_n vT_tx_n fT_tk_c fT_tx_c vT_it_n fT_it_c) := hD
        refine lv_if_eq (tgt := 96) hx hb dX5_readItems_71 (by decide) (fun c_71 => ?_) (fun c_71 => ?_)
        · have hm := it_s c_71 hm
          refine lv_aload_n hx hb dX5_readItems_96 rfl (lv_at hl 0 rfl) ?_
          refine gf_X5_23 (v := .ref AT_it) hx hb hts hown hK hN hP 0 rfl rfl dX5_readItems_97 ?_
          obtain ⟨r_100, hc_100, hm⟩ := ob_s hm
          refine q_ci (q_rv (rest := []) ⟨hx, hb, hml, hown, hts⟩ hK hN hP hD (c_X3_size l D cI cZ H.size AT_it AT_it_c 4 vT_it_n r_100 hc_100) mb_X3_size mv_X3_size wl_X5_54 [5] rfl rfl rfl (Nat.le_of_ble_eq_true rfl) (Nat.le_of_ble_eq_true rfl) rfl hl.1 rfl (Nat.le_of_ble_eq_true rfl) ⟨Nat.le_refl 0, Nat.le_refl 0⟩ dX5_readItems_100) hP hD hS hA [5] rfl rfl (fun H locs hP hD hS => ?_)
          have hP : va_P D vwCl (wd_X5_readItems cI cZ AT AT_tx AT_tk AT_it AT_tk_c AT_tx_c AT_it_c vT_pl vT_nw vT_ts vT_tf vT_tk_n vT_tx_n fT_tk_c fT_tx_c vT_it_n fT_it_c) H := hP
          have hD : va_D A (wd_X5_readItems cI cZ AT AT_tx AT_tk AT_it AT_tk_c AT_tx_c AT_it_c vT_pl vT_nw vT_ts vT_tf vT_tk_n vT_tx_n fT_tk_c fT_tx_c vT_it_n fT_it_c) := hD
          refine lv_iconst (v := 1) hx hb dX5_readItems_103 (by decide) ?_
          refine lv_iadd hx hb dX5_readItems_104 ?_
          have hm := Option.some.inj hm
          subst hm
          exact q_iret (v := (r_100 + 1)) hx hb hr hlocks hP hS dX5_readItems_105
        · have hm := it_n c_71 hm
          refine lv_aload_n hx hb dX5_readItems_74 rfl (lv_at hl 0 rfl) ?_
          obtain ⟨r_75, hc_75, hm⟩ := ob_s hm
          refine q_ci (q_rv (rest := []) ⟨hx, hb, hml, hown, hts⟩ hK hN hP hD (c_X5_readItem l D cI cZ H.size AT AT_tx AT_tk AT_it AT_tk_c AT_it_c vT_pl vT_nw vT_ts vT_tf vT_tk_n fT_tk_c vT_it_n fT_it_c r_75 hc_75) mb_X5_readItem mv_X5_readItem wl_X5_57 [0, 1, 3, 5, 6] rfl rfl rfl (Nat.le_of_ble_eq_true rfl) (Nat.le_of_ble_eq_true rfl) rfl hl.1 rfl (Nat.le_of_ble_eq_true rfl) ⟨Nat.le_refl 0, Nat.le_refl 0⟩ dX5_readItems_75) hP hD hS hA [0, 1, 3, 5, 6] rfl rfl (fun H locs hP hD hS => ?_)
          have hP : va_P D vwCl (wd_X5_readItems cI cZ AT AT_tx AT_tk AT_it AT_tk_c AT_tx_c AT_it_c vT_pl r_75.2.1 r_75.2.2.1 r_75.2.2.2.1 vT_tk_n vT_tx_n fT_tk_c fT_tx_c r_75.2.2.2.2.1 r_75.2.2.2.2.2) H := hP
          have hD : va_D A (wd_X5_readItems cI cZ AT AT_tx AT_tk AT_it AT_tk_c AT_tx_c AT_it_c vT_pl r_75.2.1 r_75.2.2.1 r_75.2.2.2.1 vT_tk_n vT_tx_n fT_tk_c fT_tx_c r_75.2.2.2.2.1 r_75.2.2.2.2.2) := hD
          refine lv_if_ne (tgt := 83) hx hb dX5_readItems_78 (by decide) (fun c_78 => ?_) (fun c_78 => ?_)
          · have hm := it_n c_78 hm
            refine lv_aload_n hx hb dX5_readItems_83 rfl (lv_at hl 0 rfl) ?_
            refine lv_dup hx hb dX5_readItems_84 rfl ?_
            refine gf_X5_26 (v := .int r_75.2.1) hx hb hts hown hK hN hP 0 rfl rfl dX5_readItems_85 ?_
            refine lv_iconst (v := 1) hx hb dX5_readItems_88 (by decide) ?_
            refine lv_iadd hx hb dX5_readItems_89 ?_
            refine pf_X5_26 hx hb hts hown hK hN hP hD hS 0 rfl dX5_readItems_90 (fun H locs hP hD hS => ?_)
            have hP : va_P D vwCl (wd_X5_readItems cI cZ AT AT_tx AT_tk AT_it AT_tk_c AT_tx_c AT_it_c vT_pl (r_75.2.1 + 1) r_75.2.2.1 r_75.2.2.2.1 vT_tk_n vT_tx_n fT_tk_c fT_tx_c r_75.2.2.2.2.1 r_75.2.2.2.2.2) H := hP
            have hD : va_D A (wd_X5_readItems cI cZ AT AT_tx AT_tk AT_it AT_tk_c AT_tx_c AT_it_c vT_pl (r_75.2.1 + 1) r_75.2.2.1 r_75.2.2.2.1 vT_tk_n vT_tx_n fT_tk_c fT_tx_c r_75.2.2.2.2.1 r_75.2.2.2.2.2) := hD
            refine lv_goto (tgt := 53) hx hb dX5_readItems_93 (by decide) ?_
            exact ih_53 vT_pl (r_75.2.1 + 1) r_75.2.2.1 r_75.2.2.2.1 vT_tk_n fT_tk_c r_75.2.2.2.2.1 r_75.2.2.2.2.2 H locs ls hm hP hD hS (lv_sub hl [0] rfl)
          · have hm := it_s c_78 hm
            refine lv_iconst (v := (-1)) hx hb dX5_readItems_81 (by decide) ?_
            have hm := Option.some.inj hm
            subst hm
            exact q_iret (v := (-1)) hx hb hr hlocks hP hS dX5_readItems_82
  unfold fm_X5_readItems at hm
  refine q_gen hS hP ?_
  intro H locs hP hS
  refine lv_aload_n hx hb dX5_readItems_0 rfl (lv_at hl 0 rfl) ?_
  obtain ⟨r_1, hc_1, hm⟩ := ob_s hm
  refine q_cv (q_rvY (rest := []) ⟨hx, hb, hml, hown, hts⟩ hG hK hN hP hD hS hA (c_X5_splitText l adK adV D cI cZ H.size AT AT_tx AT_tk AT_it AT_tk_c AT_tx_c vT_pl vT_nw vT_ts vT_tf vT_tk_n vT_tx_n fT_tk_c fT_tx_c r_1 hc_1) mb_X5_splitText mv_X5_splitText wl_X5_34 [0, 1, 2, 3, 4] rfl rfl rfl (Nat.le_of_ble_eq_true rfl) (Nat.le_of_ble_eq_true rfl) rfl hl.1 rfl (Nat.le_of_ble_eq_true rfl) ⟨Nat.le_refl 0, Nat.le_refl 0⟩ dX5_readItems_1) hP hD hS hA [0, 1, 2, 3, 4] rfl rfl (fun H locs hP hD hS => ?_)
  have hP : va_P D vwCl (wd_X5_readItems cI cZ AT AT_tx AT_tk AT_it AT_tk_c AT_tx_c AT_it_c r_1.1 vT_nw vT_ts vT_tf r_1.2.1 vT_tx_n r_1.2.2 fT_tx_c vT_it_n fT_it_c) H := hP
  have hD : va_D A (wd_X5_readItems cI cZ AT AT_tx AT_tk AT_it AT_tk_c AT_tx_c AT_it_c r_1.1 vT_nw vT_ts vT_tf r_1.2.1 vT_tx_n r_1.2.2 fT_tx_c vT_it_n fT_it_c) := hD
  refine lv_aload_n hx hb dX5_readItems_4 rfl (lv_at hl 0 rfl) ?_
  refine gf_X5_23 (v := .ref AT_it) hx hb hts hown hK hN hP 0 rfl rfl dX5_readItems_5 ?_
  obtain ⟨r_8, hc_8, hm⟩ := ob_s hm
  refine q_cv (q_rv (rest := []) ⟨hx, hb, hml, hown, hts⟩ hK hN hP hD (c_X3_empty l D cI cZ H.size AT_it AT_it_c 4 vT_it_n r_8 hc_8) mb_X3_empty mv_X3_empty wl_X5_37 [5] rfl rfl rfl (Nat.le_of_ble_eq_true rfl) (Nat.le_of_ble_eq_true rfl) rfl hl.1 rfl (Nat.le_of_ble_eq_true rfl) ⟨Nat.le_refl 0, Nat.le_refl 0⟩ dX5_readItems_8) hP hD hS hA [5] rfl rfl (fun H locs hP hD hS => ?_)
  have hP : va_P D vwCl (wd_X5_readItems cI cZ AT AT_tx AT_tk AT_it AT_tk_c AT_tx_c AT_it_c r_1.1 vT_nw vT_ts vT_tf r_1.2.1 vT_tx_n r_1.2.2 fT_tx_c r_8 fT_it_c) H := hP
  have hD : va_D A (wd_X5_readItems cI cZ AT AT_tx AT_tk AT_it AT_tk_c AT_tx_c AT_it_c r_1.1 vT_nw vT_ts vT_tf r_1.2.1 vT_tx_n r_1.2.2 fT_tx_c r_8 fT_it_c) := hD
  refine lv_aload_n hx hb dX5_readItems_11 rfl (lv_at hl 0 rfl) ?_
  refine lv_iconst (v := 0) hx hb dX5_readItems_12 (by decide) ?_
  refine pf_X5_40 hx hb hts hown hK hN hP hD hS 0 rfl dX5_readItems_13 (fun H locs hP hD hS => ?_)
  have hP : va_P D vwCl (wd_X5_readItems cI cZ AT AT_tx AT_tk AT_it AT_tk_c AT_tx_c AT_it_c r_1.1 vT_nw 0 vT_tf r_1.2.1 vT_tx_n r_1.2.2 fT_tx_c r_8 fT_it_c) H := hP
  have hD : va_D A (wd_X5_readItems cI cZ AT AT_tx AT_tk AT_it AT_tk_c AT_tx_c AT_it_c r_1.1 vT_nw 0 vT_tf r_1.2.1 vT_tx_n r_1.2.2 fT_tx_c r_8 fT_it_c) := hD
  refine lv_aload_n hx hb dX5_readItems_16 rfl (lv_at hl 0 rfl) ?_
  refine lv_iconst (v := 0) hx hb dX5_readItems_17 (by decide) ?_
  refine pf_X5_43 hx hb hts hown hK hN hP hD hS 0 rfl dX5_readItems_18 (fun H locs hP hD hS => ?_)
  have hP : va_P D vwCl (wd_X5_readItems cI cZ AT AT_tx AT_tk AT_it AT_tk_c AT_tx_c AT_it_c r_1.1 vT_nw 0 0 r_1.2.1 vT_tx_n r_1.2.2 fT_tx_c r_8 fT_it_c) H := hP
  have hD : va_D A (wd_X5_readItems cI cZ AT AT_tx AT_tk AT_it AT_tk_c AT_tx_c AT_it_c r_1.1 vT_nw 0 0 r_1.2.1 vT_tx_n r_1.2.2 fT_tx_c r_8 fT_it_c) := hD
  refine lv_aload_n hx hb dX5_readItems_21 rfl (lv_at hl 0 rfl) ?_
  refine lv_iconst (v := 0) hx hb dX5_readItems_22 (by decide) ?_
  refine pf_X5_26 hx hb hts hown hK hN hP hD hS 0 rfl dX5_readItems_23 (fun H locs hP hD hS => ?_)
  have hP : va_P D vwCl (wd_X5_readItems cI cZ AT AT_tx AT_tk AT_it AT_tk_c AT_tx_c AT_it_c r_1.1 0 0 0 r_1.2.1 vT_tx_n r_1.2.2 fT_tx_c r_8 fT_it_c) H := hP
  have hD : va_D A (wd_X5_readItems cI cZ AT AT_tx AT_tk AT_it AT_tk_c AT_tx_c AT_it_c r_1.1 0 0 0 r_1.2.1 vT_tx_n r_1.2.2 fT_tx_c r_8 fT_it_c) := hD
  refine lv_aload_n hx hb dX5_readItems_26 rfl (lv_at hl 0 rfl) ?_
  obtain ⟨r_27, hc_27, hm⟩ := ob_s hm
  refine q_ci (q_rv (rest := []) ⟨hx, hb, hml, hown, hts⟩ hK hN hP hD (c_X5_token l D cI cZ H.size AT AT_tx AT_tk AT_it AT_tk_c r_1.1 0 0 0 r_1.2.1 r_1.2.2 r_27 hc_27) mb_X5_token mv_X5_token wl_X5_46 [0, 1, 3] rfl rfl rfl (Nat.le_of_ble_eq_true rfl) (Nat.le_of_ble_eq_true rfl) rfl hl.1 rfl (Nat.le_of_ble_eq_true rfl) ⟨Nat.le_refl 0, Nat.le_refl 0⟩ dX5_readItems_27) hP hD hS hA [0, 1, 3] rfl rfl (fun H locs hP hD hS => ?_)
  have hP : va_P D vwCl (wd_X5_readItems cI cZ AT AT_tx AT_tk AT_it AT_tk_c AT_tx_c AT_it_c r_1.1 0 0 0 r_1.2.1 vT_tx_n r_1.2.2 fT_tx_c r_8 fT_it_c) H := hP
  have hD : va_D A (wd_X5_readItems cI cZ AT AT_tx AT_tk AT_it AT_tk_c AT_tx_c AT_it_c r_1.1 0 0 0 r_1.2.1 vT_tx_n r_1.2.2 fT_tx_c r_8 fT_it_c) := hD
  refine lv_iconst (v := 4) hx hb dX5_readItems_30 (by decide) ?_
  refine lv_icmp_ne (tgt := 41) hx hb dX5_readItems_31 (by decide) (fun c_31 => ?_) (fun c_31 => ?_)
  · have hm := it_n c_31 hm
    refine lv_iconst (v := (-1)) hx hb dX5_readItems_41 (by decide) ?_
    have hm := Option.some.inj hm
    subst hm
    exact q_iret (v := (-1)) hx hb hr hlocks hP hS dX5_readItems_42
  · have hm := it_s c_31 hm
    refine lv_aload_n hx hb dX5_readItems_34 rfl (lv_at hl 0 rfl) ?_
    obtain ⟨r_35, hc_35, hm⟩ := ob_s hm
    refine q_ci (q_rv (rest := []) ⟨hx, hb, hml, hown, hts⟩ hK hN hP hD (c_X5_ends l D cI cZ H.size AT AT_tx AT_tk AT_it AT_tk_c r_1.1 0 0 0 r_1.2.1 r_1.2.2 r_35 hc_35) mb_X5_ends mv_X5_ends wl_X5_50 [0, 1, 3] rfl rfl rfl (Nat.le_of_ble_eq_true rfl) (Nat.le_of_ble_eq_true rfl) rfl hl.1 rfl (Nat.le_of_ble_eq_true rfl) ⟨Nat.le_refl 0, Nat.le_refl 0⟩ dX5_readItems_35) hP hD hS hA [0, 1, 3] rfl rfl (fun H locs hP hD hS => ?_)
    have hP : va_P D vwCl (wd_X5_readItems cI cZ AT AT_tx AT_tk AT_it AT_tk_c AT_tx_c AT_it_c r_1.1 r_35.2 0 0 r_1.2.1 vT_tx_n r_1.2.2 fT_tx_c r_8 fT_it_c) H := hP
    have hD : va_D A (wd_X5_readItems cI cZ AT AT_tx AT_tk AT_it AT_tk_c AT_tx_c AT_it_c r_1.1 r_35.2 0 0 r_1.2.1 vT_tx_n r_1.2.2 fT_tx_c r_8 fT_it_c) := hD
    refine lv_if_ne (tgt := 43) hx hb dX5_readItems_38 (by decide) (fun c_38 => ?_) (fun c_38 => ?_)
    · have hm := it_n c_38 hm
      refine lv_aload_n hx hb dX5_readItems_43 rfl (lv_at hl 0 rfl) ?_
      refine lv_dup hx hb dX5_readItems_44 rfl ?_
      refine gf_X5_26 (v := .int r_35.2) hx hb hts hown hK hN hP 0 rfl rfl dX5_readItems_45 ?_
      refine lv_iconst (v := 1) hx hb dX5_readItems_48 (by decide) ?_
      refine lv_iadd hx hb dX5_readItems_49 ?_
      refine pf_X5_26 hx hb hts hown hK hN hP hD hS 0 rfl dX5_readItems_50 (fun H locs hP hD hS => ?_)
      have hP : va_P D vwCl (wd_X5_readItems cI cZ AT AT_tx AT_tk AT_it AT_tk_c AT_tx_c AT_it_c r_1.1 (r_35.2 + 1) 0 0 r_1.2.1 vT_tx_n r_1.2.2 fT_tx_c r_8 fT_it_c) H := hP
      have hD : va_D A (wd_X5_readItems cI cZ AT AT_tx AT_tk AT_it AT_tk_c AT_tx_c AT_it_c r_1.1 (r_35.2 + 1) 0 0 r_1.2.1 vT_tx_n r_1.2.2 fT_tx_c r_8 fT_it_c) := hD
      exact hL_53 FU r_1.1 (r_35.2 + 1) 0 0 r_1.2.1 r_1.2.2 r_8 fT_it_c H locs ls hm hP hD hS (lv_sub hl [0] rfl)
    · have hm := it_s c_38 hm
      refine lv_iconst (v := (-1)) hx hb dX5_readItems_41 (by decide) ?_
      have hm := Option.some.inj hm
      subst hm
      exact q_iret (v := (-1)) hx hb hr hlocks hP hS dX5_readItems_42
theorem mb_X5_doItems : q_mb yX5_doItems cX5_doItems 3 none 1 := ⟨wc_X5_doItems, wn_X5, by decide, by decide, by decide +kernel⟩
theorem mv_X5_doItems : q_mv yX5_doItems 5 := ⟨wi_X5_doItems, ws_X5_doItems, _, rfl, rfl⟩
def wd_X5_doItems (cI cZ : ClassId) (AT A1 AT_tx AT_tk AT_it A1_sl A1_fl A1_ro A1_nt A1_mk A1_mo A1_sl_c A1_fl_c A1_ro_c A1_nt_c A1_mk_c A1_mo_c AT_it_c : Nat) (vT_pl : Int32) (vT_nw : Int32) (vT_ts : Int32) (vT_tf : Int32) (v1_ng : Int32) (v1_sl_n : Int32) (v1_fl_n : Int32) (v1_ro_n : Int32) (v1_nt_n : Int32) (v1_mk_n : Int32) (v1_mo_n : Int32) (vT_it_n : Int32) (fT_it_c : Nat → Int32) (f1_sl_c : Nat → Int32) (f1_fl_c : Nat → Int32) : va_W := [(AT, .inr (5, [.ref AT_tx, .ref AT_tk, .ref AT_it, .int vT_pl, .int vT_nw, .int vT_ts, .int vT_tf])), (A1, .inr (4, [.ref A1_sl, .ref A1_fl, .ref A1_ro, .ref A1_nt, .ref A1_mk, .ref A1_mo, .int v1_ng])), (A1_sl, .inr (3, [.int 4, .ref A1_sl_c, .int v1_sl_n])), (A1_fl, .inr (3, [.int 3, .ref A1_fl_c, .int v1_fl_n])), (A1_ro, .inr (3, [.int 3, .ref A1_ro_c, .int v1_ro_n])), (A1_nt, .inr (3, [.int 4, .ref A1_nt_c, .int v1_nt_n])), (A1_mk, .inr (3, [.int 4, .ref A1_mk_c, .int v1_mk_n])), (A1_mo, .inr (3, [.int 25, .ref A1_mo_c, .int v1_mo_n])), (AT_it, .inr (3, [.int 4, .ref AT_it_c, .int vT_it_n])), (AT_it_c, .inl (cI, 76, .inl fT_it_c)), (A1_sl_c, .inl (cI, 24, .inl f1_sl_c)), (A1_fl_c, .inl (cI, 18, .inl f1_fl_c))]
def fL_X5_doItems_6 (vT_it_n : Int32) (fT_it_c : Nat → Int32) : Nat → Int32 → Int32 → Int32 → Int32 → Int32 → Int32 → Int32 → Int32 → (Nat → Int32) → (Nat → Int32) → Option (Int32 × Int32 × Int32 × Int32 × Int32 × Int32 × Int32 × (Nat → Int32) × (Nat → Int32))
  | 0, _, _, _, _, _, _, _, _, _, _ => none
  | fu + 1, x2, v1_ng, v1_sl_n, v1_fl_n, v1_ro_n, v1_nt_n, v1_mk_n, v1_mo_n, f1_sl_c, f1_fl_c => Option.bind (fm_X3_size vT_it_n) (fun r_11 => if r_11 ≤ x2 then (some (v1_ng, v1_sl_n, v1_fl_n, v1_ro_n, v1_nt_n, v1_mk_n, v1_mo_n, f1_sl_c, f1_fl_c)) else (Option.bind (fm_X3_cell 4 76 x2 0 vT_it_n fT_it_c) (fun r_23 => if r_23 = 5 then (Option.bind (fm_X3_cell 4 76 x2 1 vT_it_n fT_it_c) (fun r_59 => Option.bind (fm_X3_cell 4 76 x2 2 vT_it_n fT_it_c) (fun r_68 => Option.bind (fm_X4_addSleeper r_59 r_68 v1_sl_n f1_sl_c v1_mo_n) (fun r_71 => fL_X5_doItems_6 vT_it_n fT_it_c fu (x2 + 1) v1_ng r_71.1 v1_fl_n v1_ro_n v1_nt_n v1_mk_n r_71.2.2 r_71.2.1 f1_fl_c)))) else if r_23 = 6 then (Option.bind (fm_X3_cell 4 76 x2 1 vT_it_n fT_it_c) (fun r_84 => Option.bind (fm_X3_cell 4 76 x2 2 vT_it_n fT_it_c) (fun r_93 => Option.bind (fm_X3_cell 4 76 x2 3 vT_it_n fT_it_c) (fun r_102 => Option.bind (fm_X4_addFlower r_84 r_93 r_102 v1_fl_n f1_fl_c v1_mo_n) (fun r_105 => fL_X5_doItems_6 vT_it_n fT_it_c fu (x2 + 1) v1_ng v1_sl_n r_105.1 v1_ro_n v1_nt_n v1_mk_n r_105.2.2 f1_sl_c r_105.2.1))))) else if r_23 = 7 then (Option.bind (fm_X3_cell 4 76 x2 1 vT_it_n fT_it_c) (fun r_118 => Option.bind (fm_X3_cell 4 76 x2 2 vT_it_n fT_it_c) (fun r_127 => Option.bind (fm_X4_changePillows r_118 r_127 v1_sl_n f1_sl_c) (fun r_130 => fL_X5_doItems_6 vT_it_n fT_it_c fu (x2 + 1) v1_ng v1_sl_n v1_fl_n v1_ro_n v1_nt_n v1_mk_n v1_mo_n r_130 f1_fl_c)))) else (Option.bind (fm_X3_cell 4 76 x2 1 vT_it_n fT_it_c) (fun r_143 => Option.bind (fm_X4_passNights r_143 v1_ng v1_sl_n f1_sl_c v1_fl_n f1_fl_c) (fun r_146 => fL_X5_doItems_6 vT_it_n fT_it_c fu (x2 + 1) r_146.1 v1_sl_n v1_fl_n v1_ro_n v1_nt_n v1_mk_n v1_mo_n r_146.2 f1_fl_c))))))
def fm_X5_doItems (v1_ng : Int32) (v1_sl_n : Int32) (v1_fl_n : Int32) (v1_ro_n : Int32) (v1_nt_n : Int32) (v1_mk_n : Int32) (v1_mo_n : Int32) (vT_it_n : Int32) (fT_it_c : Nat → Int32) (f1_sl_c : Nat → Int32) (f1_fl_c : Nat → Int32) : Option (Int32 × Int32 × Int32 × Int32 × Int32 × Int32 × Int32 × (Nat → Int32) × (Nat → Int32)) := Option.bind (fm_X4_startAnew v1_ng v1_sl_n v1_fl_n v1_ro_n v1_nt_n v1_mk_n v1_mo_n) (fun r_1 => fL_X5_doItems_6 vT_it_n fT_it_c FU 0 r_1.1 r_1.2.1 r_1.2.2.1 r_1.2.2.2.1 r_1.2.2.2.2.1 r_1.2.2.2.2.2.1 r_1.2.2.2.2.2.2 f1_sl_c f1_fl_c)
set_option maxHeartbeats 4000000 in
set_option maxRecDepth 100000 in
theorem c_X5_doItems (l : Launch) (D : va_G) (cI cZ : ClassId) (sz : Nat) (AT A1 AT_tx AT_tk AT_it A1_sl A1_fl A1_ro A1_nt A1_mk A1_mo A1_sl_c A1_fl_c A1_ro_c A1_nt_c A1_mk_c A1_mo_c AT_it_c : Nat) (vT_pl : Int32) (vT_nw : Int32) (vT_ts : Int32) (vT_tf : Int32) (v1_ng : Int32) (v1_sl_n : Int32) (v1_fl_n : Int32) (v1_ro_n : Int32) (v1_nt_n : Int32) (v1_mk_n : Int32) (v1_mo_n : Int32) (vT_it_n : Int32) (fT_it_c : Nat → Int32) (f1_sl_c : Nat → Int32) (f1_fl_c : Nat → Int32) (out : (Int32 × Int32 × Int32 × Int32 × Int32 × Int32 × Int32 × (Nat → Int32) × (Nat → Int32))) (hm : fm_X5_doItems v1_ng v1_sl_n v1_fl_n v1_ro_n v1_nt_n v1_mk_n v1_mo_n vT_it_n fT_it_c f1_sl_c f1_fl_c = some out) : Met l yX5_doItems (Cond.code yX5_doItems cX5_doItems 3 none :: bg) { frames := 5, cells := 0, slots := 0, locals := 119 } (va_Pc [.ref AT, .ref A1] (q_pre D cI cZ sz (wd_X5_doItems cI cZ AT A1 AT_tx AT_tk AT_it A1_sl A1_fl A1_ro A1_nt A1_mk A1_mo A1_sl_c A1_fl_c A1_ro_c A1_nt_c A1_mk_c A1_mo_c AT_it_c vT_pl vT_nw vT_ts vT_tf v1_ng v1_sl_n v1_fl_n v1_ro_n v1_nt_n v1_mk_n v1_mo_n vT_it_n fT_it_c f1_sl_c f1_fl_c))) (q_Qv D (wd_X5_doItems cI cZ AT A1 AT_tx AT_tk AT_it A1_sl A1_fl A1_ro A1_nt A1_mk A1_mo A1_sl_c A1_fl_c A1_ro_c A1_nt_c A1_mk_c A1_mo_c AT_it_c vT_pl vT_nw vT_ts vT_tf out.1 out.2.1 out.2.2.1 out.2.2.2.1 out.2.2.2.2.1 out.2.2.2.2.2.1 out.2.2.2.2.2.2.1 vT_it_n fT_it_c out.2.2.2.2.2.2.2.1 out.2.2.2.2.2.2.2.2) (va_A (wd_X5_doItems cI cZ AT A1 AT_tx AT_tk AT_it A1_sl A1_fl A1_ro A1_nt A1_mk A1_mo A1_sl_c A1_fl_c A1_ro_c A1_nt_c A1_mk_c A1_mo_c AT_it_c vT_pl vT_nw vT_ts vT_tf v1_ng v1_sl_n v1_fl_n v1_ro_n v1_nt_n v1_mk_n v1_mo_n vT_it_n fT_it_c f1_sl_c f1_fl_c) sz)) 0 0 (va_A (wd_X5_doItems cI cZ AT A1 AT_tx AT_tk AT_it A1_sl A1_fl A1_ro A1_nt A1_mk A1_mo A1_sl_c A1_fl_c A1_ro_c A1_nt_c A1_mk_c A1_mo_c AT_it_c vT_pl vT_nw vT_ts vT_tf v1_ng v1_sl_n v1_fl_n v1_ro_n v1_nt_n v1_mk_n v1_mo_n vT_it_n fT_it_c f1_sl_c f1_fl_c) sz) := by
  refine q_met (fun A => q_Qv D (wd_X5_doItems cI cZ AT A1 AT_tx AT_tk AT_it A1_sl A1_fl A1_ro A1_nt A1_mk A1_mo A1_sl_c A1_fl_c A1_ro_c A1_nt_c A1_mk_c A1_mo_c AT_it_c vT_pl vT_nw vT_ts vT_tf out.1 out.2.1 out.2.2.1 out.2.2.2.1 out.2.2.2.2.1 out.2.2.2.2.2.1 out.2.2.2.2.2.2.1 vT_it_n fT_it_c out.2.2.2.2.2.2.2.1 out.2.2.2.2.2.2.2.2) A) (by decide) (Nat.le_of_ble_eq_true rfl) ?_
  intro p e s m below meth c ls A hx hb hr hml hown hts hlocks _ hA hS hP hD hK hN hl
  have hown : s.vm.findClass RX5 = some m.cls := hown
  have hl : lv_has ls 3 [(0, .ref AT), (1, .ref A1)] := hl
  have hL_6 : ∀ (fu_6 : Nat) (x2 : Int32) (v1_ng : Int32) (v1_sl_n : Int32) (v1_fl_n : Int32) (v1_ro_n : Int32) (v1_nt_n : Int32) (v1_mk_n : Int32) (v1_mo_n : Int32) (f1_sl_c : Nat → Int32) (f1_fl_c : Nat → Int32) (H : Heap) (locs : List Loc) (ls : Array Slot), fL_X5_doItems_6 vT_it_n fT_it_c fu_6 x2 v1_ng v1_sl_n v1_fl_n v1_ro_n v1_nt_n v1_mk_n v1_mo_n f1_sl_c f1_fl_c = some out → va_P D vwCl (wd_X5_doItems cI cZ AT A1 AT_tx AT_tk AT_it A1_sl A1_fl A1_ro A1_nt A1_mk A1_mo A1_sl_c A1_fl_c A1_ro_c A1_nt_c A1_mk_c A1_mo_c AT_it_c vT_pl vT_nw vT_ts vT_tf v1_ng v1_sl_n v1_fl_n v1_ro_n v1_nt_n v1_mk_n v1_mo_n vT_it_n fT_it_c f1_sl_c f1_fl_c) H → va_D A (wd_X5_doItems cI cZ AT A1 AT_tx AT_tk AT_it A1_sl A1_fl A1_ro A1_nt A1_mk A1_mo A1_sl_c A1_fl_c A1_ro_c A1_nt_c A1_mk_c A1_mo_c AT_it_c vT_pl vT_nw vT_ts vT_tf v1_ng v1_sl_n v1_fl_n v1_ro_n v1_nt_n v1_mk_n v1_mo_n vT_it_n fT_it_c f1_sl_c f1_fl_c) → va_S A s.heap H locs → lv_has ls 3 [(2, .int x2), (0, .ref AT), (1, .ref A1)] → W p l e { frames := 5, cells := 0, slots := 0, locals := 119 } s m ([.ref AT, .ref A1] : List Value).toArray below meth c H locs 0 0 (MQ below (q_Qv D (wd_X5_doItems cI cZ AT A1 AT_tx AT_tk AT_it A1_sl A1_fl A1_ro A1_nt A1_mk A1_mo A1_sl_c A1_fl_c A1_ro_c A1_nt_c A1_mk_c A1_mo_c AT_it_c vT_pl vT_nw vT_ts vT_tf out.1 out.2.1 out.2.2.1 out.2.2.2.1 out.2.2.2.2.1 out.2.2.2.2.2.1 out.2.2.2.2.2.2.1 vT_it_n fT_it_c out.2.2.2.2.2.2.2.1 out.2.2.2.2.2.2.2.2) A) ([.ref AT, .ref A1] : List Value).toArray s 0 0 A) (F0 m 6 ls []) := by
    intro fu_6
    induction fu_6 with
    | zero => intro x2 v1_ng v1_sl_n v1_fl_n v1_ro_n v1_nt_n v1_mk_n v1_mo_n f1_sl_c f1_fl_c H locs ls hm hP hD hS hl; exact absurd (show (none : Option (Int32 × Int32 × Int32 × Int32 × Int32 × Int32 × Int32 × (Nat → Int32) × (Nat → Int32))) = some out from hm) (fun h => nomatch h)
    | succ fu_6 ih_6 =>
      intro x2 v1_ng v1_sl_n v1_fl_n v1_ro_n v1_nt_n v1_mk_n v1_mo_n f1_sl_c f1_fl_c H locs ls hm hP hD hS hl
      rw [fL_X5_doItems_6] at hm
      refine lv_iload_n hx hb dX5_doItems_6 rfl (lv_at hl 0 rfl) ?_
      refine lv_aload_n hx hb dX5_doItems_7 rfl (lv_at hl 1 rfl) ?_
      refine gf_X5_23 (v := .ref AT_it) hx hb hts hown hK hN hP 0 rfl rfl dX5_doItems_8 ?_
      obtain ⟨r_11, hc_11, hm⟩ := ob_s hm
      refine q_ci (q_rv (rest := [.int x2]) ⟨hx, hb, hml, hown, hts⟩ hK hN hP hD (c_X3_size l D cI cZ H.size AT_it AT_it_c 4 vT_it_n r_11 hc_11) mb_X3_size mv_X3_size wl_X5_54 [8] rfl rfl rfl (Nat.le_of_ble_eq_true rfl) (Nat.le_of_ble_eq_true rfl) rfl hl.1 rfl (Nat.le_of_ble_eq_true rfl) ⟨Nat.le_refl 0, Nat.le_refl 0⟩ dX5_doItems_11) hP hD hS hA [8] rfl rfl (fun H locs hP hD hS => ?_)
      have hP : va_P D vwCl (wd_X5_doItems cI cZ AT A1 AT_tx AT_tk AT_it A1_sl A1_fl A1_ro A1_nt A1_mk A1_mo A1_sl_c A1_fl_c A1_ro_c A1_nt_c A1_mk_c A1_mo_c AT_it_c vT_pl vT_nw vT_ts vT_tf v1_ng v1_sl_n v1_fl_n v1_ro_n v1_nt_n v1_mk_n v1_mo_n vT_it_n fT_it_c f1_sl_c f1_fl_c) H := hP
      have hD : va_D A (wd_X5_doItems cI cZ AT A1 AT_tx AT_tk AT_it A1_sl A1_fl A1_ro A1_nt A1_mk A1_mo A1_sl_c A1_fl_c A1_ro_c A1_nt_c A1_mk_c A1_mo_c AT_it_c vT_pl vT_nw vT_ts vT_tf v1_ng v1_sl_n v1_fl_n v1_ro_n v1_nt_n v1_mk_n v1_mo_n vT_it_n fT_it_c f1_sl_c f1_fl_c) := hD
      refine lv_icmp_ge (tgt := 155) hx hb dX5_doItems_14 (by decide) (fun c_14 => ?_) (fun c_14 => ?_)
      · have hm := it_s c_14 hm
        have hm := Option.some.inj hm
        subst hm
        exact q_vret hx hb hr hlocks hP hS dX5_doItems_155
      · have hm := it_n c_14 hm
        refine lv_aload_n hx hb dX5_doItems_17 rfl (lv_at hl 1 rfl) ?_
        refine gf_X5_23 (v := .ref AT_it) hx hb hts hown hK hN hP 0 rfl rfl dX5_doItems_18 ?_
        refine lv_iload_n hx hb dX5_doItems_21 rfl (lv_at hl 0 rfl) ?_
        refine lv_iconst (v := 0) hx hb dX5_doItems_22 (by decide) ?_
        obtain ⟨r_23, hc_23, hm⟩ := ob_s hm
        refine q_ci (q_rv (rest := []) ⟨hx, hb, hml, hown, hts⟩ hK hN hP hD (c_X3_cell l D cI cZ H.size AT_it AT_it_c 4 76 vT_it_n fT_it_c x2 0 r_23 hc_23) mb_X3_cell mv_X3_cell wl_X5_30 [8, 9] rfl rfl rfl (Nat.le_of_ble_eq_true rfl) (Nat.le_of_ble_eq_true rfl) rfl hl.1 rfl (Nat.le_of_ble_eq_true rfl) ⟨Nat.le_refl 0, Nat.le_refl 0⟩ dX5_doItems_23) hP hD hS hA [8, 9] rfl rfl (fun H locs hP hD hS => ?_)
        have hP : va_P D vwCl (wd_X5_doItems cI cZ AT A1 AT_tx AT_tk AT_it A1_sl A1_fl A1_ro A1_nt A1_mk A1_mo A1_sl_c A1_fl_c A1_ro_c A1_nt_c A1_mk_c A1_mo_c AT_it_c vT_pl vT_nw vT_ts vT_tf v1_ng v1_sl_n v1_fl_n v1_ro_n v1_nt_n v1_mk_n v1_mo_n vT_it_n fT_it_c f1_sl_c f1_fl_c) H := hP
        have hD : va_D A (wd_X5_doItems cI cZ AT A1 AT_tx AT_tk AT_it A1_sl A1_fl A1_ro A1_nt A1_mk A1_mo A1_sl_c A1_fl_c A1_ro_c A1_nt_c A1_mk_c A1_mo_c AT_it_c vT_pl vT_nw vT_ts vT_tf v1_ng v1_sl_n v1_fl_n v1_ro_n v1_nt_n v1_mk_n v1_mo_n vT_it_n fT_it_c f1_sl_c f1_fl_c) := hD
        rcases Decidable.em (r_23 = 5) with c_26_5 | c_26_5
        · have hm := it_s c_26_5 hm
          refine lv_tableIn (tgt := 52) hx hb dX5_doItems_26 (by rw [c_26_5]; decide) (by rw [c_26_5]; decide) (by rw [c_26_5]; rfl) (by decide) ?_
          refine lv_aload_n hx hb dX5_doItems_52 rfl (lv_at hl 2 rfl) ?_
          refine lv_aload_n hx hb dX5_doItems_53 rfl (lv_at hl 1 rfl) ?_
          refine gf_X5_23 (v := .ref AT_it) hx hb hts hown hK hN hP 0 rfl rfl dX5_doItems_54 ?_
          refine lv_iload_n hx hb dX5_doItems_57 rfl (lv_at hl 0 rfl) ?_
          refine lv_iconst (v := 1) hx hb dX5_doItems_58 (by decide) ?_
          obtain ⟨r_59, hc_59, hm⟩ := ob_s hm
          refine q_ci (q_rv (rest := [.ref A1]) ⟨hx, hb, hml, hown, hts⟩ hK hN hP hD (c_X3_cell l D cI cZ H.size AT_it AT_it_c 4 76 vT_it_n fT_it_c x2 1 r_59 hc_59) mb_X3_cell mv_X3_cell wl_X5_30 [8, 9] rfl rfl rfl (Nat.le_of_ble_eq_true rfl) (Nat.le_of_ble_eq_true rfl) rfl hl.1 rfl (Nat.le_of_ble_eq_true rfl) ⟨Nat.le_refl 0, Nat.le_refl 0⟩ dX5_doItems_59) hP hD hS hA [8, 9] rfl rfl (fun H locs hP hD hS => ?_)
          have hP : va_P D vwCl (wd_X5_doItems cI cZ AT A1 AT_tx AT_tk AT_it A1_sl A1_fl A1_ro A1_nt A1_mk A1_mo A1_sl_c A1_fl_c A1_ro_c A1_nt_c A1_mk_c A1_mo_c AT_it_c vT_pl vT_nw vT_ts vT_tf v1_ng v1_sl_n v1_fl_n v1_ro_n v1_nt_n v1_mk_n v1_mo_n vT_it_n fT_it_c f1_sl_c f1_fl_c) H := hP
          have hD : va_D A (wd_X5_doItems cI cZ AT A1 AT_tx AT_tk AT_it A1_sl A1_fl A1_ro A1_nt A1_mk A1_mo A1_sl_c A1_fl_c A1_ro_c A1_nt_c A1_mk_c A1_mo_c AT_it_c vT_pl vT_nw vT_ts vT_tf v1_ng v1_sl_n v1_fl_n v1_ro_n v1_nt_n v1_mk_n v1_mo_n vT_it_n fT_it_c f1_sl_c f1_fl_c) := hD
          refine lv_aload_n hx hb dX5_doItems_62 rfl (lv_at hl 1 rfl) ?_
          refine gf_X5_23 (v := .ref AT_it) hx hb hts hown hK hN hP 0 rfl rfl dX5_doItems_63 ?_
          refine lv_iload_n hx hb dX5_doItems_66 rfl (lv_at hl 0 rfl) ?_
          refine lv_iconst (v := 2) hx hb dX5_doItems_67 (by decide) ?_
          obtain ⟨r_68, hc_68, hm⟩ := ob_s hm
          refine q_ci (q_rv (rest := [.int r_59, .ref A1]) ⟨hx, hb, hml, hown, hts⟩ hK hN hP hD (c_X3_cell l D cI cZ H.size AT_it AT_it_c 4 76 vT_it_n fT_it_c x2 2 r_68 hc_68) mb_X3_cell mv_X3_cell wl_X5_30 [8, 9] rfl rfl rfl (Nat.le_of_ble_eq_true rfl) (Nat.le_of_ble_eq_true rfl) rfl hl.1 rfl (Nat.le_of_ble_eq_true rfl) ⟨Nat.le_refl 0, Nat.le_refl 0⟩ dX5_doItems_68) hP hD hS hA [8, 9] rfl rfl (fun H locs hP hD hS => ?_)
          have hP : va_P D vwCl (wd_X5_doItems cI cZ AT A1 AT_tx AT_tk AT_it A1_sl A1_fl A1_ro A1_nt A1_mk A1_mo A1_sl_c A1_fl_c A1_ro_c A1_nt_c A1_mk_c A1_mo_c AT_it_c vT_pl vT_nw vT_ts vT_tf v1_ng v1_sl_n v1_fl_n v1_ro_n v1_nt_n v1_mk_n v1_mo_n vT_it_n fT_it_c f1_sl_c f1_fl_c) H := hP
          have hD : va_D A (wd_X5_doItems cI cZ AT A1 AT_tx AT_tk AT_it A1_sl A1_fl A1_ro A1_nt A1_mk A1_mo A1_sl_c A1_fl_c A1_ro_c A1_nt_c A1_mk_c A1_mo_c AT_it_c vT_pl vT_nw vT_ts vT_tf v1_ng v1_sl_n v1_fl_n v1_ro_n v1_nt_n v1_mk_n v1_mo_n vT_it_n fT_it_c f1_sl_c f1_fl_c) := hD
          obtain ⟨r_71, hc_71, hm⟩ := ob_s hm
          refine q_cv (q_rv (rest := []) ⟨hx, hb, hml, hown, hts⟩ hK hN hP hD (c_X4_addSleeper l D cI cZ H.size A1 A1_sl A1_fl A1_ro A1_nt A1_mk A1_mo A1_sl_c A1_mo_c v1_ng v1_sl_n f1_sl_c v1_mo_n r_59 r_68 r_71 hc_71) mb_X4_addSleeper mv_X4_addSleeper wl_X5_65 [1, 2, 10, 7] rfl rfl rfl (Nat.le_of_ble_eq_true rfl) (Nat.le_of_ble_eq_true rfl) rfl hl.1 rfl (Nat.le_of_ble_eq_true rfl) ⟨Nat.le_refl 0, Nat.le_refl 0⟩ dX5_doItems_71) hP hD hS hA [1, 2, 10, 7] rfl rfl (fun H locs hP hD hS => ?_)
          have hP : va_P D vwCl (wd_X5_doItems cI cZ AT A1 AT_tx AT_tk AT_it A1_sl A1_fl A1_ro A1_nt A1_mk A1_mo A1_sl_c A1_fl_c A1_ro_c A1_nt_c A1_mk_c A1_mo_c AT_it_c vT_pl vT_nw vT_ts vT_tf v1_ng r_71.1 v1_fl_n v1_ro_n v1_nt_n v1_mk_n r_71.2.2 vT_it_n fT_it_c r_71.2.1 f1_fl_c) H := hP
          have hD : va_D A (wd_X5_doItems cI cZ AT A1 AT_tx AT_tk AT_it A1_sl A1_fl A1_ro A1_nt A1_mk A1_mo A1_sl_c A1_fl_c A1_ro_c A1_nt_c A1_mk_c A1_mo_c AT_it_c vT_pl vT_nw vT_ts vT_tf v1_ng r_71.1 v1_fl_n v1_ro_n v1_nt_n v1_mk_n r_71.2.2 vT_it_n fT_it_c r_71.2.1 f1_fl_c) := hD
          refine lv_goto (tgt := 149) hx hb dX5_doItems_74 (by decide) ?_
          refine lv_iinc (v := (x2 + 1)) (lv' := [(2, .int (x2 + 1)), (0, .ref AT), (1, .ref A1)]) hx hb dX5_doItems_149 hl (k := 0) rfl rfl (by decide) rfl (fun ls hl => ?_)
          refine lv_goto (tgt := 6) hx hb dX5_doItems_152 (by decide) ?_
          exact ih_6 (x2 + 1) v1_ng r_71.1 v1_fl_n v1_ro_n v1_nt_n v1_mk_n r_71.2.2 r_71.2.1 f1_fl_c H locs ls hm hP hD hS (lv_sub hl [0, 1, 2] rfl)
        have hm := it_n c_26_5 hm
        rcases Decidable.em (r_23 = 6) with c_26_6 | c_26_6
        · have hm := it_s c_26_6 hm
          refine lv_tableIn (tgt := 77) hx hb dX5_doItems_26 (by rw [c_26_6]; decide) (by rw [c_26_6]; decide) (by rw [c_26_6]; rfl) (by decide) ?_
          refine lv_aload_n hx hb dX5_doItems_77 rfl (lv_at hl 2 rfl) ?_
          refine lv_aload_n hx hb dX5_doItems_78 rfl (lv_at hl 1 rfl) ?_
          refine gf_X5_23 (v := .ref AT_it) hx hb hts hown hK hN hP 0 rfl rfl dX5_doItems_79 ?_
          refine lv_iload_n hx hb dX5_doItems_82 rfl (lv_at hl 0 rfl) ?_
          refine lv_iconst (v := 1) hx hb dX5_doItems_83 (by decide) ?_
          obtain ⟨r_84, hc_84, hm⟩ := ob_s hm
          refine q_ci (q_rv (rest := [.ref A1]) ⟨hx, hb, hml, hown, hts⟩ hK hN hP hD (c_X3_cell l D cI cZ H.size AT_it AT_it_c 4 76 vT_it_n fT_it_c x2 1 r_84 hc_84) mb_X3_cell mv_X3_cell wl_X5_30 [8, 9] rfl rfl rfl (Nat.le_of_ble_eq_true rfl) (Nat.le_of_ble_eq_true rfl) rfl hl.1 rfl (Nat.le_of_ble_eq_true rfl) ⟨Nat.le_refl 0, Nat.le_refl 0⟩ dX5_doItems_84) hP hD hS hA [8, 9] rfl rfl (fun H locs hP hD hS => ?_)
          have hP : va_P D vwCl (wd_X5_doItems cI cZ AT A1 AT_tx AT_tk AT_it A1_sl A1_fl A1_ro A1_nt A1_mk A1_mo A1_sl_c A1_fl_c A1_ro_c A1_nt_c A1_mk_c A1_mo_c AT_it_c vT_pl vT_nw vT_ts vT_tf v1_ng v1_sl_n v1_fl_n v1_ro_n v1_nt_n v1_mk_n v1_mo_n vT_it_n fT_it_c f1_sl_c f1_fl_c) H := hP
          have hD : va_D A (wd_X5_doItems cI cZ AT A1 AT_tx AT_tk AT_it A1_sl A1_fl A1_ro A1_nt A1_mk A1_mo A1_sl_c A1_fl_c A1_ro_c A1_nt_c A1_mk_c A1_mo_c AT_it_c vT_pl vT_nw vT_ts vT_tf v1_ng v1_sl_n v1_fl_n v1_ro_n v1_nt_n v1_mk_n v1_mo_n vT_it_n fT_it_c f1_sl_c f1_fl_c) := hD
          refine lv_aload_n hx hb dX5_doItems_87 rfl (lv_at hl 1 rfl) ?_
          refine gf_X5_23 (v := .ref AT_it) hx hb hts hown hK hN hP 0 rfl rfl dX5_doItems_88 ?_
          refine lv_iload_n hx hb dX5_doItems_91 rfl (lv_at hl 0 rfl) ?_
          refine lv_iconst (v := 2) hx hb dX5_doItems_92 (by decide) ?_
          obtain ⟨r_93, hc_93, hm⟩ := ob_s hm
          refine q_ci (q_rv (rest := [.int r_84, .ref A1]) ⟨hx, hb, hml, hown, hts⟩ hK hN hP hD (c_X3_cell l D cI cZ H.size AT_it AT_it_c 4 76 vT_it_n fT_it_c x2 2 r_93 hc_93) mb_X3_cell mv_X3_cell wl_X5_30 [8, 9] rfl rfl rfl (Nat.le_of_ble_eq_true rfl) (Nat.le_of_ble_eq_true rfl) rfl hl.1 rfl (Nat.le_of_ble_eq_true rfl) ⟨Nat.le_refl 0, Nat.le_refl 0⟩ dX5_doItems_93) hP hD hS hA [8, 9] rfl rfl (fun H locs hP hD hS => ?_)
          have hP : va_P D vwCl (wd_X5_doItems cI cZ AT A1 AT_tx AT_tk AT_it A1_sl A1_fl A1_ro A1_nt A1_mk A1_mo A1_sl_c A1_fl_c A1_ro_c A1_nt_c A1_mk_c A1_mo_c AT_it_c vT_pl vT_nw vT_ts vT_tf v1_ng v1_sl_n v1_fl_n v1_ro_n v1_nt_n v1_mk_n v1_mo_n vT_it_n fT_it_c f1_sl_c f1_fl_c) H := hP
          have hD : va_D A (wd_X5_doItems cI cZ AT A1 AT_tx AT_tk AT_it A1_sl A1_fl A1_ro A1_nt A1_mk A1_mo A1_sl_c A1_fl_c A1_ro_c A1_nt_c A1_mk_c A1_mo_c AT_it_c vT_pl vT_nw vT_ts vT_tf v1_ng v1_sl_n v1_fl_n v1_ro_n v1_nt_n v1_mk_n v1_mo_n vT_it_n fT_it_c f1_sl_c f1_fl_c) := hD
          refine lv_aload_n hx hb dX5_doItems_96 rfl (lv_at hl 1 rfl) ?_
          refine gf_X5_23 (v := .ref AT_it) hx hb hts hown hK hN hP 0 rfl rfl dX5_doItems_97 ?_
          refine lv_iload_n hx hb dX5_doItems_100 rfl (lv_at hl 0 rfl) ?_
          refine lv_iconst (v := 3) hx hb dX5_doItems_101 (by decide) ?_
          obtain ⟨r_102, hc_102, hm⟩ := ob_s hm
          refine q_ci (q_rv (rest := [.int r_93, .int r_84, .ref A1]) ⟨hx, hb, hml, hown, hts⟩ hK hN hP hD (c_X3_cell l D cI cZ H.size AT_it AT_it_c 4 76 vT_it_n fT_it_c x2 3 r_102 hc_102) mb_X3_cell mv_X3_cell wl_X5_30 [8, 9] rfl rfl rfl (Nat.le_of_ble_eq_true rfl) (Nat.le_of_ble_eq_true rfl) rfl hl.1 rfl (Nat.le_of_ble_eq_true rfl) ⟨Nat.le_refl 0, Nat.le_refl 0⟩ dX5_doItems_102) hP hD hS hA [8, 9] rfl rfl (fun H locs hP hD hS => ?_)
          have hP : va_P D vwCl (wd_X5_doItems cI cZ AT A1 AT_tx AT_tk AT_it A1_sl A1_fl A1_ro A1_nt A1_mk A1_mo A1_sl_c A1_fl_c A1_ro_c A1_nt_c A1_mk_c A1_mo_c AT_it_c vT_pl vT_nw vT_ts vT_tf v1_ng v1_sl_n v1_fl_n v1_ro_n v1_nt_n v1_mk_n v1_mo_n vT_it_n fT_it_c f1_sl_c f1_fl_c) H := hP
          have hD : va_D A (wd_X5_doItems cI cZ AT A1 AT_tx AT_tk AT_it A1_sl A1_fl A1_ro A1_nt A1_mk A1_mo A1_sl_c A1_fl_c A1_ro_c A1_nt_c A1_mk_c A1_mo_c AT_it_c vT_pl vT_nw vT_ts vT_tf v1_ng v1_sl_n v1_fl_n v1_ro_n v1_nt_n v1_mk_n v1_mo_n vT_it_n fT_it_c f1_sl_c f1_fl_c) := hD
          obtain ⟨r_105, hc_105, hm⟩ := ob_s hm
          refine q_cv (q_rv (rest := []) ⟨hx, hb, hml, hown, hts⟩ hK hN hP hD (c_X4_addFlower l D cI cZ H.size A1 A1_sl A1_fl A1_ro A1_nt A1_mk A1_mo A1_fl_c A1_mo_c v1_ng v1_fl_n f1_fl_c v1_mo_n r_84 r_93 r_102 r_105 hc_105) mb_X4_addFlower mv_X4_addFlower wl_X5_68 [1, 3, 11, 7] rfl rfl rfl (Nat.le_of_ble_eq_true rfl) (Nat.le_of_ble_eq_true rfl) rfl hl.1 rfl (Nat.le_of_ble_eq_true rfl) ⟨Nat.le_refl 0, Nat.le_refl 0⟩ dX5_doItems_105) hP hD hS hA [1, 3, 11, 7] rfl rfl (fun H locs hP hD hS => ?_)
          have hP : va_P D vwCl (wd_X5_doItems cI cZ AT A1 AT_tx AT_tk AT_it A1_sl A1_fl A1_ro A1_nt A1_mk A1_mo A1_sl_c A1_fl_c A1_ro_c A1_nt_c A1_mk_c A1_mo_c AT_it_c vT_pl vT_nw vT_ts vT_tf v1_ng v1_sl_n r_105.1 v1_ro_n v1_nt_n v1_mk_n r_105.2.2 vT_it_n fT_it_c f1_sl_c r_105.2.1) H := hP
          have hD : va_D A (wd_X5_doItems cI cZ AT A1 AT_tx AT_tk AT_it A1_sl A1_fl A1_ro A1_nt A1_mk A1_mo A1_sl_c A1_fl_c A1_ro_c A1_nt_c A1_mk_c A1_mo_c AT_it_c vT_pl vT_nw vT_ts vT_tf v1_ng v1_sl_n r_105.1 v1_ro_n v1_nt_n v1_mk_n r_105.2.2 vT_it_n fT_it_c f1_sl_c r_105.2.1) := hD
          refine lv_goto (tgt := 149) hx hb dX5_doItems_108 (by decide) ?_
          refine lv_iinc (v := (x2 + 1)) (lv' := [(2, .int (x2 + 1)), (0, .ref AT), (1, .ref A1)]) hx hb dX5_doItems_149 hl (k := 0) rfl rfl (by decide) rfl (fun ls hl => ?_)
          refine lv_goto (tgt := 6) hx hb dX5_doItems_152 (by decide) ?_
          exact ih_6 (x2 + 1) v1_ng v1_sl_n r_105.1 v1_ro_n v1_nt_n v1_mk_n r_105.2.2 f1_sl_c r_105.2.1 H locs ls hm hP hD hS (lv_sub hl [0, 1, 2] rfl)
        have hm := it_n c_26_6 hm
        rcases Decidable.em (r_23 = 7) with c_26_7 | c_26_7
        · have hm := it_s c_26_7 hm
          refine lv_tableIn (tgt := 111) hx hb dX5_doItems_26 (by rw [c_26_7]; decide) (by rw [c_26_7]; decide) (by rw [c_26_7]; rfl) (by decide) ?_
          refine lv_aload_n hx hb dX5_doItems_111 rfl (lv_at hl 2 rfl) ?_
          refine lv_aload_n hx hb dX5_doItems_112 rfl (lv_at hl 1 rfl) ?_
          refine gf_X5_23 (v := .ref AT_it) hx hb hts hown hK hN hP 0 rfl rfl dX5_doItems_113 ?_
          refine lv_iload_n hx hb dX5_doItems_116 rfl (lv_at hl 0 rfl) ?_
          refine lv_iconst (v := 1) hx hb dX5_doItems_117 (by decide) ?_
          obtain ⟨r_118, hc_118, hm⟩ := ob_s hm
          refine q_ci (q_rv (rest := [.ref A1]) ⟨hx, hb, hml, hown, hts⟩ hK hN hP hD (c_X3_cell l D cI cZ H.size AT_it AT_it_c 4 76 vT_it_n fT_it_c x2 1 r_118 hc_118) mb_X3_cell mv_X3_cell wl_X5_30 [8, 9] rfl rfl rfl (Nat.le_of_ble_eq_true rfl) (Nat.le_of_ble_eq_true rfl) rfl hl.1 rfl (Nat.le_of_ble_eq_true rfl) ⟨Nat.le_refl 0, Nat.le_refl 0⟩ dX5_doItems_118) hP hD hS hA [8, 9] rfl rfl (fun H locs hP hD hS => ?_)
          have hP : va_P D vwCl (wd_X5_doItems cI cZ AT A1 AT_tx AT_tk AT_it A1_sl A1_fl A1_ro A1_nt A1_mk A1_mo A1_sl_c A1_fl_c A1_ro_c A1_nt_c A1_mk_c A1_mo_c AT_it_c vT_pl vT_nw vT_ts vT_tf v1_ng v1_sl_n v1_fl_n v1_ro_n v1_nt_n v1_mk_n v1_mo_n vT_it_n fT_it_c f1_sl_c f1_fl_c) H := hP
          have hD : va_D A (wd_X5_doItems cI cZ AT A1 AT_tx AT_tk AT_it A1_sl A1_fl A1_ro A1_nt A1_mk A1_mo A1_sl_c A1_fl_c A1_ro_c A1_nt_c A1_mk_c A1_mo_c AT_it_c vT_pl vT_nw vT_ts vT_tf v1_ng v1_sl_n v1_fl_n v1_ro_n v1_nt_n v1_mk_n v1_mo_n vT_it_n fT_it_c f1_sl_c f1_fl_c) := hD
          refine lv_aload_n hx hb dX5_doItems_121 rfl (lv_at hl 1 rfl) ?_
          refine gf_X5_23 (v := .ref AT_it) hx hb hts hown hK hN hP 0 rfl rfl dX5_doItems_122 ?_
          refine lv_iload_n hx hb dX5_doItems_125 rfl (lv_at hl 0 rfl) ?_
          refine lv_iconst (v := 2) hx hb dX5_doItems_126 (by decide) ?_
          obtain ⟨r_127, hc_127, hm⟩ := ob_s hm
          refine q_ci (q_rv (rest := [.int r_118, .ref A1]) ⟨hx, hb, hml, hown, hts⟩ hK hN hP hD (c_X3_cell l D cI cZ H.size AT_it AT_it_c 4 76 vT_it_n fT_it_c x2 2 r_127 hc_127) mb_X3_cell mv_X3_cell wl_X5_30 [8, 9] rfl rfl rfl (Nat.le_of_ble_eq_true rfl) (Nat.le_of_ble_eq_true rfl) rfl hl.1 rfl (Nat.le_of_ble_eq_true rfl) ⟨Nat.le_refl 0, Nat.le_refl 0⟩ dX5_doItems_127) hP hD hS hA [8, 9] rfl rfl (fun H locs hP hD hS => ?_)
          have hP : va_P D vwCl (wd_X5_doItems cI cZ AT A1 AT_tx AT_tk AT_it A1_sl A1_fl A1_ro A1_nt A1_mk A1_mo A1_sl_c A1_fl_c A1_ro_c A1_nt_c A1_mk_c A1_mo_c AT_it_c vT_pl vT_nw vT_ts vT_tf v1_ng v1_sl_n v1_fl_n v1_ro_n v1_nt_n v1_mk_n v1_mo_n vT_it_n fT_it_c f1_sl_c f1_fl_c) H := hP
          have hD : va_D A (wd_X5_doItems cI cZ AT A1 AT_tx AT_tk AT_it A1_sl A1_fl A1_ro A1_nt A1_mk A1_mo A1_sl_c A1_fl_c A1_ro_c A1_nt_c A1_mk_c A1_mo_c AT_it_c vT_pl vT_nw vT_ts vT_tf v1_ng v1_sl_n v1_fl_n v1_ro_n v1_nt_n v1_mk_n v1_mo_n vT_it_n fT_it_c f1_sl_c f1_fl_c) := hD
          obtain ⟨r_130, hc_130, hm⟩ := ob_s hm
          refine q_cv (q_rv (rest := []) ⟨hx, hb, hml, hown, hts⟩ hK hN hP hD (c_X4_changePillows l D cI cZ H.size A1 A1_sl A1_fl A1_ro A1_nt A1_mk A1_mo A1_sl_c v1_ng v1_sl_n f1_sl_c r_118 r_127 r_130 hc_130) mb_X4_changePillows mv_X4_changePillows wl_X5_72 [1, 2, 10] rfl rfl rfl (Nat.le_of_ble_eq_true rfl) (Nat.le_of_ble_eq_true rfl) rfl hl.1 rfl (Nat.le_of_ble_eq_true rfl) ⟨Nat.le_refl 0, Nat.le_refl 0⟩ dX5_doItems_130) hP hD hS hA [1, 2, 10] rfl rfl (fun H locs hP hD hS => ?_)
          have hP : va_P D vwCl (wd_X5_doItems cI cZ AT A1 AT_tx AT_tk AT_it A1_sl A1_fl A1_ro A1_nt A1_mk A1_mo A1_sl_c A1_fl_c A1_ro_c A1_nt_c A1_mk_c A1_mo_c AT_it_c vT_pl vT_nw vT_ts vT_tf v1_ng v1_sl_n v1_fl_n v1_ro_n v1_nt_n v1_mk_n v1_mo_n vT_it_n fT_it_c r_130 f1_fl_c) H := hP
          have hD : va_D A (wd_X5_doItems cI cZ AT A1 AT_tx AT_tk AT_it A1_sl A1_fl A1_ro A1_nt A1_mk A1_mo A1_sl_c A1_fl_c A1_ro_c A1_nt_c A1_mk_c A1_mo_c AT_it_c vT_pl vT_nw vT_ts vT_tf v1_ng v1_sl_n v1_fl_n v1_ro_n v1_nt_n v1_mk_n v1_mo_n vT_it_n fT_it_c r_130 f1_fl_c) := hD
          refine lv_goto (tgt := 149) hx hb dX5_doItems_133 (by decide) ?_
          refine lv_iinc (v := (x2 + 1)) (lv' := [(2, .int (x2 + 1)), (0, .ref AT), (1, .ref A1)]) hx hb dX5_doItems_149 hl (k := 0) rfl rfl (by decide) rfl (fun ls hl => ?_)
          refine lv_goto (tgt := 6) hx hb dX5_doItems_152 (by decide) ?_
          exact ih_6 (x2 + 1) v1_ng v1_sl_n v1_fl_n v1_ro_n v1_nt_n v1_mk_n v1_mo_n r_130 f1_fl_c H locs ls hm hP hD hS (lv_sub hl [0, 1, 2] rfl)
        have hm := it_n c_26_7 hm
        have ht_0 := lv_neT c_26_5 (show (5 : Int32).toInt = 5 by decide)
        have ht_1 := lv_neT c_26_6 (show (6 : Int32).toInt = 6 by decide)
        have ht_2 := lv_neT c_26_7 (show (7 : Int32).toInt = 7 by decide)
        refine lv_tableOut (tgt := 136) hx hb dX5_doItems_26 (by omega) (by decide) ?_
        refine lv_aload_n hx hb dX5_doItems_136 rfl (lv_at hl 2 rfl) ?_
        refine lv_aload_n hx hb dX5_doItems_137 rfl (lv_at hl 1 rfl) ?_
        refine gf_X5_23 (v := .ref AT_it) hx hb hts hown hK hN hP 0 rfl rfl dX5_doItems_138 ?_
        refine lv_iload_n hx hb dX5_doItems_141 rfl (lv_at hl 0 rfl) ?_
        refine lv_iconst (v := 1) hx hb dX5_doItems_142 (by decide) ?_
        obtain ⟨r_143, hc_143, hm⟩ := ob_s hm
        refine q_ci (q_rv (rest := [.ref A1]) ⟨hx, hb, hml, hown, hts⟩ hK hN hP hD (c_X3_cell l D cI cZ H.size AT_it AT_it_c 4 76 vT_it_n fT_it_c x2 1 r_143 hc_143) mb_X3_cell mv_X3_cell wl_X5_30 [8, 9] rfl rfl rfl (Nat.le_of_ble_eq_true rfl) (Nat.le_of_ble_eq_true rfl) rfl hl.1 rfl (Nat.le_of_ble_eq_true rfl) ⟨Nat.le_refl 0, Nat.le_refl 0⟩ dX5_doItems_143) hP hD hS hA [8, 9] rfl rfl (fun H locs hP hD hS => ?_)
        have hP : va_P D vwCl (wd_X5_doItems cI cZ AT A1 AT_tx AT_tk AT_it A1_sl A1_fl A1_ro A1_nt A1_mk A1_mo A1_sl_c A1_fl_c A1_ro_c A1_nt_c A1_mk_c A1_mo_c AT_it_c vT_pl vT_nw vT_ts vT_tf v1_ng v1_sl_n v1_fl_n v1_ro_n v1_nt_n v1_mk_n v1_mo_n vT_it_n fT_it_c f1_sl_c f1_fl_c) H := hP
        have hD : va_D A (wd_X5_doItems cI cZ AT A1 AT_tx AT_tk AT_it A1_sl A1_fl A1_ro A1_nt A1_mk A1_mo A1_sl_c A1_fl_c A1_ro_c A1_nt_c A1_mk_c A1_mo_c AT_it_c vT_pl vT_nw vT_ts vT_tf v1_ng v1_sl_n v1_fl_n v1_ro_n v1_nt_n v1_mk_n v1_mo_n vT_it_n fT_it_c f1_sl_c f1_fl_c) := hD
        obtain ⟨r_146, hc_146, hm⟩ := ob_s hm
        refine q_cv (q_rv (rest := []) ⟨hx, hb, hml, hown, hts⟩ hK hN hP hD (c_X4_passNights l D cI cZ H.size A1 A1_sl A1_fl A1_ro A1_nt A1_mk A1_mo A1_sl_c A1_fl_c v1_ng v1_sl_n f1_sl_c v1_fl_n f1_fl_c r_143 r_146 hc_146) mb_X4_passNights mv_X4_passNights wl_X5_75 [1, 2, 10, 3, 11] rfl rfl rfl (Nat.le_of_ble_eq_true rfl) (Nat.le_of_ble_eq_true rfl) rfl hl.1 rfl (Nat.le_of_ble_eq_true rfl) ⟨Nat.le_refl 0, Nat.le_refl 0⟩ dX5_doItems_146) hP hD hS hA [1, 2, 10, 3, 11] rfl rfl (fun H locs hP hD hS => ?_)
        have hP : va_P D vwCl (wd_X5_doItems cI cZ AT A1 AT_tx AT_tk AT_it A1_sl A1_fl A1_ro A1_nt A1_mk A1_mo A1_sl_c A1_fl_c A1_ro_c A1_nt_c A1_mk_c A1_mo_c AT_it_c vT_pl vT_nw vT_ts vT_tf r_146.1 v1_sl_n v1_fl_n v1_ro_n v1_nt_n v1_mk_n v1_mo_n vT_it_n fT_it_c r_146.2 f1_fl_c) H := hP
        have hD : va_D A (wd_X5_doItems cI cZ AT A1 AT_tx AT_tk AT_it A1_sl A1_fl A1_ro A1_nt A1_mk A1_mo A1_sl_c A1_fl_c A1_ro_c A1_nt_c A1_mk_c A1_mo_c AT_it_c vT_pl vT_nw vT_ts vT_tf r_146.1 v1_sl_n v1_fl_n v1_ro_n v1_nt_n v1_mk_n v1_mo_n vT_it_n fT_it_c r_146.2 f1_fl_c) := hD
        refine lv_iinc (v := (x2 + 1)) (lv' := [(2, .int (x2 + 1)), (0, .ref AT), (1, .ref A1)]) hx hb dX5_doItems_149 hl (k := 0) rfl rfl (by decide) rfl (fun ls hl => ?_)
        refine lv_goto (tgt := 6) hx hb dX5_doItems_152 (by decide) ?_
        exact ih_6 (x2 + 1) r_146.1 v1_sl_n v1_fl_n v1_ro_n v1_nt_n v1_mk_n v1_mo_n r_146.2 f1_fl_c H locs ls hm hP hD hS (lv_sub hl [0, 1, 2] rfl)
  unfold fm_X5_doItems at hm
  refine q_gen hS hP ?_
  intro H locs hP hS
  refine lv_aload_n hx hb dX5_doItems_0 rfl (lv_at hl 1 rfl) ?_
  obtain ⟨r_1, hc_1, hm⟩ := ob_s hm
  refine q_cv (q_rv (rest := []) ⟨hx, hb, hml, hown, hts⟩ hK hN hP hD (c_X4_startAnew l D cI cZ H.size A1 A1_sl A1_fl A1_ro A1_nt A1_mk A1_mo A1_sl_c A1_fl_c A1_ro_c A1_nt_c A1_mk_c A1_mo_c v1_ng v1_sl_n v1_fl_n v1_ro_n v1_nt_n v1_mk_n v1_mo_n r_1 hc_1) mb_X4_startAnew mv_X4_startAnew wl_X5_60 [1, 2, 3, 4, 5, 6, 7] rfl rfl rfl (Nat.le_of_ble_eq_true rfl) (Nat.le_of_ble_eq_true rfl) rfl hl.1 rfl (Nat.le_of_ble_eq_true rfl) ⟨Nat.le_refl 0, Nat.le_refl 0⟩ dX5_doItems_1) hP hD hS hA [1, 2, 3, 4, 5, 6, 7] rfl rfl (fun H locs hP hD hS => ?_)
  have hP : va_P D vwCl (wd_X5_doItems cI cZ AT A1 AT_tx AT_tk AT_it A1_sl A1_fl A1_ro A1_nt A1_mk A1_mo A1_sl_c A1_fl_c A1_ro_c A1_nt_c A1_mk_c A1_mo_c AT_it_c vT_pl vT_nw vT_ts vT_tf r_1.1 r_1.2.1 r_1.2.2.1 r_1.2.2.2.1 r_1.2.2.2.2.1 r_1.2.2.2.2.2.1 r_1.2.2.2.2.2.2 vT_it_n fT_it_c f1_sl_c f1_fl_c) H := hP
  have hD : va_D A (wd_X5_doItems cI cZ AT A1 AT_tx AT_tk AT_it A1_sl A1_fl A1_ro A1_nt A1_mk A1_mo A1_sl_c A1_fl_c A1_ro_c A1_nt_c A1_mk_c A1_mo_c AT_it_c vT_pl vT_nw vT_ts vT_tf r_1.1 r_1.2.1 r_1.2.2.1 r_1.2.2.2.1 r_1.2.2.2.2.1 r_1.2.2.2.2.2.1 r_1.2.2.2.2.2.2 vT_it_n fT_it_c f1_sl_c f1_fl_c) := hD
  refine lv_iconst (v := 0) hx hb dX5_doItems_4 (by decide) ?_
  refine lv_istore_n (lv' := [(2, .int 0), (0, .ref AT), (1, .ref A1)]) hx hb dX5_doItems_5 rfl hl (by decide) rfl (fun ls hl => ?_)
  exact hL_6 FU 0 r_1.1 r_1.2.1 r_1.2.2.1 r_1.2.2.2.1 r_1.2.2.2.2.1 r_1.2.2.2.2.2.1 r_1.2.2.2.2.2.2 f1_sl_c f1_fl_c H locs ls hm hP hD hS (lv_sub hl [0, 1, 2] rfl)
