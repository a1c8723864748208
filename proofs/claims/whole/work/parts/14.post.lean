theorem gf_X2_10 {p : Program} {l : Launch} {e : Env} {R : Room} {s : State} {m : MethodId} {args : Array Value} {below : List Frame} {meth : Method} {c : Code} {H : Heap} {locs : List Loc} {cells slots : Nat} {Q : State → Prop} {pc : Nat} {ls : Array Slot} {cc : ByteArray} {D : va_G} {cI cZ : ClassId} {ws : va_W} {a : Nat} {rest fs : List Value} (hx : p.tables.exec = Jvm.exec) (hb : c.code = cc) (hts : ∀ w ∈ bg, w.before args s = true) (hown : s.vm.findClass RX2 = some m.cls) (hK : va_K D vwCl (q_tys cI cZ) s) (hN : q_N s) (hP : va_P D vwCl ws H) (q0 : Nat) (he : ws[q0]? = some (a, .inr (2, fs))) {v : Value} (hv : fs[0]? = some v) (hdg : decode cc pc = .ok (.getfield 10, 3)) (kk : W p l e R s m args below meth c H locs cells slots Q (F0 m (pc + 3) ls (v :: rest))) : W p l e R s m args below meth c H locs cells slots Q (F0 m pc ls (.ref a :: rest)) :=
  va_get (C := RX2) (T := TX2) (N := 2) hx hb hts wu_X2 hown hK hP q0 he rfl 0 (by decide) (hts _ wf_X2_10) (fun _ h9 => h9) hv hdg kk
theorem pf_X2_20 {p : Program} {l : Launch} {e : Env} {R : Room} {s : State} {m : MethodId} {args : Array Value} {below : List Frame} {meth : Method} {c : Code} {H : Heap} {locs : List Loc} {cells slots : Nat} {Q : State → Prop} {pc : Nat} {ls : Array Slot} {cc : ByteArray} {D : va_G} {cI cZ : ClassId} {ws : va_W} {A : Nat → Prop} {a : Nat} {rest fs : List Value} {x : Int32} (hx : p.tables.exec = Jvm.exec) (hb : c.code = cc) (hts : ∀ w ∈ bg, w.before args s = true) (hown : s.vm.findClass RX2 = some m.cls) (hK : va_K D vwCl (q_tys cI cZ) s) (hN : q_N s) (hP : va_P D vwCl ws H) (hD : va_D A ws) (hS : va_S A s.heap H locs) (q0 : Nat) (he : ws[q0]? = some (a, .inr (2, fs))) (hz : narrow .boolean (.int x) = .int x) (hf : fits .boolean (.int x) = true) (hdg : decode cc pc = .ok (.putfield 20, 3)) (kk : ∀ (H1 : Heap) (locs1 : List Loc), va_P D vwCl (ws.set q0 (a, .inr (2, fs.set 1 (.int x)))) H1 → va_D A (ws.set q0 (a, .inr (2, fs.set 1 (.int x)))) → va_S A s.heap H1 locs1 → W p l e R s m args below meth c H1 locs1 cells slots Q (F0 m (pc + 3) ls rest)) (hl : 1 < fs.length := by exact Nat.le_of_ble_eq_true rfl) : W p l e R s m args below meth c H locs cells slots Q (F0 m pc ls (.int x :: .ref a :: rest)) :=
  va_put (C := RX2) (T := TX2) (N := 2) (ty := .boolean) hx hb hts wu_X2 tyX2 tyX2_ok nmX2 hown hK hP hD hS q0 he rfl 1 (by decide) (hts _ wf_X2_20) (fun _ h9 => h9) rfl (by decide +kernel) hz hf hl hdg kk
theorem mb_X2_keep : q_mb yX2_keep cX2_keep 2 none 1 := ⟨wc_X2_keep, wn_X2, by decide, by decide, by decide +kernel⟩
theorem mv_X2_keep : q_mv yX2_keep 2 := ⟨wi_X2_keep, ws_X2_keep, _, rfl, rfl⟩
def wd_X2_keep (cI cZ : ClassId) (AT A1 AT_kp AT_kp_sl AT_kp_fl AT_kp_ro AT_kp_nt AT_kp_mk AT_kp_mo A1_sl A1_fl A1_ro A1_nt A1_mk A1_mo AT_kp_sl_c A1_sl_c AT_kp_fl_c A1_fl_c AT_kp_ro_c A1_ro_c AT_kp_nt_c A1_nt_c AT_kp_mk_c A1_mk_c AT_kp_mo_c A1_mo_c : Nat) (vT_wk : Int32) (vT_kp_ng : Int32) (v1_ng : Int32) (vT_kp_sl_n : Int32) (v1_sl_n : Int32) (f1_sl_c : Nat → Int32) (fT_kp_sl_c : Nat → Int32) (vT_kp_fl_n : Int32) (v1_fl_n : Int32) (f1_fl_c : Nat → Int32) (fT_kp_fl_c : Nat → Int32) (vT_kp_ro_n : Int32) (v1_ro_n : Int32) (f1_ro_c : Nat → Int32) (fT_kp_ro_c : Nat → Int32) (vT_kp_nt_n : Int32) (v1_nt_n : Int32) (f1_nt_c : Nat → Int32) (fT_kp_nt_c : Nat → Int32) (vT_kp_mk_n : Int32) (v1_mk_n : Int32) (f1_mk_c : Nat → Int32) (fT_kp_mk_c : Nat → Int32) (vT_kp_mo_n : Int32) (v1_mo_n : Int32) (f1_mo_c : Nat → Int32) (fT_kp_mo_c : Nat → Int32) : va_W := [(AT, .inr (2, [.ref AT_kp, .int vT_wk])), (AT_kp, .inr (4, [.ref AT_kp_sl, .ref AT_kp_fl, .ref AT_kp_ro, .ref AT_kp_nt, .ref AT_kp_mk, .ref AT_kp_mo, .int vT_kp_ng])), (A1, .inr (4, [.ref A1_sl, .ref A1_fl, .ref A1_ro, .ref A1_nt, .ref A1_mk, .ref A1_mo, .int v1_ng])), (AT_kp_sl, .inr (3, [.int 4, .ref AT_kp_sl_c, .int vT_kp_sl_n])), (A1_sl, .inr (3, [.int 4, .ref A1_sl_c, .int v1_sl_n])), (A1_sl_c, .inl (cI, 24, .inl f1_sl_c)), (AT_kp_sl_c, .inl (cI, 24, .inl fT_kp_sl_c)), (AT_kp_fl, .inr (3, [.int 3, .ref AT_kp_fl_c, .int vT_kp_fl_n])), (A1_fl, .inr (3, [.int 3, .ref A1_fl_c, .int v1_fl_n])), (A1_fl_c, .inl (cI, 18, .inl f1_fl_c)), (AT_kp_fl_c, .inl (cI, 18, .inl fT_kp_fl_c)), (AT_kp_ro, .inr (3, [.int 3, .ref AT_kp_ro_c, .int vT_kp_ro_n])), (A1_ro, .inr (3, [.int 3, .ref A1_ro_c, .int v1_ro_n])), (A1_ro_c, .inl (cI, 15, .inl f1_ro_c)), (AT_kp_ro_c, .inl (cI, 15, .inl fT_kp_ro_c)), (AT_kp_nt, .inr (3, [.int 4, .ref AT_kp_nt_c, .int vT_kp_nt_n])), (A1_nt, .inr (3, [.int 4, .ref A1_nt_c, .int v1_nt_n])), (A1_nt_c, .inl (cI, 24, .inl f1_nt_c)), (AT_kp_nt_c, .inl (cI, 24, .inl fT_kp_nt_c)), (AT_kp_mk, .inr (3, [.int 4, .ref AT_kp_mk_c, .int vT_kp_mk_n])), (A1_mk, .inr (3, [.int 4, .ref A1_mk_c, .int v1_mk_n])), (A1_mk_c, .inl (cI, 24, .inl f1_mk_c)), (AT_kp_mk_c, .inl (cI, 24, .inl fT_kp_mk_c)), (AT_kp_mo, .inr (3, [.int 25, .ref AT_kp_mo_c, .int vT_kp_mo_n])), (A1_mo, .inr (3, [.int 25, .ref A1_mo_c, .int v1_mo_n])), (A1_mo_c, .inl (cI, 200, .inl f1_mo_c)), (AT_kp_mo_c, .inl (cI, 200, .inl fT_kp_mo_c))]
def fm_X2_keep (vT_wk : Int32) (vT_kp_ng : Int32) (v1_ng : Int32) (vT_kp_sl_n : Int32) (v1_sl_n : Int32) (f1_sl_c : Nat → Int32) (fT_kp_sl_c : Nat → Int32) (vT_kp_fl_n : Int32) (v1_fl_n : Int32) (f1_fl_c : Nat → Int32) (fT_kp_fl_c : Nat → Int32) (vT_kp_ro_n : Int32) (v1_ro_n : Int32) (f1_ro_c : Nat → Int32) (fT_kp_ro_c : Nat → Int32) (vT_kp_nt_n : Int32) (v1_nt_n : Int32) (f1_nt_c : Nat → Int32) (fT_kp_nt_c : Nat → Int32) (vT_kp_mk_n : Int32) (v1_mk_n : Int32) (f1_mk_c : Nat → Int32) (fT_kp_mk_c : Nat → Int32) (vT_kp_mo_n : Int32) (v1_mo_n : Int32) (f1_mo_c : Nat → Int32) (fT_kp_mo_c : Nat → Int32) : Option (Int32 × Int32 × Int32 × (Nat → Int32) × Int32 × (Nat → Int32) × Int32 × (Nat → Int32) × Int32 × (Nat → Int32) × Int32 × (Nat → Int32) × Int32 × (Nat → Int32)) := Option.bind (fm_X4_takeFrom vT_kp_ng v1_ng vT_kp_sl_n v1_sl_n f1_sl_c fT_kp_sl_c vT_kp_fl_n v1_fl_n f1_fl_c fT_kp_fl_c vT_kp_ro_n v1_ro_n f1_ro_c fT_kp_ro_c vT_kp_nt_n v1_nt_n f1_nt_c fT_kp_nt_c vT_kp_mk_n v1_mk_n f1_mk_c fT_kp_mk_c vT_kp_mo_n v1_mo_n f1_mo_c fT_kp_mo_c) (fun r_5 => some (1, r_5.1, r_5.2.1, r_5.2.2.1, r_5.2.2.2.1, r_5.2.2.2.2.1, r_5.2.2.2.2.2.1, r_5.2.2.2.2.2.2.1, r_5.2.2.2.2.2.2.2.1, r_5.2.2.2.2.2.2.2.2.1, r_5.2.2.2.2.2.2.2.2.2.1, r_5.2.2.2.2.2.2.2.2.2.2.1, r_5.2.2.2.2.2.2.2.2.2.2.2.1, r_5.2.2.2.2.2.2.2.2.2.2.2.2))
set_option maxHeartbeats 4000000 in
set_option maxRecDepth 100000 in
theorem c_X2_keep (l : Launch) (D : va_G) (cI cZ : ClassId) (sz : Nat) (AT A1 AT_kp AT_kp_sl AT_kp_fl AT_kp_ro AT_kp_nt AT_kp_mk AT_kp_mo A1_sl A1_fl A1_ro A1_nt A1_mk A1_mo AT_kp_sl_c A1_sl_c AT_kp_fl_c A1_fl_c AT_kp_ro_c A1_ro_c AT_kp_nt_c A1_nt_c AT_kp_mk_c A1_mk_c AT_kp_mo_c A1_mo_c : Nat) (vT_wk : Int32) (vT_kp_ng : Int32) (v1_ng : Int32) (vT_kp_sl_n : Int32) (v1_sl_n : Int32) (f1_sl_c : Nat → Int32) (fT_kp_sl_c : Nat → Int32) (vT_kp_fl_n : Int32) (v1_fl_n : Int32) (f1_fl_c : Nat → Int32) (fT_kp_fl_c : Nat → Int32) (vT_kp_ro_n : Int32) (v1_ro_n : Int32) (f1_ro_c : Nat → Int32) (fT_kp_ro_c : Nat → Int32) (vT_kp_nt_n : Int32) (v1_nt_n : Int32) (f1_nt_c : Nat → Int32) (fT_kp_nt_c : Nat → Int32) (vT_kp_mk_n : Int32) (v1_mk_n : Int32) (f1_mk_c : Nat → Int32) (fT_kp_mk_c : Nat → Int32) (vT_kp_mo_n : Int32) (v1_mo_n : Int32) (f1_mo_c : Nat → Int32) (fT_kp_mo_c : Nat → Int32) (out : (Int32 × Int32 × Int32 × (Nat → Int32) × Int32 × (Nat → Int32) × Int32 × (Nat → Int32) × Int32 × (Nat → Int32) × Int32 × (Nat → Int32) × Int32 × (Nat → Int32))) (hm : fm_X2_keep vT_wk vT_kp_ng v1_ng vT_kp_sl_n v1_sl_n f1_sl_c fT_kp_sl_c vT_kp_fl_n v1_fl_n f1_fl_c fT_kp_fl_c vT_kp_ro_n v1_ro_n f1_ro_c fT_kp_ro_c vT_kp_nt_n v1_nt_n f1_nt_c fT_kp_nt_c vT_kp_mk_n v1_mk_n f1_mk_c fT_kp_mk_c vT_kp_mo_n v1_mo_n f1_mo_c fT_kp_mo_c = some out) : Met l yX2_keep (Cond.code yX2_keep cX2_keep 2 none :: bg) { frames := 3, cells := 0, slots := 0, locals := 65 } (va_Pc [.ref AT, .ref A1] (q_pre D cI cZ sz (wd_X2_keep cI cZ AT A1 AT_kp AT_kp_sl AT_kp_fl AT_kp_ro AT_kp_nt AT_kp_mk AT_kp_mo A1_sl A1_fl A1_ro A1_nt A1_mk A1_mo AT_kp_sl_c A1_sl_c AT_kp_fl_c A1_fl_c AT_kp_ro_c A1_ro_c AT_kp_nt_c A1_nt_c AT_kp_mk_c A1_mk_c AT_kp_mo_c A1_mo_c vT_wk vT_kp_ng v1_ng vT_kp_sl_n v1_sl_n f1_sl_c fT_kp_sl_c vT_kp_fl_n v1_fl_n f1_fl_c fT_kp_fl_c vT_kp_ro_n v1_ro_n f1_ro_c fT_kp_ro_c vT_kp_nt_n v1_nt_n f1_nt_c fT_kp_nt_c vT_kp_mk_n v1_mk_n f1_mk_c fT_kp_mk_c vT_kp_mo_n v1_mo_n f1_mo_c fT_kp_mo_c))) (q_Qv D (wd_X2_keep cI cZ AT A1 AT_kp AT_kp_sl AT_kp_fl AT_kp_ro AT_kp_nt AT_kp_mk AT_kp_mo A1_sl A1_fl A1_ro A1_nt A1_mk A1_mo AT_kp_sl_c A1_sl_c AT_kp_fl_c A1_fl_c AT_kp_ro_c A1_ro_c AT_kp_nt_c A1_nt_c AT_kp_mk_c A1_mk_c AT_kp_mo_c A1_mo_c out.1 out.2.1 v1_ng out.2.2.1 v1_sl_n f1_sl_c out.2.2.2.1 out.2.2.2.2.1 v1_fl_n f1_fl_c out.2.2.2.2.2.1 out.2.2.2.2.2.2.1 v1_ro_n f1_ro_c out.2.2.2.2.2.2.2.1 out.2.2.2.2.2.2.2.2.1 v1_nt_n f1_nt_c out.2.2.2.2.2.2.2.2.2.1 out.2.2.2.2.2.2.2.2.2.2.1 v1_mk_n f1_mk_c out.2.2.2.2.2.2.2.2.2.2.2.1 out.2.2.2.2.2.2.2.2.2.2.2.2.1 v1_mo_n f1_mo_c out.2.2.2.2.2.2.2.2.2.2.2.2.2) (va_A (wd_X2_keep cI cZ AT A1 AT_kp AT_kp_sl AT_kp_fl AT_kp_ro AT_kp_nt AT_kp_mk AT_kp_mo A1_sl A1_fl A1_ro A1_nt A1_mk A1_mo AT_kp_sl_c A1_sl_c AT_kp_fl_c A1_fl_c AT_kp_ro_c A1_ro_c AT_kp_nt_c A1_nt_c AT_kp_mk_c A1_mk_c AT_kp_mo_c A1_mo_c vT_wk vT_kp_ng v1_ng vT_kp_sl_n v1_sl_n f1_sl_c fT_kp_sl_c vT_kp_fl_n v1_fl_n f1_fl_c fT_kp_fl_c vT_kp_ro_n v1_ro_n f1_ro_c fT_kp_ro_c vT_kp_nt_n v1_nt_n f1_nt_c fT_kp_nt_c vT_kp_mk_n v1_mk_n f1_mk_c fT_kp_mk_c vT_kp_mo_n v1_mo_n f1_mo_c fT_kp_mo_c) sz)) 0 0 (va_A (wd_X2_keep cI cZ AT A1 AT_kp AT_kp_sl AT_kp_fl AT_kp_ro AT_kp_nt AT_kp_mk AT_kp_mo A1_sl A1_fl A1_ro A1_nt A1_mk A1_mo AT_kp_sl_c A1_sl_c AT_kp_fl_c A1_fl_c AT_kp_ro_c A1_ro_c AT_kp_nt_c A1_nt_c AT_kp_mk_c A1_mk_c AT_kp_mo_c A1_mo_c vT_wk vT_kp_ng v1_ng vT_kp_sl_n v1_sl_n f1_sl_c fT_kp_sl_c vT_kp_fl_n v1_fl_n f1_fl_c fT_kp_fl_c vT_kp_ro_n v1_ro_n f1_ro_c fT_kp_ro_c vT_kp_nt_n v1_nt_n f1_nt_c fT_kp_nt_c vT_kp_mk_n v1_mk_n f1_mk_c fT_kp_mk_c vT_kp_mo_n v1_mo_n f1_mo_c fT_kp_mo_c) sz) := by
  refine q_met (fun A => q_Qv D (wd_X2_keep cI cZ AT A1 AT_kp AT_kp_sl AT_kp_fl AT_kp_ro AT_kp_nt AT_kp_mk AT_kp_mo A1_sl A1_fl A1_ro A1_nt A1_mk A1_mo AT_kp_sl_c A1_sl_c AT_kp_fl_c A1_fl_c AT_kp_ro_c A1_ro_c AT_kp_nt_c A1_nt_c AT_kp_mk_c A1_mk_c AT_kp_mo_c A1_mo_c out.1 out.2.1 v1_ng out.2.2.1 v1_sl_n f1_sl_c out.2.2.2.1 out.2.2.2.2.1 v1_fl_n f1_fl_c out.2.2.2.2.2.1 out.2.2.2.2.2.2.1 v1_ro_n f1_ro_c out.2.2.2.2.2.2.2.1 out.2.2.2.2.2.2.2.2.1 v1_nt_n f1_nt_c out.2.2.2.2.2.2.2.2.2.1 out.2.2.2.2.2.2.2.2.2.2.1 v1_mk_n f1_mk_c out.2.2.2.2.2.2.2.2.2.2.2.1 out.2.2.2.2.2.2.2.2.2.2.2.2.1 v1_mo_n f1_mo_c out.2.2.2.2.2.2.2.2.2.2.2.2.2) A) (by decide) (Nat.le_of_ble_eq_true rfl) ?_
  intro p e s m below meth c ls A hx hb hr hml hown hts hlocks _ hA hS hP hD hK hN hl
  have hown : s.vm.findClass RX2 = some m.cls := hown
  have hl : lv_has ls 2 [(0, .ref AT), (1, .ref A1)] := hl
  unfold fm_X2_keep at hm
  refine q_gen hS hP ?_
  intro H locs hP hS
  refine lv_aload_n hx hb dX2_keep_0 rfl (lv_at hl 0 rfl) ?_
  refine gf_X2_10 (v := .ref AT_kp) hx hb hts hown hK hN hP 0 rfl rfl dX2_keep_1 ?_
  refine lv_aload_n hx hb dX2_keep_4 rfl (lv_at hl 1 rfl) ?_
  obtain ⟨r_5, hc_5, hm⟩ := ob_s hm
  refine q_cv (q_rv (rest := []) ⟨hx, hb, hml, hown, hts⟩ hK hN hP hD (c_X4_takeFrom l D cI cZ H.size AT_kp A1 AT_kp_sl AT_kp_fl AT_kp_ro AT_kp_nt AT_kp_mk AT_kp_mo A1_sl A1_fl A1_ro A1_nt A1_mk A1_mo AT_kp_sl_c A1_sl_c AT_kp_fl_c A1_fl_c AT_kp_ro_c A1_ro_c AT_kp_nt_c A1_nt_c AT_kp_mk_c A1_mk_c AT_kp_mo_c A1_mo_c vT_kp_ng v1_ng vT_kp_sl_n v1_sl_n f1_sl_c fT_kp_sl_c vT_kp_fl_n v1_fl_n f1_fl_c fT_kp_fl_c vT_kp_ro_n v1_ro_n f1_ro_c fT_kp_ro_c vT_kp_nt_n v1_nt_n f1_nt_c fT_kp_nt_c vT_kp_mk_n v1_mk_n f1_mk_c fT_kp_mk_c vT_kp_mo_n v1_mo_n f1_mo_c fT_kp_mo_c r_5 hc_5) mb_X4_takeFrom mv_X4_takeFrom wl_X2_16 [1, 2, 3, 4, 5, 6, 7, 8, 9, 10, 11, 12, 13, 14, 15, 16, 17, 18, 19, 20, 21, 22, 23, 24, 25, 26] rfl rfl rfl (Nat.le_of_ble_eq_true rfl) (Nat.le_of_ble_eq_true rfl) rfl hl.1 rfl (Nat.le_of_ble_eq_true rfl) ⟨Nat.le_refl 0, Nat.le_refl 0⟩ dX2_keep_5) hP hD hS hA [1, 2, 3, 4, 5, 6, 7, 8, 9, 10, 11, 12, 13, 14, 15, 16, 17, 18, 19, 20, 21, 22, 23, 24, 25, 26] rfl rfl (fun H locs hP hD hS => ?_)
  have hP : va_P D vwCl (wd_X2_keep cI cZ AT A1 AT_kp AT_kp_sl AT_kp_fl AT_kp_ro AT_kp_nt AT_kp_mk AT_kp_mo A1_sl A1_fl A1_ro A1_nt A1_mk A1_mo AT_kp_sl_c A1_sl_c AT_kp_fl_c A1_fl_c AT_kp_ro_c A1_ro_c AT_kp_nt_c A1_nt_c AT_kp_mk_c A1_mk_c AT_kp_mo_c A1_mo_c vT_wk r_5.1 v1_ng r_5.2.1 v1_sl_n f1_sl_c r_5.2.2.1 r_5.2.2.2.1 v1_fl_n f1_fl_c r_5.2.2.2.2.1 r_5.2.2.2.2.2.1 v1_ro_n f1_ro_c r_5.2.2.2.2.2.2.1 r_5.2.2.2.2.2.2.2.1 v1_nt_n f1_nt_c r_5.2.2.2.2.2.2.2.2.1 r_5.2.2.2.2.2.2.2.2.2.1 v1_mk_n f1_mk_c r_5.2.2.2.2.2.2.2.2.2.2.1 r_5.2.2.2.2.2.2.2.2.2.2.2.1 v1_mo_n f1_mo_c r_5.2.2.2.2.2.2.2.2.2.2.2.2) H := hP
  have hD : va_D A (wd_X2_keep cI cZ AT A1 AT_kp AT_kp_sl AT_kp_fl AT_kp_ro AT_kp_nt AT_kp_mk AT_kp_mo A1_sl A1_fl A1_ro A1_nt A1_mk A1_mo AT_kp_sl_c A1_sl_c AT_kp_fl_c A1_fl_c AT_kp_ro_c A1_ro_c AT_kp_nt_c A1_nt_c AT_kp_mk_c A1_mk_c AT_kp_mo_c A1_mo_c vT_wk r_5.1 v1_ng r_5.2.1 v1_sl_n f1_sl_c r_5.2.2.1 r_5.2.2.2.1 v1_fl_n f1_fl_c r_5.2.2.2.2.1 r_5.2.2.2.2.2.1 v1_ro_n f1_ro_c r_5.2.2.2.2.2.2.1 r_5.2.2.2.2.2.2.2.1 v1_nt_n f1_nt_c r_5.2.2.2.2.2.2.2.2.1 r_5.2.2.2.2.2.2.2.2.2.1 v1_mk_n f1_mk_c r_5.2.2.2.2.2.2.2.2.2.2.1 r_5.2.2.2.2.2.2.2.2.2.2.2.1 v1_mo_n f1_mo_c r_5.2.2.2.2.2.2.2.2.2.2.2.2) := hD
  refine lv_aload_n hx hb dX2_keep_8 rfl (lv_at hl 0 rfl) ?_
  refine lv_iconst (v := 1) hx hb dX2_keep_9 (by decide) ?_
  refine pf_X2_20 hx hb hts hown hK hN hP hD hS 0 rfl rfl rfl dX2_keep_10 (fun H locs hP hD hS => ?_)
  have hP : va_P D vwCl (wd_X2_keep cI cZ AT A1 AT_kp AT_kp_sl AT_kp_fl AT_kp_ro AT_kp_nt AT_kp_mk AT_kp_mo A1_sl A1_fl A1_ro A1_nt A1_mk A1_mo AT_kp_sl_c A1_sl_c AT_kp_fl_c A1_fl_c AT_kp_ro_c A1_ro_c AT_kp_nt_c A1_nt_c AT_kp_mk_c A1_mk_c AT_kp_mo_c A1_mo_c 1 r_5.1 v1_ng r_5.2.1 v1_sl_n f1_sl_c r_5.2.2.1 r_5.2.2.2.1 v1_fl_n f1_fl_c r_5.2.2.2.2.1 r_5.2.2.2.2.2.1 v1_ro_n f1_ro_c r_5.2.2.2.2.2.2.1 r_5.2.2.2.2.2.2.2.1 v1_nt_n f1_nt_c r_5.2.2.2.2.2.2.2.2.1 r_5.2.2.2.2.2.2.2.2.2.1 v1_mk_n f1_mk_c r_5.2.2.2.2.2.2.2.2.2.2.1 r_5.2.2.2.2.2.2.2.2.2.2.2.1 v1_mo_n f1_mo_c r_5.2.2.2.2.2.2.2.2.2.2.2.2) H := hP
  have hD : va_D A (wd_X2_keep cI cZ AT A1 AT_kp AT_kp_sl AT_kp_fl AT_kp_ro AT_kp_nt AT_kp_mk AT_kp_mo A1_sl A1_fl A1_ro A1_nt A1_mk A1_mo AT_kp_sl_c A1_sl_c AT_kp_fl_c A1_fl_c AT_kp_ro_c A1_ro_c AT_kp_nt_c A1_nt_c AT_kp_mk_c A1_mk_c AT_kp_mo_c A1_mo_c 1 r_5.1 v1_ng r_5.2.1 v1_sl_n f1_sl_c r_5.2.2.1 r_5.2.2.2.1 v1_fl_n f1_fl_c r_5.2.2.2.2.1 r_5.2.2.2.2.2.1 v1_ro_n f1_ro_c r_5.2.2.2.2.2.2.1 r_5.2.2.2.2.2.2.2.1 v1_nt_n f1_nt_c r_5.2.2.2.2.2.2.2.2.1 r_5.2.2.2.2.2.2.2.2.2.1 v1_mk_n f1_mk_c r_5.2.2.2.2.2.2.2.2.2.2.1 r_5.2.2.2.2.2.2.2.2.2.2.2.1 v1_mo_n f1_mo_c r_5.2.2.2.2.2.2.2.2.2.2.2.2) := hD
  have hm := Option.some.inj hm
  subst hm
  exact q_vret hx hb hr hlocks hP hS dX2_keep_13
theorem gf_X7_17 {p : Program} {l : Launch} {e : Env} {R : Room} {s : State} {m : MethodId} {args : Array Value} {below : List Frame} {meth : Method} {c : Code} {H : Heap} {locs : List Loc} {cells slots : Nat} {Q : State → Prop} {pc : Nat} {ls : Array Slot} {cc : ByteArray} {D : va_G} {cI cZ : ClassId} {ws : va_W} {a : Nat} {rest fs : List Value} (hx : p.tables.exec = Jvm.exec) (hb : c.code = cc) (hts : ∀ w ∈ bg, w.before args s = true) (hown : s.vm.findClass RX7 = some m.cls) (hK : va_K D vwCl (q_tys cI cZ) s) (hN : q_N s) (hP : va_P D vwCl ws H) (q0 : Nat) (he : ws[q0]? = some (a, .inr (7, fs))) {v : Value} (hv : fs[0]? = some v) (hdg : decode cc pc = .ok (.getfield 17, 3)) (kk : W p l e R s m args below meth c H locs cells slots Q (F0 m (pc + 3) ls (v :: rest))) : W p l e R s m args below meth c H locs cells slots Q (F0 m pc ls (.ref a :: rest)) :=
  va_get (C := RX7) (T := TX7) (N := 12) hx hb hts wu_X7 hown hK hP q0 he rfl 0 (by decide) (hts _ wf_X7_17) (fun _ h9 => h9) hv hdg kk
theorem gf_X7_67 {p : Program} {l : Launch} {e : Env} {R : Room} {s : State} {m : MethodId} {args : Array Value} {below : List Frame} {meth : Method} {c : Code} {H : Heap} {locs : List Loc} {cells slots : Nat} {Q : State → Prop} {pc : Nat} {ls : Array Slot} {cc : ByteArray} {D : va_G} {cI cZ : ClassId} {ws : va_W} {a : Nat} {rest fs : List Value} (hx : p.tables.exec = Jvm.exec) (hb : c.code = cc) (hts : ∀ w ∈ bg, w.before args s = true) (hown : s.vm.findClass RX7 = some m.cls) (hK : va_K D vwCl (q_tys cI cZ) s) (hN : q_N s) (hP : va_P D vwCl ws H) (q0 : Nat) (he : ws[q0]? = some (a, .inr (4, fs))) {v : Value} (hv : fs[0]? = some v) (hdg : decode cc pc = .ok (.getfield 67, 3)) (kk : W p l e R s m args below meth c H locs cells slots Q (F0 m (pc + 3) ls (v :: rest))) : W p l e R s m args below meth c H locs cells slots Q (F0 m pc ls (.ref a :: rest)) :=
  va_getN (C := RX4) (T := TX4) (N := 7) hx hb hts wu_X4 hown hK hP q0 he rfl 0 (by decide) ((ng_X7_67 hN).use rfl) (fun _ h9 => h9) hv hdg kk
theorem mb_X7_office : q_mb yX7_office cX7_office 2 (some .int) 0 := ⟨wc_X7_office, wn_X7, by decide, by decide, by decide +kernel⟩
theorem mv_X7_office : q_mv yX7_office 7 := ⟨wi_X7_office, ws_X7_office, _, rfl, rfl⟩
def wd_X7_office (cI cZ : ClassId) (AT AT_he AT_iz AT_io AT_tx AT_rd AT_fo AT_fi AT_he_sl AT_he_fl AT_he_ro AT_he_nt AT_he_mk AT_he_mo AT_he_sl_c AT_he_fl_c AT_he_ro_c AT_he_nt_c AT_he_mk_c AT_he_mo_c : Nat) (vT_ab : Int32) (vT_be : Int32) (vT_bo : Int32) (vT_no : Int32) (vT_fu : Int32) (vT_he_ng : Int32) (vT_he_sl_n : Int32) (vT_he_fl_n : Int32) (vT_he_ro_n : Int32) (vT_he_nt_n : Int32) (vT_he_mk_n : Int32) (vT_he_mo_n : Int32) : va_W := [(AT, .inr (7, [.ref AT_he, .ref AT_iz, .ref AT_io, .ref AT_tx, .ref AT_rd, .ref AT_fo, .ref AT_fi, .int vT_ab, .int vT_be, .int vT_bo, .int vT_no, .int vT_fu])), (AT_he, .inr (4, [.ref AT_he_sl, .ref AT_he_fl, .ref AT_he_ro, .ref AT_he_nt, .ref AT_he_mk, .ref AT_he_mo, .int vT_he_ng])), (AT_he_sl, .inr (3, [.int 4, .ref AT_he_sl_c, .int vT_he_sl_n])), (AT_he_fl, .inr (3, [.int 3, .ref AT_he_fl_c, .int vT_he_fl_n])), (AT_he_ro, .inr (3, [.int 3, .ref AT_he_ro_c, .int vT_he_ro_n])), (AT_he_nt, .inr (3, [.int 4, .ref AT_he_nt_c, .int vT_he_nt_n])), (AT_he_mk, .inr (3, [.int 4, .ref AT_he_mk_c, .int vT_he_mk_n])), (AT_he_mo, .inr (3, [.int 25, .ref AT_he_mo_c, .int vT_he_mo_n]))]
def fm_X7_office (vT_he_ng : Int32) (vT_he_sl_n : Int32) (vT_he_fl_n : Int32) (vT_he_ro_n : Int32) (vT_he_nt_n : Int32) (vT_he_mk_n : Int32) (vT_he_mo_n : Int32) : Option (Int32 × Int32 × Int32 × Int32 × Int32 × Int32 × Int32 × Int32) := Option.bind (fm_X3_size vT_he_sl_n) (fun r_7 => Option.bind (fm_X4_startAnew vT_he_ng vT_he_sl_n vT_he_fl_n vT_he_ro_n vT_he_nt_n vT_he_mk_n vT_he_mo_n) (fun r_15 => some (r_7, r_15.1, r_15.2.1, r_15.2.2.1, r_15.2.2.2.1, r_15.2.2.2.2.1, r_15.2.2.2.2.2.1, r_15.2.2.2.2.2.2)))
set_option maxHeartbeats 4000000 in
set_option maxRecDepth 100000 in
theorem c_X7_office (l : Launch) (D : va_G) (cI cZ : ClassId) (sz : Nat) (AT AT_he AT_iz AT_io AT_tx AT_rd AT_fo AT_fi AT_he_sl AT_he_fl AT_he_ro AT_he_nt AT_he_mk AT_he_mo AT_he_sl_c AT_he_fl_c AT_he_ro_c AT_he_nt_c AT_he_mk_c AT_he_mo_c : Nat) (vT_ab : Int32) (vT_be : Int32) (vT_bo : Int32) (vT_no : Int32) (vT_fu : Int32) (vT_he_ng : Int32) (vT_he_sl_n : Int32) (vT_he_fl_n : Int32) (vT_he_ro_n : Int32) (vT_he_nt_n : Int32) (vT_he_mk_n : Int32) (vT_he_mo_n : Int32) (out : (Int32 × Int32 × Int32 × Int32 × Int32 × Int32 × Int32 × Int32)) (hm : fm_X7_office vT_he_ng vT_he_sl_n vT_he_fl_n vT_he_ro_n vT_he_nt_n vT_he_mk_n vT_he_mo_n = some out) : Met l yX7_office (Cond.code yX7_office cX7_office 2 (some .int) :: bg) { frames := 2, cells := 0, slots := 0, locals := 40 } (va_Pc [.ref AT] (q_pre D cI cZ sz (wd_X7_office cI cZ AT AT_he AT_iz AT_io AT_tx AT_rd AT_fo AT_fi AT_he_sl AT_he_fl AT_he_ro AT_he_nt AT_he_mk AT_he_mo AT_he_sl_c AT_he_fl_c AT_he_ro_c AT_he_nt_c AT_he_mk_c AT_he_mo_c vT_ab vT_be vT_bo vT_no vT_fu vT_he_ng vT_he_sl_n vT_he_fl_n vT_he_ro_n vT_he_nt_n vT_he_mk_n vT_he_mo_n))) (q_Qi D (wd_X7_office cI cZ AT AT_he AT_iz AT_io AT_tx AT_rd AT_fo AT_fi AT_he_sl AT_he_fl AT_he_ro AT_he_nt AT_he_mk AT_he_mo AT_he_sl_c AT_he_fl_c AT_he_ro_c AT_he_nt_c AT_he_mk_c AT_he_mo_c vT_ab vT_be vT_bo vT_no vT_fu out.2.1 out.2.2.1 out.2.2.2.1 out.2.2.2.2.1 out.2.2.2.2.2.1 out.2.2.2.2.2.2.1 out.2.2.2.2.2.2.2) out.1 (va_A (wd_X7_office cI cZ AT AT_he AT_iz AT_io AT_tx AT_rd AT_fo AT_fi AT_he_sl AT_he_fl AT_he_ro AT_he_nt AT_he_mk AT_he_mo AT_he_sl_c AT_he_fl_c AT_he_ro_c AT_he_nt_c AT_he_mk_c AT_he_mo_c vT_ab vT_be vT_bo vT_no vT_fu vT_he_ng vT_he_sl_n vT_he_fl_n vT_he_ro_n vT_he_nt_n vT_he_mk_n vT_he_mo_n) sz)) 0 0 (va_A (wd_X7_office cI cZ AT AT_he AT_iz AT_io AT_tx AT_rd AT_fo AT_fi AT_he_sl AT_he_fl AT_he_ro AT_he_nt AT_he_mk AT_he_mo AT_he_sl_c AT_he_fl_c AT_he_ro_c AT_he_nt_c AT_he_mk_c AT_he_mo_c vT_ab vT_be vT_bo vT_no vT_fu vT_he_ng vT_he_sl_n vT_he_fl_n vT_he_ro_n vT_he_nt_n vT_he_mk_n vT_he_mo_n) sz) := by
  refine q_met (fun A => q_Qi D (wd_X7_office cI cZ AT AT_he AT_iz AT_io AT_tx AT_rd AT_fo AT_fi AT_he_sl AT_he_fl AT_he_ro AT_he_nt AT_he_mk AT_he_mo AT_he_sl_c AT_he_fl_c AT_he_ro_c AT_he_nt_c AT_he_mk_c AT_he_mo_c vT_ab vT_be vT_bo vT_no vT_fu out.2.1 out.2.2.1 out.2.2.2.1 out.2.2.2.2.1 out.2.2.2.2.2.1 out.2.2.2.2.2.2.1 out.2.2.2.2.2.2.2) out.1 A) (by decide) (Nat.le_of_ble_eq_true rfl) ?_
  intro p e s m below meth c ls A hx hb hr hml hown hts hlocks _ hA hS hP hD hK hN hl
  have hown : s.vm.findClass RX7 = some m.cls := hown
  have hl : lv_has ls 2 [(0, .ref AT)] := hl
  unfold fm_X7_office at hm
  refine q_gen hS hP ?_
  intro H locs hP hS
  refine lv_aload_n hx hb dX7_office_0 rfl (lv_at hl 0 rfl) ?_
  refine gf_X7_17 (v := .ref AT_he) hx hb hts hown hK hN hP 0 rfl rfl dX7_office_1 ?_
  refine gf_X7_67 (v := .ref AT_he_sl) hx hb hts hown hK hN hP 1 rfl rfl dX7_office_4 ?_
  obtain ⟨r_7, hc_7, hm⟩ := ob_s hm
  refine q_ci (q_rv (rest := []) ⟨hx, hb, hml, hown, hts⟩ hK hN hP hD (c_X3_size l D cI cZ H.size AT_he_sl AT_he_sl_c 4 vT_he_sl_n r_7 hc_7) mb_X3_size mv_X3_size wl_X7_70 [2] rfl rfl rfl (Nat.le_of_ble_eq_true rfl) (Nat.le_of_ble_eq_true rfl) rfl hl.1 rfl (Nat.le_of_ble_eq_true rfl) ⟨Nat.le_refl 0, Nat.le_refl 0⟩ dX7_office_7) hP hD hS hA [2] rfl rfl (fun H locs hP hD hS => ?_)
  have hP : va_P D vwCl (wd_X7_office cI cZ AT AT_he AT_iz AT_io AT_tx AT_rd AT_fo AT_fi AT_he_sl AT_he_fl AT_he_ro AT_he_nt AT_he_mk AT_he_mo AT_he_sl_c AT_he_fl_c AT_he_ro_c AT_he_nt_c AT_he_mk_c AT_he_mo_c vT_ab vT_be vT_bo vT_no vT_fu vT_he_ng vT_he_sl_n vT_he_fl_n vT_he_ro_n vT_he_nt_n vT_he_mk_n vT_he_mo_n) H := hP
  have hD : va_D A (wd_X7_office cI cZ AT AT_he AT_iz AT_io AT_tx AT_rd AT_fo AT_fi AT_he_sl AT_he_fl AT_he_ro AT_he_nt AT_he_mk AT_he_mo AT_he_sl_c AT_he_fl_c AT_he_ro_c AT_he_nt_c AT_he_mk_c AT_he_mo_c vT_ab vT_be vT_bo vT_no vT_fu vT_he_ng vT_he_sl_n vT_he_fl_n vT_he_ro_n vT_he_nt_n vT_he_mk_n vT_he_mo_n) := hD
  refine lv_istore_n (lv' := [(1, .int r_7), (0, .ref AT)]) hx hb dX7_office_10 rfl hl (by decide) rfl (fun ls hl => ?_)
  refine lv_aload_n hx hb dX7_office_11 rfl (lv_at hl 1 rfl) ?_
  refine gf_X7_17 (v := .ref AT_he) hx hb hts hown hK hN hP 0 rfl rfl dX7_office_12 ?_
  obtain ⟨r_15, hc_15, hm⟩ := ob_s hm
  refine q_cv (q_rv (rest := []) ⟨hx, hb, hml, hown, hts⟩ hK hN hP hD (c_X4_startAnew l D cI cZ H.size AT_he AT_he_sl AT_he_fl AT_he_ro AT_he_nt AT_he_mk AT_he_mo AT_he_sl_c AT_he_fl_c AT_he_ro_c AT_he_nt_c AT_he_mk_c AT_he_mo_c vT_he_ng vT_he_sl_n vT_he_fl_n vT_he_ro_n vT_he_nt_n vT_he_mk_n vT_he_mo_n r_15 hc_15) mb_X4_startAnew mv_X4_startAnew wl_X7_74 [1, 2, 3, 4, 5, 6, 7] rfl rfl rfl (Nat.le_of_ble_eq_true rfl) (Nat.le_of_ble_eq_true rfl) rfl hl.1 rfl (Nat.le_of_ble_eq_true rfl) ⟨Nat.le_refl 0, Nat.le_refl 0⟩ dX7_office_15) hP hD hS hA [1, 2, 3, 4, 5, 6, 7] rfl rfl (fun H locs hP hD hS => ?_)
  have hP : va_P D vwCl (wd_X7_office cI cZ AT AT_he AT_iz AT_io AT_tx AT_rd AT_fo AT_fi AT_he_sl AT_he_fl AT_he_ro AT_he_nt AT_he_mk AT_he_mo AT_he_sl_c AT_he_fl_c AT_he_ro_c AT_he_nt_c AT_he_mk_c AT_he_mo_c vT_ab vT_be vT_bo vT_no vT_fu r_15.1 r_15.2.1 r_15.2.2.1 r_15.2.2.2.1 r_15.2.2.2.2.1 r_15.2.2.2.2.2.1 r_15.2.2.2.2.2.2) H := hP
  have hD : va_D A (wd_X7_office cI cZ AT AT_he AT_iz AT_io AT_tx AT_rd AT_fo AT_fi AT_he_sl AT_he_fl AT_he_ro AT_he_nt AT_he_mk AT_he_mo AT_he_sl_c AT_he_fl_c AT_he_ro_c AT_he_nt_c AT_he_mk_c AT_he_mo_c vT_ab vT_be vT_bo vT_no vT_fu r_15.1 r_15.2.1 r_15.2.2.1 r_15.2.2.2.1 r_15.2.2.2.2.1 r_15.2.2.2.2.2.1 r_15.2.2.2.2.2.2) := hD
  refine lv_iload_n hx hb dX7_office_18 rfl (lv_at hl 0 rfl) ?_
  have hm := Option.some.inj hm
  subst hm
  exact q_iret (v := r_7) hx hb hr hlocks hP hS dX7_office_19
theorem gf_X7_255 {p : Program} {l : Launch} {e : Env} {R : Room} {s : State} {m : MethodId} {args : Array Value} {below : List Frame} {meth : Method} {c : Code} {H : Heap} {locs : List Loc} {cells slots : Nat} {Q : State → Prop} {pc : Nat} {ls : Array Slot} {cc : ByteArray} {D : va_G} {cI cZ : ClassId} {ws : va_W} {a : Nat} {rest fs : List Value} (hx : p.tables.exec = Jvm.exec) (hb : c.code = cc) (hts : ∀ w ∈ bg, w.before args s = true) (hown : s.vm.findClass RX7 = some m.cls) (hK : va_K D vwCl (q_tys cI cZ) s) (hN : q_N s) (hP : va_P D vwCl ws H) (q0 : Nat) (he : ws[q0]? = some (a, .inr (7, fs))) {v : Value} (hv : fs[11]? = some v) (hdg : decode cc pc = .ok (.getfield 255, 3)) (kk : W p l e R s m args below meth c H locs cells slots Q (F0 m (pc + 3) ls (v :: rest))) : W p l e R s m args below meth c H locs cells slots Q (F0 m pc ls (.ref a :: rest)) :=
  va_get (C := RX7) (T := TX7) (N := 12) hx hb hts wu_X7 hown hK hP q0 he rfl 11 (by decide) (hts _ wf_X7_255) (fun _ h9 => h9) hv hdg kk
theorem gf_X7_252 {p : Program} {l : Launch} {e : Env} {R : Room} {s : State} {m : MethodId} {args : Array Value} {below : List Frame} {meth : Method} {c : Code} {H : Heap} {locs : List Loc} {cells slots : Nat} {Q : State → Prop} {pc : Nat} {ls : Array Slot} {cc : ByteArray} {D : va_G} {cI cZ : ClassId} {ws : va_W} {a : Nat} {rest fs : List Value} (hx : p.tables.exec = Jvm.exec) (hb : c.code = cc) (hts : ∀ w ∈ bg, w.before args s = true) (hown : s.vm.findClass RX7 = some m.cls) (hK : va_K D vwCl (q_tys cI cZ) s) (hN : q_N s) (hP : va_P D vwCl ws H) (q0 : Nat) (he : ws[q0]? = some (a, .inr (7, fs))) {v : Value} (hv : fs[10]? = some v) (hdg : decode cc pc = .ok (.getfield 252, 3)) (kk : W p l e R s m args below meth c H locs cells slots Q (F0 m (pc + 3) ls (v :: rest))) : W p l e R s m args below meth c H locs cells slots Q (F0 m pc ls (.ref a :: rest)) :=
  va_get (C := RX7) (T := TX7) (N := 12) hx hb hts wu_X7 hown hK hP q0 he rfl 10 (by decide) (hts _ wf_X7_252) (fun _ h9 => h9) hv hdg kk
theorem gf_X7_249 {p : Program} {l : Launch} {e : Env} {R : Room} {s : State} {m : MethodId} {args : Array Value} {below : List Frame} {meth : Method} {c : Code} {H : Heap} {locs : List Loc} {cells slots : Nat} {Q : State → Prop} {pc : Nat} {ls : Array Slot} {cc : ByteArray} {D : va_G} {cI cZ : ClassId} {ws : va_W} {a : Nat} {rest fs : List Value} (hx : p.tables.exec = Jvm.exec) (hb : c.code = cc) (hts : ∀ w ∈ bg, w.before args s = true) (hown : s.vm.findClass RX7 = some m.cls) (hK : va_K D vwCl (q_tys cI cZ) s) (hN : q_N s) (hP : va_P D vwCl ws H) (q0 : Nat) (he : ws[q0]? = some (a, .inr (7, fs))) {v : Value} (hv : fs[9]? = some v) (hdg : decode cc pc = .ok (.getfield 249, 3)) (kk : W p l e R s m args below meth c H locs cells slots Q (F0 m (pc + 3) ls (v :: rest))) : W p l e R s m args below meth c H locs cells slots Q (F0 m pc ls (.ref a :: rest)) :=
  va_get (C := RX7) (T := TX7) (N := 12) hx hb hts wu_X7 hown hK hP q0 he rfl 9 (by decide) (hts _ wf_X7_249) (fun _ h9 => h9) hv hdg kk
theorem pf_X7_255 {p : Program} {l : Launch} {e : Env} {R : Room} {s : State} {m : MethodId} {args : Array Value} {below : List Frame} {meth : Method} {c : Code} {H : Heap} {locs : List Loc} {cells slots : Nat} {Q : State → Prop} {pc : Nat} {ls : Array Slot} {cc : ByteArray} {D : va_G} {cI cZ : ClassId} {ws : va_W} {A : Nat → Prop} {a : Nat} {rest fs : List Value} {x : Int32} (hx : p.tables.exec = Jvm.exec) (hb : c.code = cc) (hts : ∀ w ∈ bg, w.before args s = true) (hown : s.vm.findClass RX7 = some m.cls) (hK : va_K D vwCl (q_tys cI cZ) s) (hN : q_N s) (hP : va_P D vwCl ws H) (hD : va_D A ws) (hS : va_S A s.heap H locs) (q0 : Nat) (he : ws[q0]? = some (a, .inr (7, fs))) (hdg : decode cc pc = .ok (.putfield 255, 3)) (kk : ∀ (H1 : Heap) (locs1 : List Loc), va_P D vwCl (ws.set q0 (a, .inr (7, fs.set 11 (.int x)))) H1 → va_D A (ws.set q0 (a, .inr (7, fs.set 11 (.int x)))) → va_S A s.heap H1 locs1 → W p l e R s m args below meth c H1 locs1 cells slots Q (F0 m (pc + 3) ls rest)) (hl : 11 < fs.length := by exact Nat.le_of_ble_eq_true rfl) : W p l e R s m args below meth c H locs cells slots Q (F0 m pc ls (.int x :: .ref a :: rest)) :=
  va_put (C := RX7) (T := TX7) (N := 12) (ty := .int) hx hb hts wu_X7 tyX7 tyX7_ok nmX7 hown hK hP hD hS q0 he rfl 11 (by decide) (hts _ wf_X7_255) (fun _ h9 => h9) rfl (by decide +kernel) rfl rfl hl hdg kk
theorem pf_X7_252 {p : Program} {l : Launch} {e : Env} {R : Room} {s : State} {m : MethodId} {args : Array Value} {below : List Frame} {meth : Method} {c : Code} {H : Heap} {locs : List Loc} {cells slots : Nat} {Q : State → Prop} {pc : Nat} {ls : Array Slot} {cc : ByteArray} {D : va_G} {cI cZ : ClassId} {ws : va_W} {A : Nat → Prop} {a : Nat} {rest fs : List Value} {x : Int32} (hx : p.tables.exec = Jvm.exec) (hb : c.code = cc) (hts : ∀ w ∈ bg, w.before args s = true) (hown : s.vm.findClass RX7 = some m.cls) (hK : va_K D vwCl (q_tys cI cZ) s) (hN : q_N s) (hP : va_P D vwCl ws H) (hD : va_D A ws) (hS : va_S A s.heap H locs) (q0 : Nat) (he : ws[q0]? = some (a, .inr (7, fs))) (hdg : decode cc pc = .ok (.putfield 252, 3)) (kk : ∀ (H1 : Heap) (locs1 : List Loc), va_P D vwCl (ws.set q0 (a, .inr (7, fs.set 10 (.int x)))) H1 → va_D A (ws.set q0 (a, .inr (7, fs.set 10 (.int x)))) → va_S A s.heap H1 locs1 → W p l e R s m args below meth c H1 locs1 cells slots Q (F0 m (pc + 3) ls rest)) (hl : 10 < fs.length := by exact Nat.le_of_ble_eq_true rfl) : W p l e R s m args below meth c H locs cells slots Q (F0 m pc ls (.int x :: .ref a :: rest)) :=
  va_put (C := RX7) (T := TX7) (N := 12) (ty := .int) hx hb hts wu_X7 tyX7 tyX7_ok nmX7 hown hK hP hD hS q0 he rfl 10 (by decide) (hts _ wf_X7_252) (fun _ h9 => h9) rfl (by decide +kernel) rfl rfl hl hdg kk
theorem pf_X7_249 {p : Program} {l : Launch} {e : Env} {R : Room} {s : State} {m : MethodId} {args : Array Value} {below : List Frame} {meth : Method} {c : Code} {H : Heap} {locs : List Loc} {cells slots : Nat} {Q : State → Prop} {pc : Nat} {ls : Array Slot} {cc : ByteArray} {D : va_G} {cI cZ : ClassId} {ws : va_W} {A : Nat → Prop} {a : Nat} {rest fs : List Value} {x : Int32} (hx : p.tables.exec = Jvm.exec) (hb : c.code = cc) (hts : ∀ w ∈ bg, w.before args s = true) (hown : s.vm.findClass RX7 = some m.cls) (hK : va_K D vwCl (q_tys cI cZ) s) (hN : q_N s) (hP : va_P D vwCl ws H) (hD : va_D A ws) (hS : va_S A s.heap H locs) (q0 : Nat) (he : ws[q0]? = some (a, .inr (7, fs))) (hdg : decode cc pc = .ok (.putfield 249, 3)) (kk : ∀ (H1 : Heap) (locs1 : List Loc), va_P D vwCl (ws.set q0 (a, .inr (7, fs.set 9 (.int x)))) H1 → va_D A (ws.set q0 (a, .inr (7, fs.set 9 (.int x)))) → va_S A s.heap H1 locs1 → W p l e R s m args below meth c H1 locs1 cells slots Q (F0 m (pc + 3) ls rest)) (hl : 9 < fs.length := by exact Nat.le_of_ble_eq_true rfl) : W p l e R s m args below meth c H locs cells slots Q (F0 m pc ls (.int x :: .ref a :: rest)) :=
  va_put (C := RX7) (T := TX7) (N := 12) (ty := .int) hx hb hts wu_X7 tyX7 tyX7_ok nmX7 hown hK hP hD hS q0 he rfl 9 (by decide) (hts _ wf_X7_249) (fun _ h9 => h9) rfl (by decide +kernel) rfl rfl hl hdg kk
theorem mb_X7_refused : q_mb yX7_refused cX7_refused 2 (some .int) 1 := ⟨wc_X7_refused, wn_X7, by decide, by decide, by decide +kernel⟩
theorem mv_X7_refused : q_mv yX7_refused 7 := ⟨wi_X7_refused, ws_X7_refused, _, rfl, rfl⟩
def wd_X7_refused (cI cZ : ClassId) (AT AT_he AT_iz AT_io AT_tx AT_rd AT_fo AT_fi : Nat) (vT_ab : Int32) (vT_be : Int32) (vT_bo : Int32) (vT_no : Int32) (vT_fu : Int32) : va_W := [(AT, .inr (7, [.ref AT_he, .ref AT_iz, .ref AT_io, .ref AT_tx, .ref AT_rd, .ref AT_fo, .ref AT_fi, .int vT_ab, .int vT_be, .int vT_bo, .int vT_no, .int vT_fu]))]
def fm_X7_refused (p1 : Int32) (vT_bo : Int32) (vT_no : Int32) (vT_fu : Int32) : Option (Int32 × Int32 × Int32 × Int32) := if p1 = (-2) then (some (p1, (vT_bo + 1), vT_no, vT_fu)) else (if p1 = (-3) then (some (p1, vT_bo, (vT_no + 1), vT_fu)) else (some (p1, vT_bo, vT_no, (vT_fu + 1))))
set_option maxHeartbeats 4000000 in
set_option maxRecDepth 100000 in
theorem c_X7_refused (l : Launch) (D : va_G) (cI cZ : ClassId) (sz : Nat) (AT AT_he AT_iz AT_io AT_tx AT_rd AT_fo AT_fi : Nat) (vT_ab : Int32) (vT_be : Int32) (vT_bo : Int32) (vT_no : Int32) (vT_fu : Int32) (p1 : Int32) (out : (Int32 × Int32 × Int32 × Int32)) (hm : fm_X7_refused p1 vT_bo vT_no vT_fu = some out) : Met l yX7_refused (Cond.code yX7_refused cX7_refused 2 (some .int) :: bg) { frames := 0, cells := 0, slots := 0, locals := 0 } (va_Pc [.ref AT, .int p1] (q_pre D cI cZ sz (wd_X7_refused cI cZ AT AT_he AT_iz AT_io AT_tx AT_rd AT_fo AT_fi vT_ab vT_be vT_bo vT_no vT_fu))) (q_Qi D (wd_X7_refused cI cZ AT AT_he AT_iz AT_io AT_tx AT_rd AT_fo AT_fi vT_ab vT_be out.2.1 out.2.2.1 out.2.2.2) out.1 (va_A (wd_X7_refused cI cZ AT AT_he AT_iz AT_io AT_tx AT_rd AT_fo AT_fi vT_ab vT_be vT_bo vT_no vT_fu) sz)) 0 0 (va_A (wd_X7_refused cI cZ AT AT_he AT_iz AT_io AT_tx AT_rd AT_fo AT_fi vT_ab vT_be vT_bo vT_no vT_fu) sz) := by
  refine q_met (fun A => q_Qi D (wd_X7_refused cI cZ AT AT_he AT_iz AT_io AT_tx AT_rd AT_fo AT_fi vT_ab vT_be out.2.1 out.2.2.1 out.2.2.2) out.1 A) (by decide) (Nat.le_of_ble_eq_true rfl) ?_
  intro p e s m below meth c ls A hx hb hr hml hown hts hlocks _ hA hS hP hD hK hN hl
  have hown : s.vm.findClass RX7 = some m.cls := hown
  have hl : lv_has ls 2 [(0, .ref AT), (1, .int p1)] := hl
  unfold fm_X7_refused at hm
  refine q_gen hS hP ?_
  intro H locs hP hS
  refine lv_iload_n hx hb dX7_refused_0 rfl (lv_at hl 1 rfl) ?_
  refine lv_bipush (v := (-2)) hx hb dX7_refused_1 (by decide) ?_
  refine lv_icmp_ne (tgt := 19) hx hb dX7_refused_3 (by decide) (fun c_3 => ?_) (fun c_3 => ?_)
  · have hm := it_n c_3 hm
    refine lv_iload_n hx hb dX7_refused_19 rfl (lv_at hl 1 rfl) ?_
    refine lv_bipush (v := (-3)) hx hb dX7_refused_20 (by decide) ?_
    refine lv_icmp_ne (tgt := 38) hx hb dX7_refused_22 (by decide) (fun c_22 => ?_) (fun c_22 => ?_)
    · have hm := it_n c_22 hm
      refine lv_aload_n hx hb dX7_refused_38 rfl (lv_at hl 0 rfl) ?_
      refine lv_dup hx hb dX7_refused_39 rfl ?_
      refine gf_X7_255 (v := .int vT_fu) hx hb hts hown hK hN hP 0 rfl rfl dX7_refused_40 ?_
      refine lv_iconst (v := 1) hx hb dX7_refused_43 (by decide) ?_
      refine lv_iadd hx hb dX7_refused_44 ?_
      refine pf_X7_255 hx hb hts hown hK hN hP hD hS 0 rfl dX7_refused_45 (fun H locs hP hD hS => ?_)
      have hP : va_P D vwCl (wd_X7_refused cI cZ AT AT_he AT_iz AT_io AT_tx AT_rd AT_fo AT_fi vT_ab vT_be vT_bo vT_no (vT_fu + 1)) H := hP
      have hD : va_D A (wd_X7_refused cI cZ AT AT_he AT_iz AT_io AT_tx AT_rd AT_fo AT_fi vT_ab vT_be vT_bo vT_no (vT_fu + 1)) := hD
      refine lv_iload_n hx hb dX7_refused_48 rfl (lv_at hl 1 rfl) ?_
      have hm := Option.some.inj hm
      subst hm
      exact q_iret (v := p1) hx hb hr hlocks hP hS dX7_refused_49
    · have hm := it_s c_22 hm
      refine lv_aload_n hx hb dX7_refused_25 rfl (lv_at hl 0 rfl) ?_
      refine lv_dup hx hb dX7_refused_26 rfl ?_
      refine gf_X7_252 (v := .int vT_no) hx hb hts hown hK hN hP 0 rfl rfl dX7_refused_27 ?_
      refine lv_iconst (v := 1) hx hb dX7_refused_30 (by decide) ?_
      refine lv_iadd hx hb dX7_refused_31 ?_
      refine pf_X7_252 hx hb hts hown hK hN hP hD hS 0 rfl dX7_refused_32 (fun H locs hP hD hS => ?_)
      have hP : va_P D vwCl (wd_X7_refused cI cZ AT AT_he AT_iz AT_io AT_tx AT_rd AT_fo AT_fi vT_ab vT_be vT_bo (vT_no + 1) vT_fu) H := hP
      have hD : va_D A (wd_X7_refused cI cZ AT AT_he AT_iz AT_io AT_tx AT_rd AT_fo AT_fi vT_ab vT_be vT_bo (vT_no + 1) vT_fu) := hD
      refine lv_goto (tgt := 48) hx hb dX7_refused_35 (by decide) ?_
      refine lv_iload_n hx hb dX7_refused_48 rfl (lv_at hl 1 rfl) ?_
      have hm := Option.some.inj hm
      subst hm
      exact q_iret (v := p1) hx hb hr hlocks hP hS dX7_refused_49
  · have hm := it_s c_3 hm
    refine lv_aload_n hx hb dX7_refused_6 rfl (lv_at hl 0 rfl) ?_
    refine lv_dup hx hb dX7_refused_7 rfl ?_
    refine gf_X7_249 (v := .int vT_bo) hx hb hts hown hK hN hP 0 rfl rfl dX7_refused_8 ?_
    refine lv_iconst (v := 1) hx hb dX7_refused_11 (by decide) ?_
    refine lv_iadd hx hb dX7_refused_12 ?_
    refine pf_X7_249 hx hb hts hown hK hN hP hD hS 0 rfl dX7_refused_13 (fun H locs hP hD hS => ?_)
    have hP : va_P D vwCl (wd_X7_refused cI cZ AT AT_he AT_iz AT_io AT_tx AT_rd AT_fo AT_fi vT_ab vT_be (vT_bo + 1) vT_no vT_fu) H := hP
    have hD : va_D A (wd_X7_refused cI cZ AT AT_he AT_iz AT_io AT_tx AT_rd AT_fo AT_fi vT_ab vT_be (vT_bo + 1) vT_no vT_fu) := hD
    refine lv_goto (tgt := 48) hx hb dX7_refused_16 (by decide) ?_
    refine lv_iload_n hx hb dX7_refused_48 rfl (lv_at hl 1 rfl) ?_
    have hm := Option.some.inj hm
    subst hm
    exact q_iret (v := p1) hx hb hr hlocks hP hS dX7_refused_49
theorem mb_X7_sleeper : q_mb yX7_sleeper cX7_sleeper 2 (some .int) 1 := ⟨wc_X7_sleeper, wn_X7, by decide, by decide, by decide +kernel⟩
theorem mv_X7_sleeper : q_mv yX7_sleeper 7 := ⟨wi_X7_sleeper, ws_X7_sleeper, _, rfl, rfl⟩
def wd_X7_sleeper (cI cZ : ClassId) (AT AT_he AT_iz AT_io AT_tx AT_rd AT_fo AT_fi AT_he_sl AT_he_fl AT_he_ro AT_he_nt AT_he_mk AT_he_mo AT_he_sl_c AT_he_mo_c : Nat) (vT_ab : Int32) (vT_be : Int32) (vT_bo : Int32) (vT_no : Int32) (vT_fu : Int32) (vT_he_ng : Int32) (vT_he_sl_n : Int32) (fT_he_sl_c : Nat → Int32) (vT_he_mo_n : Int32) : va_W := [(AT, .inr (7, [.ref AT_he, .ref AT_iz, .ref AT_io, .ref AT_tx, .ref AT_rd, .ref AT_fo, .ref AT_fi, .int vT_ab, .int vT_be, .int vT_bo, .int vT_no, .int vT_fu])), (AT_he, .inr (4, [.ref AT_he_sl, .ref AT_he_fl, .ref AT_he_ro, .ref AT_he_nt, .ref AT_he_mk, .ref AT_he_mo, .int vT_he_ng])), (AT_he_sl, .inr (3, [.int 4, .ref AT_he_sl_c, .int vT_he_sl_n])), (AT_he_sl_c, .inl (cI, 24, .inl fT_he_sl_c)), (AT_he_mo, .inr (3, [.int 25, .ref AT_he_mo_c, .int vT_he_mo_n]))]
def fm_X7_sleeper (p1 : Int32) (vT_bo : Int32) (vT_no : Int32) (vT_fu : Int32) (vT_he_sl_n : Int32) (fT_he_sl_c : Nat → Int32) (vT_he_mo_n : Int32) : Option (Int32 × Int32 × Int32 × Int32 × Int32 × (Nat → Int32) × Int32) := Option.bind (fm_X7_within p1 0 5) (fun r_3 => if r_3 = 0 then (Option.bind (fm_X7_refused (-2) vT_bo vT_no vT_fu) (fun r_12 => some (r_12.1, r_12.2.1, r_12.2.2.1, r_12.2.2.2, vT_he_sl_n, fT_he_sl_c, vT_he_mo_n))) else (Option.bind (fm_X3_isFull 4 24 vT_he_sl_n) (fun r_23 => if r_23 = 0 then (Option.bind (fm_X4_addSleeper p1 0 vT_he_sl_n fT_he_sl_c vT_he_mo_n) (fun r_42 => Option.bind (fm_X3_size r_42.1) (fun r_52 => some ((r_52 - 1), vT_bo, vT_no, vT_fu, r_42.1, r_42.2.1, r_42.2.2)))) else (Option.bind (fm_X7_refused (-4) vT_bo vT_no vT_fu) (fun r_32 => some (r_32.1, r_32.2.1, r_32.2.2.1, r_32.2.2.2, vT_he_sl_n, fT_he_sl_c, vT_he_mo_n))))))
set_option maxHeartbeats 4000000 in
set_option maxRecDepth 100000 in
theorem c_X7_sleeper (l : Launch) (D : va_G) (cI cZ : ClassId) (sz : Nat) (AT AT_he AT_iz AT_io AT_tx AT_rd AT_fo AT_fi AT_he_sl AT_he_fl AT_he_ro AT_he_nt AT_he_mk AT_he_mo AT_he_sl_c AT_he_mo_c : Nat) (vT_ab : Int32) (vT_be : Int32) (vT_bo : Int32) (vT_no : Int32) (vT_fu : Int32) (vT_he_ng : Int32) (vT_he_sl_n : Int32) (fT_he_sl_c : Nat → Int32) (vT_he_mo_n : Int32) (p1 : Int32) (out : (Int32 × Int32 × Int32 × Int32 × Int32 × (Nat → Int32) × Int32)) (hm : fm_X7_sleeper p1 vT_bo vT_no vT_fu vT_he_sl_n fT_he_sl_c vT_he_mo_n = some out) : Met l yX7_sleeper (Cond.code yX7_sleeper cX7_sleeper 2 (some .int) :: bg) { frames := 3, cells := 0, slots := 0, locals := 72 } (va_Pc [.ref AT, .int p1] (q_pre D cI cZ sz (wd_X7_sleeper cI cZ AT AT_he AT_iz AT_io AT_tx AT_rd AT_fo AT_fi AT_he_sl AT_he_fl AT_he_ro AT_he_nt AT_he_mk AT_he_mo AT_he_sl_c AT_he_mo_c vT_ab vT_be vT_bo vT_no vT_fu vT_he_ng vT_he_sl_n fT_he_sl_c vT_he_mo_n))) (q_Qi D (wd_X7_sleeper cI cZ AT AT_he AT_iz AT_io AT_tx AT_rd AT_fo AT_fi AT_he_sl AT_he_fl AT_he_ro AT_he_nt AT_he_mk AT_he_mo AT_he_sl_c AT_he_mo_c vT_ab vT_be out.2.1 out.2.2.1 out.2.2.2.1 vT_he_ng out.2.2.2.2.1 out.2.2.2.2.2.1 out.2.2.2.2.2.2) out.1 (va_A (wd_X7_sleeper cI cZ AT AT_he AT_iz AT_io AT_tx AT_rd AT_fo AT_fi AT_he_sl AT_he_fl AT_he_ro AT_he_nt AT_he_mk AT_he_mo AT_he_sl_c AT_he_mo_c vT_ab vT_be vT_bo vT_no vT_fu vT_he_ng vT_he_sl_n fT_he_sl_c vT_he_mo_n) sz)) 0 0 (va_A (wd_X7_sleeper cI cZ AT AT_he AT_iz AT_io AT_tx AT_rd AT_fo AT_fi AT_he_sl AT_he_fl AT_he_ro AT_he_nt AT_he_mk AT_he_mo AT_he_sl_c AT_he_mo_c vT_ab vT_be vT_bo vT_no vT_fu vT_he_ng vT_he_sl_n fT_he_sl_c vT_he_mo_n) sz) := by
  refine q_met (fun A => q_Qi D (wd_X7_sleeper cI cZ AT AT_he AT_iz AT_io AT_tx AT_rd AT_fo AT_fi AT_he_sl AT_he_fl AT_he_ro AT_he_nt AT_he_mk AT_he_mo AT_he_sl_c AT_he_mo_c vT_ab vT_be out.2.1 out.2.2.1 out.2.2.2.1 vT_he_ng out.2.2.2.2.1 out.2.2.2.2.2.1 out.2.2.2.2.2.2) out.1 A) (by decide) (Nat.le_of_ble_eq_true rfl) ?_
  intro p e s m below meth c ls A hx hb hr hml hown hts hlocks _ hA hS hP hD hK hN hl
  have hown : s.vm.findClass RX7 = some m.cls := hown
  have hl : lv_has ls 2 [(0, .ref AT), (1, .int p1)] := hl
  unfold fm_X7_sleeper at hm
  refine q_gen hS hP ?_
  intro H locs hP hS
  refine lv_iload_n hx hb dX7_sleeper_0 rfl (lv_at hl 1 rfl) ?_
  refine lv_iconst (v := 0) hx hb dX7_sleeper_1 (by decide) ?_
  refine lv_iconst (v := 5) hx hb dX7_sleeper_2 (by decide) ?_
  obtain ⟨r_3, hc_3, hm⟩ := ob_s hm
  refine q_ci (q_rs (rest := []) ⟨hx, hb, hml, hown, hts⟩ hK hN hP hD (c_X7_within l D cI cZ H.size p1 0 5 r_3 hc_3) mb_X7_within wt_X7_within wl_X7_77 [] rfl rfl (Nat.le_of_ble_eq_true rfl) (Nat.le_of_ble_eq_true rfl) rfl hl.1 rfl (Nat.le_of_ble_eq_true rfl) ⟨Nat.le_refl 0, Nat.le_refl 0⟩ dX7_sleeper_3) hP hD hS hA [] rfl rfl (fun H locs hP hD hS => ?_)
  have hP : va_P D vwCl (wd_X7_sleeper cI cZ AT AT_he AT_iz AT_io AT_tx AT_rd AT_fo AT_fi AT_he_sl AT_he_fl AT_he_ro AT_he_nt AT_he_mk AT_he_mo AT_he_sl_c AT_he_mo_c vT_ab vT_be vT_bo vT_no vT_fu vT_he_ng vT_he_sl_n fT_he_sl_c vT_he_mo_n) H := hP
  have hD : va_D A (wd_X7_sleeper cI cZ AT AT_he AT_iz AT_io AT_tx AT_rd AT_fo AT_fi AT_he_sl AT_he_fl AT_he_ro AT_he_nt AT_he_mk AT_he_mo AT_he_sl_c AT_he_mo_c vT_ab vT_be vT_bo vT_no vT_fu vT_he_ng vT_he_sl_n fT_he_sl_c vT_he_mo_n) := hD
  refine lv_if_ne (tgt := 16) hx hb dX7_sleeper_6 (by decide) (fun c_6 => ?_) (fun c_6 => ?_)
  · have hm := it_n c_6 hm
    refine lv_aload_n hx hb dX7_sleeper_16 rfl (lv_at hl 0 rfl) ?_
    refine gf_X7_17 (v := .ref AT_he) hx hb hts hown hK hN hP 0 rfl rfl dX7_sleeper_17 ?_
    refine gf_X7_67 (v := .ref AT_he_sl) hx hb hts hown hK hN hP 1 rfl rfl dX7_sleeper_20 ?_
    obtain ⟨r_23, hc_23, hm⟩ := ob_s hm
    refine q_ci (q_rv (rest := []) ⟨hx, hb, hml, hown, hts⟩ hK hN hP hD (c_X3_isFull l D cI cZ H.size AT_he_sl AT_he_sl_c 4 24 vT_he_sl_n fT_he_sl_c r_23 hc_23) mb_X3_isFull mv_X3_isFull wl_X7_85 [2, 3] rfl rfl rfl (Nat.le_of_ble_eq_true rfl) (Nat.le_of_ble_eq_true rfl) rfl hl.1 rfl (Nat.le_of_ble_eq_true rfl) ⟨Nat.le_refl 0, Nat.le_refl 0⟩ dX7_sleeper_23) hP hD hS hA [2, 3] rfl rfl (fun H locs hP hD hS => ?_)
    have hP : va_P D vwCl (wd_X7_sleeper cI cZ AT AT_he AT_iz AT_io AT_tx AT_rd AT_fo AT_fi AT_he_sl AT_he_fl AT_he_ro AT_he_nt AT_he_mk AT_he_mo AT_he_sl_c AT_he_mo_c vT_ab vT_be vT_bo vT_no vT_fu vT_he_ng vT_he_sl_n fT_he_sl_c vT_he_mo_n) H := hP
    have hD : va_D A (wd_X7_sleeper cI cZ AT AT_he AT_iz AT_io AT_tx AT_rd AT_fo AT_fi AT_he_sl AT_he_fl AT_he_ro AT_he_nt AT_he_mk AT_he_mo AT_he_sl_c AT_he_mo_c vT_ab vT_be vT_bo vT_no vT_fu vT_he_ng vT_he_sl_n fT_he_sl_c vT_he_mo_n) := hD
    refine lv_if_eq (tgt := 36) hx hb dX7_sleeper_26 (by decide) (fun c_26 => ?_) (fun c_26 => ?_)
    · have hm := it_s c_26 hm
      refine lv_aload_n hx hb dX7_sleeper_36 rfl (lv_at hl 0 rfl) ?_
      refine gf_X7_17 (v := .ref AT_he) hx hb hts hown hK hN hP 0 rfl rfl dX7_sleeper_37 ?_
      refine lv_iload_n hx hb dX7_sleeper_40 rfl (lv_at hl 1 rfl) ?_
      refine lv_iconst (v := 0) hx hb dX7_sleeper_41 (by decide) ?_
      obtain ⟨r_42, hc_42, hm⟩ := ob_s hm
      refine q_cv (q_rv (rest := []) ⟨hx, hb, hml, hown, hts⟩ hK hN hP hD (c_X4_addSleeper l D cI cZ H.size AT_he AT_he_sl AT_he_fl AT_he_ro AT_he_nt AT_he_mk AT_he_mo AT_he_sl_c AT_he_mo_c vT_he_ng vT_he_sl_n fT_he_sl_c vT_he_mo_n p1 0 r_42 hc_42) mb_X4_addSleeper mv_X4_addSleeper wl_X7_89 [1, 2, 3, 4] rfl rfl rfl (Nat.le_of_ble_eq_true rfl) (Nat.le_of_ble_eq_true rfl) rfl hl.1 rfl (Nat.le_of_ble_eq_true rfl) ⟨Nat.le_refl 0, Nat.le_refl 0⟩ dX7_sleeper_42) hP hD hS hA [1, 2, 3, 4] rfl rfl (fun H locs hP hD hS => ?_)
      have hP : va_P D vwCl (wd_X7_sleeper cI cZ AT AT_he AT_iz AT_io AT_tx AT_rd AT_fo AT_fi AT_he_sl AT_he_fl AT_he_ro AT_he_nt AT_he_mk AT_he_mo AT_he_sl_c AT_he_mo_c vT_ab vT_be vT_bo vT_no vT_fu vT_he_ng r_42.1 r_42.2.1 r_42.2.2) H := hP
      have hD : va_D A (wd_X7_sleeper cI cZ AT AT_he AT_iz AT_io AT_tx AT_rd AT_fo AT_fi AT_he_sl AT_he_fl AT_he_ro AT_he_nt AT_he_mk AT_he_mo AT_he_sl_c AT_he_mo_c vT_ab vT_be vT_bo vT_no vT_fu vT_he_ng r_42.1 r_42.2.1 r_42.2.2) := hD
      refine lv_aload_n hx hb dX7_sleeper_45 rfl (lv_at hl 0 rfl) ?_
      refine gf_X7_17 (v := .ref AT_he) hx hb hts hown hK hN hP 0 rfl rfl dX7_sleeper_46 ?_
      refine gf_X7_67 (v := .ref AT_he_sl) hx hb hts hown hK hN hP 1 rfl rfl dX7_sleeper_49 ?_
      obtain ⟨r_52, hc_52, hm⟩ := ob_s hm
      refine q_ci (q_rv (rest := []) ⟨hx, hb, hml, hown, hts⟩ hK hN hP hD (c_X3_size l D cI cZ H.size AT_he_sl AT_he_sl_c 4 r_42.1 r_52 hc_52) mb_X3_size mv_X3_size wl_X7_70 [2] rfl rfl rfl (Nat.le_of_ble_eq_true rfl) (Nat.le_of_ble_eq_true rfl) rfl hl.1 rfl (Nat.le_of_ble_eq_true rfl) ⟨Nat.le_refl 0, Nat.le_refl 0⟩ dX7_sleeper_52) hP hD hS hA [2] rfl rfl (fun H locs hP hD hS => ?_)
      have hP : va_P D vwCl (wd_X7_sleeper cI cZ AT AT_he AT_iz AT_io AT_tx AT_rd AT_fo AT_fi AT_he_sl AT_he_fl AT_he_ro AT_he_nt AT_he_mk AT_he_mo AT_he_sl_c AT_he_mo_c vT_ab vT_be vT_bo vT_no vT_fu vT_he_ng r_42.1 r_42.2.1 r_42.2.2) H := hP
      have hD : va_D A (wd_X7_sleeper cI cZ AT AT_he AT_iz AT_io AT_tx AT_rd AT_fo AT_fi AT_he_sl AT_he_fl AT_he_ro AT_he_nt AT_he_mk AT_he_mo AT_he_sl_c AT_he_mo_c vT_ab vT_be vT_bo vT_no vT_fu vT_he_ng r_42.1 r_42.2.1 r_42.2.2) := hD
      refine lv_iconst (v := 1) hx hb dX7_sleeper_55 (by decide) ?_
      refine lv_isub hx hb dX7_sleeper_56 ?_
      have hm := Option.some.inj hm
      subst hm
      exact q_iret (v := (r_52 - 1)) hx hb hr hlocks hP hS dX7_sleeper_57
    · have hm := it_n c_26 hm
      refine lv_aload_n hx hb dX7_sleeper_29 rfl (lv_at hl 0 rfl) ?_
      refine lv_bipush (v := (-4)) hx hb dX7_sleeper_30 (by decide) ?_
      obtain ⟨r_32, hc_32, hm⟩ := ob_s hm
      refine q_ci (q_rv (rest := []) ⟨hx, hb, hml, hown, hts⟩ hK hN hP hD (c_X7_refused l D cI cZ H.size AT AT_he AT_iz AT_io AT_tx AT_rd AT_fo AT_fi vT_ab vT_be vT_bo vT_no vT_fu (-4) r_32 hc_32) mb_X7_refused mv_X7_refused wl_X7_81 [0] rfl rfl rfl (Nat.le_of_ble_eq_true rfl) (Nat.le_of_ble_eq_true rfl) rfl hl.1 rfl (Nat.le_of_ble_eq_true rfl) ⟨Nat.le_refl 0, Nat.le_refl 0⟩ dX7_sleeper_32) hP hD hS hA [0] rfl rfl (fun H locs hP hD hS => ?_)
      have hP : va_P D vwCl (wd_X7_sleeper cI cZ AT AT_he AT_iz AT_io AT_tx AT_rd AT_fo AT_fi AT_he_sl AT_he_fl AT_he_ro AT_he_nt AT_he_mk AT_he_mo AT_he_sl_c AT_he_mo_c vT_ab vT_be r_32.2.1 r_32.2.2.1 r_32.2.2.2 vT_he_ng vT_he_sl_n fT_he_sl_c vT_he_mo_n) H := hP
      have hD : va_D A (wd_X7_sleeper cI cZ AT AT_he AT_iz AT_io AT_tx AT_rd AT_fo AT_fi AT_he_sl AT_he_fl AT_he_ro AT_he_nt AT_he_mk AT_he_mo AT_he_sl_c AT_he_mo_c vT_ab vT_be r_32.2.1 r_32.2.2.1 r_32.2.2.2 vT_he_ng vT_he_sl_n fT_he_sl_c vT_he_mo_n) := hD
      have hm := Option.some.inj hm
      subst hm
      exact q_iret (v := r_32.1) hx hb hr hlocks hP hS dX7_sleeper_35
  · have hm := it_s c_6 hm
    refine lv_aload_n hx hb dX7_sleeper_9 rfl (lv_at hl 0 rfl) ?_
    refine lv_bipush (v := (-2)) hx hb dX7_sleeper_10 (by decide) ?_
    obtain ⟨r_12, hc_12, hm⟩ := ob_s hm
    refine q_ci (q_rv (rest := []) ⟨hx, hb, hml, hown, hts⟩ hK hN hP hD (c_X7_refused l D cI cZ H.size AT AT_he AT_iz AT_io AT_tx AT_rd AT_fo AT_fi vT_ab vT_be vT_bo vT_no vT_fu (-2) r_12 hc_12) mb_X7_refused mv_X7_refused wl_X7_81 [0] rfl rfl rfl (Nat.le_of_ble_eq_true rfl) (Nat.le_of_ble_eq_true rfl) rfl hl.1 rfl (Nat.le_of_ble_eq_true rfl) ⟨Nat.le_refl 0, Nat.le_refl 0⟩ dX7_sleeper_12) hP hD hS hA [0] rfl rfl (fun H locs hP hD hS => ?_)
    have hP : va_P D vwCl (wd_X7_sleeper cI cZ AT AT_he AT_iz AT_io AT_tx AT_rd AT_fo AT_fi AT_he_sl AT_he_fl AT_he_ro AT_he_nt AT_he_mk AT_he_mo AT_he_sl_c AT_he_mo_c vT_ab vT_be r_12.2.1 r_12.2.2.1 r_12.2.2.2 vT_he_ng vT_he_sl_n fT_he_sl_c vT_he_mo_n) H := hP
    have hD : va_D A (wd_X7_sleeper cI cZ AT AT_he AT_iz AT_io AT_tx AT_rd AT_fo AT_fi AT_he_sl AT_he_fl AT_he_ro AT_he_nt AT_he_mk AT_he_mo AT_he_sl_c AT_he_mo_c vT_ab vT_be r_12.2.1 r_12.2.2.1 r_12.2.2.2 vT_he_ng vT_he_sl_n fT_he_sl_c vT_he_mo_n) := hD
    have hm := Option.some.inj hm
    subst hm
    exact q_iret (v := r_12.1) hx hb hr hlocks hP hS dX7_sleeper_15
theorem gf_X7_96 {p : Program} {l : Launch} {e : Env} {R : Room} {s : State} {m : MethodId} {args : Array Value} {below : List Frame} {meth : Method} {c : Code} {H : Heap} {locs : List Loc} {cells slots : Nat} {Q : State → Prop} {pc : Nat} {ls : Array Slot} {cc : ByteArray} {D : va_G} {cI cZ : ClassId} {ws : va_W} {a : Nat} {rest fs : List Value} (hx : p.tables.exec = Jvm.exec) (hb : c.code = cc) (hts : ∀ w ∈ bg, w.before args s = true) (hown : s.vm.findClass RX7 = some m.cls) (hK : va_K D vwCl (q_tys cI cZ) s) (hN : q_N s) (hP : va_P D vwCl ws H) (q0 : Nat) (he : ws[q0]? = some (a, .inr (4, fs))) {v : Value} (hv : fs[1]? = some v) (hdg : decode cc pc = .ok (.getfield 96, 3)) (kk : W p l e R s m args below meth c H locs cells slots Q (F0 m (pc + 3) ls (v :: rest))) : W p l e R s m args below meth c H locs cells slots Q (F0 m pc ls (.ref a :: rest)) :=
  va_getN (C := RX4) (T := TX4) (N := 7) hx hb hts wu_X4 hown hK hP q0 he rfl 1 (by decide) ((ng_X7_96 hN).use rfl) (fun _ h9 => h9) hv hdg kk
theorem mb_X7_flower : q_mb yX7_flower cX7_flower 4 (some .int) 3 := ⟨wc_X7_flower, wn_X7, by decide, by decide, by decide +kernel⟩
theorem mv_X7_flower : q_mv yX7_flower 7 := ⟨wi_X7_flower, ws_X7_flower, _, rfl, rfl⟩
def wd_X7_flower (cI cZ : ClassId) (AT AT_he AT_iz AT_io AT_tx AT_rd AT_fo AT_fi AT_he_sl AT_he_fl AT_he_ro AT_he_nt AT_he_mk AT_he_mo AT_he_fl_c AT_he_mo_c : Nat) (vT_ab : Int32) (vT_be : Int32) (vT_bo : Int32) (vT_no : Int32) (vT_fu : Int32) (vT_he_ng : Int32) (vT_he_fl_n : Int32) (fT_he_fl_c : Nat → Int32) (vT_he_mo_n : Int32) : va_W := [(AT, .inr (7, [.ref AT_he, .ref AT_iz, .ref AT_io, .ref AT_tx, .ref AT_rd, .ref AT_fo, .ref AT_fi, .int vT_ab, .int vT_be, .int vT_bo, .int vT_no, .int vT_fu])), (AT_he, .inr (4, [.ref AT_he_sl, .ref AT_he_fl, .ref AT_he_ro, .ref AT_he_nt, .ref AT_he_mk, .ref AT_he_mo, .int vT_he_ng])), (AT_he_fl, .inr (3, [.int 3, .ref AT_he_fl_c, .int vT_he_fl_n])), (AT_he_fl_c, .inl (cI, 18, .inl fT_he_fl_c)), (AT_he_mo, .inr (3, [.int 25, .ref AT_he_mo_c, .int vT_he_mo_n]))]
def fm_X7_flower (p1 : Int32) (p2 : Int32) (p3 : Int32) (vT_bo : Int32) (vT_no : Int32) (vT_fu : Int32) (vT_he_fl_n : Int32) (fT_he_fl_c : Nat → Int32) (vT_he_mo_n : Int32) : Option (Int32 × Int32 × Int32 × Int32 × Int32 × (Nat → Int32) × Int32) := Option.bind (fm_X7_within p1 0 5) (fun r_3 => if r_3 = 0 then (Option.bind (fm_X7_refused (-2) vT_bo vT_no vT_fu) (fun r_29 => some (r_29.1, r_29.2.1, r_29.2.2.1, r_29.2.2.2, vT_he_fl_n, fT_he_fl_c, vT_he_mo_n))) else (Option.bind (fm_X7_within p2 1 9) (fun r_13 => if r_13 = 0 then (Option.bind (fm_X7_refused (-2) vT_bo vT_no vT_fu) (fun r_29 => some (r_29.1, r_29.2.1, r_29.2.2.1, r_29.2.2.2, vT_he_fl_n, fT_he_fl_c, vT_he_mo_n))) else (Option.bind (fm_X7_isPillow p3) (fun r_20 => if r_20 = 0 then (Option.bind (fm_X7_refused (-2) vT_bo vT_no vT_fu) (fun r_29 => some (r_29.1, r_29.2.1, r_29.2.2.1, r_29.2.2.2, vT_he_fl_n, fT_he_fl_c, vT_he_mo_n))) else (Option.bind (fm_X3_isFull 3 18 vT_he_fl_n) (fun r_40 => if r_40 = 0 then (Option.bind (fm_X4_addFlower p1 p2 p3 vT_he_fl_n fT_he_fl_c vT_he_mo_n) (fun r_60 => Option.bind (fm_X3_size r_60.1) (fun r_70 => some ((r_70 - 1), vT_bo, vT_no, vT_fu, r_60.1, r_60.2.1, r_60.2.2)))) else (Option.bind (fm_X7_refused (-4) vT_bo vT_no vT_fu) (fun r_49 => some (r_49.1, r_49.2.1, r_49.2.2.1, r_49.2.2.2, vT_he_fl_n, fT_he_fl_c, vT_he_mo_n))))))))))
set_option maxHeartbeats 4000000 in
set_option maxRecDepth 100000 in
theorem c_X7_flower (l : Launch) (D : va_G) (cI cZ : ClassId) (sz : Nat) (AT AT_he AT_iz AT_io AT_tx AT_rd AT_fo AT_fi AT_he_sl AT_he_fl AT_he_ro AT_he_nt AT_he_mk AT_he_mo AT_he_fl_c AT_he_mo_c : Nat) (vT_ab : Int32) (vT_be : Int32) (vT_bo : Int32) (vT_no : Int32) (vT_fu : Int32) (vT_he_ng : Int32) (vT_he_fl_n : Int32) (fT_he_fl_c : Nat → Int32) (vT_he_mo_n : Int32) (p1 : Int32) (p2 : Int32) (p3 : Int32) (out : (Int32 × Int32 × Int32 × Int32 × Int32 × (Nat → Int32) × Int32)) (hm : fm_X7_flower p1 p2 p3 vT_bo vT_no vT_fu vT_he_fl_n fT_he_fl_c vT_he_mo_n = some out) : Met l yX7_flower (Cond.code yX7_flower cX7_flower 4 (some .int) :: bg) { frames := 3, cells := 0, slots := 0, locals := 72 } (va_Pc [.ref AT, .int p1, .int p2, .int p3] (q_pre D cI cZ sz (wd_X7_flower cI cZ AT AT_he AT_iz AT_io AT_tx AT_rd AT_fo AT_fi AT_he_sl AT_he_fl AT_he_ro AT_he_nt AT_he_mk AT_he_mo AT_he_fl_c AT_he_mo_c vT_ab vT_be vT_bo vT_no vT_fu vT_he_ng vT_he_fl_n fT_he_fl_c vT_he_mo_n))) (q_Qi D (wd_X7_flower cI cZ AT AT_he AT_iz AT_io AT_tx AT_rd AT_fo AT_fi AT_he_sl AT_he_fl AT_he_ro AT_he_nt AT_he_mk AT_he_mo AT_he_fl_c AT_he_mo_c vT_ab vT_be out.2.1 out.2.2.1 out.2.2.2.1 vT_he_ng out.2.2.2.2.1 out.2.2.2.2.2.1 out.2.2.2.2.2.2) out.1 (va_A (wd_X7_flower cI cZ AT AT_he AT_iz AT_io AT_tx AT_rd AT_fo AT_fi AT_he_sl AT_he_fl AT_he_ro AT_he_nt AT_he_mk AT_he_mo AT_he_fl_c AT_he_mo_c vT_ab vT_be vT_bo vT_no vT_fu vT_he_ng vT_he_fl_n fT_he_fl_c vT_he_mo_n) sz)) 0 0 (va_A (wd_X7_flower cI cZ AT AT_he AT_iz AT_io AT_tx AT_rd AT_fo AT_fi AT_he_sl AT_he_fl AT_he_ro AT_he_nt AT_he_mk AT_he_mo AT_he_fl_c AT_he_mo_c vT_ab vT_be vT_bo vT_no vT_fu vT_he_ng vT_he_fl_n fT_he_fl_c vT_he_mo_n) sz) := by
  refine q_met (fun A => q_Qi D (wd_X7_flower cI cZ AT AT_he AT_iz AT_io AT_tx AT_rd AT_fo AT_fi AT_he_sl AT_he_fl AT_he_ro AT_he_nt AT_he_mk AT_he_mo AT_he_fl_c AT_he_mo_c vT_ab vT_be out.2.1 out.2.2.1 out.2.2.2.1 vT_he_ng out.2.2.2.2.1 out.2.2.2.2.2.1 out.2.2.2.2.2.2) out.1 A) (by decide) (Nat.le_of_ble_eq_true rfl) ?_
  intro p e s m below meth c ls A hx hb hr hml hown hts hlocks _ hA hS hP hD hK hN hl
  have hown : s.vm.findClass RX7 = some m.cls := hown
  have hl : lv_has ls 4 [(0, .ref AT), (1, .int p1), (2, .int p2), (3, .int p3)] := hl
  unfold fm_X7_flower at hm
  refine q_gen hS hP ?_
  intro H locs hP hS
  refine lv_iload_n hx hb dX7_flower_0 rfl (lv_at hl 1 rfl) ?_
  refine lv_iconst (v := 0) hx hb dX7_flower_1 (by decide) ?_
  refine lv_iconst (v := 5) hx hb dX7_flower_2 (by decide) ?_
  obtain ⟨r_3, hc_3, hm⟩ := ob_s hm
  refine q_ci (q_rs (rest := []) ⟨hx, hb, hml, hown, hts⟩ hK hN hP hD (c_X7_within l D cI cZ H.size p1 0 5 r_3 hc_3) mb_X7_within wt_X7_within wl_X7_77 [] rfl rfl (Nat.le_of_ble_eq_true rfl) (Nat.le_of_ble_eq_true rfl) rfl hl.1 rfl (Nat.le_of_ble_eq_true rfl) ⟨Nat.le_refl 0, Nat.le_refl 0⟩ dX7_flower_3) hP hD hS hA [] rfl rfl (fun H locs hP hD hS => ?_)
  have hP : va_P D vwCl (wd_X7_flower cI cZ AT AT_he AT_iz AT_io AT_tx AT_rd AT_fo AT_fi AT_he_sl AT_he_fl AT_he_ro AT_he_nt AT_he_mk AT_he_mo AT_he_fl_c AT_he_mo_c vT_ab vT_be vT_bo vT_no vT_fu vT_he_ng vT_he_fl_n fT_he_fl_c vT_he_mo_n) H := hP
  have hD : va_D A (wd_X7_flower cI cZ AT AT_he AT_iz AT_io AT_tx AT_rd AT_fo AT_fi AT_he_sl AT_he_fl AT_he_ro AT_he_nt AT_he_mk AT_he_mo AT_he_fl_c AT_he_mo_c vT_ab vT_be vT_bo vT_no vT_fu vT_he_ng vT_he_fl_n fT_he_fl_c vT_he_mo_n) := hD
  refine lv_if_eq (tgt := 26) hx hb dX7_flower_6 (by decide) (fun c_6 => ?_) (fun c_6 => ?_)
  · have hm := it_s c_6 hm
    refine lv_aload_n hx hb dX7_flower_26 rfl (lv_at hl 0 rfl) ?_
    refine lv_bipush (v := (-2)) hx hb dX7_flower_27 (by decide) ?_
    obtain ⟨r_29, hc_29, hm⟩ := ob_s hm
    refine q_ci (q_rv (rest := []) ⟨hx, hb, hml, hown, hts⟩ hK hN hP hD (c_X7_refused l D cI cZ H.size AT AT_he AT_iz AT_io AT_tx AT_rd AT_fo AT_fi vT_ab vT_be vT_bo vT_no vT_fu (-2) r_29 hc_29) mb_X7_refused mv_X7_refused wl_X7_81 [0] rfl rfl rfl (Nat.le_of_ble_eq_true rfl) (Nat.le_of_ble_eq_true rfl) rfl hl.1 rfl (Nat.le_of_ble_eq_true rfl) ⟨Nat.le_refl 0, Nat.le_refl 0⟩ dX7_flower_29) hP hD hS hA [0] rfl rfl (fun H locs hP hD hS => ?_)
    have hP : va_P D vwCl (wd_X7_flower cI cZ AT AT_he AT_iz AT_io AT_tx AT_rd AT_fo AT_fi AT_he_sl AT_he_fl AT_he_ro AT_he_nt AT_he_mk AT_he_mo AT_he_fl_c AT_he_mo_c vT_ab vT_be r_29.2.1 r_29.2.2.1 r_29.2.2.2 vT_he_ng vT_he_fl_n fT_he_fl_c vT_he_mo_n) H := hP
    have hD : va_D A (wd_X7_flower cI cZ AT AT_he AT_iz AT_io AT_tx AT_rd AT_fo AT_fi AT_he_sl AT_he_fl AT_he_ro AT_he_nt AT_he_mk AT_he_mo AT_he_fl_c AT_he_mo_c vT_ab vT_be r_29.2.1 r_29.2.2.1 r_29.2.2.2 vT_he_ng vT_he_fl_n fT_he_fl_c vT_he_mo_n) := hD
    have hm := Option.some.inj hm
    subst hm
    exact q_iret (v := r_29.1) hx hb hr hlocks hP hS dX7_flower_32
  · have hm := it_n c_6 hm
    refine lv_iload_n hx hb dX7_flower_9 rfl (lv_at hl 2 rfl) ?_
    refine lv_iconst (v := 1) hx hb dX7_flower_10 (by decide) ?_
    refine lv_bipush (v := 9) hx hb dX7_flower_11 (by decide) ?_
    obtain ⟨r_13, hc_13, hm⟩ := ob_s hm
    refine q_ci (q_rs (rest := []) ⟨hx, hb, hml, hown, hts⟩ hK hN hP hD (c_X7_within l D cI cZ H.size p2 1 9 r_13 hc_13) mb_X7_within wt_X7_within wl_X7_77 [] rfl rfl (Nat.le_of_ble_eq_true rfl) (Nat.le_of_ble_eq_true rfl) rfl hl.1 rfl (Nat.le_of_ble_eq_true rfl) ⟨Nat.le_refl 0, Nat.le_refl 0⟩ dX7_flower_13) hP hD hS hA [] rfl rfl (fun H locs hP hD hS => ?_)
    have hP : va_P D vwCl (wd_X7_flower cI cZ AT AT_he AT_iz AT_io AT_tx AT_rd AT_fo AT_fi AT_he_sl AT_he_fl AT_he_ro AT_he_nt AT_he_mk AT_he_mo AT_he_fl_c AT_he_mo_c vT_ab vT_be vT_bo vT_no vT_fu vT_he_ng vT_he_fl_n fT_he_fl_c vT_he_mo_n) H := hP
    have hD : va_D A (wd_X7_flower cI cZ AT AT_he AT_iz AT_io AT_tx AT_rd AT_fo AT_fi AT_he_sl AT_he_fl AT_he_ro AT_he_nt AT_he_mk AT_he_mo AT_he_fl_c AT_he_mo_c vT_ab vT_be vT_bo vT_no vT_fu vT_he_ng vT_he_fl_n fT_he_fl_c vT_he_mo_n) := hD
    refine lv_if_eq (tgt := 26) hx hb dX7_flower_16 (by decide) (fun c_16 => ?_) (fun c_16 => ?_)
    · have hm := it_s c_16 hm
      refine lv_aload_n hx hb dX7_flower_26 rfl (lv_at hl 0 rfl) ?_
      refine lv_bipush (v := (-2)) hx hb dX7_flower_27 (by decide) ?_
      obtain ⟨r_29, hc_29, hm⟩ := ob_s hm
      refine q_ci (q_rv (rest := []) ⟨hx, hb, hml, hown, hts⟩ hK hN hP hD (c_X7_refused l D cI cZ H.size AT AT_he AT_iz AT_io AT_tx AT_rd AT_fo AT_fi vT_ab vT_be vT_bo vT_no vT_fu (-2) r_29 hc_29) mb_X7_refused mv_X7_refused wl_X7_81 [0] rfl rfl rfl (Nat.le_of_ble_eq_true rfl) (Nat.le_of_ble_eq_true rfl) rfl hl.1 rfl (Nat.le_of_ble_eq_true rfl) ⟨Nat.le_refl 0, Nat.le_refl 0⟩ dX7_flower_29) hP hD hS hA [0] rfl rfl (fun H locs hP hD hS => ?_)
      have hP : va_P D vwCl (wd_X7_flower cI cZ AT AT_he AT_iz AT_io AT_tx AT_rd AT_fo AT_fi AT_he_sl AT_he_fl AT_he_ro AT_he_nt AT_he_mk AT_he_mo AT_he_fl_c AT_he_mo_c vT_ab vT_be r_29.2.1 r_29.2.2.1 r_29.2.2.2 vT_he_ng vT_he_fl_n fT_he_fl_c vT_he_mo_n) H := hP
      have hD : va_D A (wd_X7_flower cI cZ AT AT_he AT_iz AT_io AT_tx AT_rd AT_fo AT_fi AT_he_sl AT_he_fl AT_he_ro AT_he_nt AT_he_mk AT_he_mo AT_he_fl_c AT_he_mo_c vT_ab vT_be r_29.2.1 r_29.2.2.1 r_29.2.2.2 vT_he_ng vT_he_fl_n fT_he_fl_c vT_he_mo_n) := hD
      have hm := Option.some.inj hm
      subst hm
      exact q_iret (v := r_29.1) hx hb hr hlocks hP hS dX7_flower_32
    · have hm := it_n c_16 hm
      refine lv_iload_n hx hb dX7_flower_19 rfl (lv_at hl 3 rfl) ?_
      obtain ⟨r_20, hc_20, hm⟩ := ob_s hm
      refine q_ci (q_rs (rest := []) ⟨hx, hb, hml, hown, hts⟩ hK hN hP hD (c_X7_isPillow l D cI cZ H.size p3 r_20 hc_20) mb_X7_isPillow wt_X7_isPillow wl_X7_92 [] rfl rfl (Nat.le_of_ble_eq_true rfl) (Nat.le_of_ble_eq_true rfl) rfl hl.1 rfl (Nat.le_of_ble_eq_true rfl) ⟨Nat.le_refl 0, Nat.le_refl 0⟩ dX7_flower_20) hP hD hS hA [] rfl rfl (fun H locs hP hD hS => ?_)
      have hP : va_P D vwCl (wd_X7_flower cI cZ AT AT_he AT_iz AT_io AT_tx AT_rd AT_fo AT_fi AT_he_sl AT_he_fl AT_he_ro AT_he_nt AT_he_mk AT_he_mo AT_he_fl_c AT_he_mo_c vT_ab vT_be vT_bo vT_no vT_fu vT_he_ng vT_he_fl_n fT_he_fl_c vT_he_mo_n) H := hP
      have hD : va_D A (wd_X7_flower cI cZ AT AT_he AT_iz AT_io AT_tx AT_rd AT_fo AT_fi AT_he_sl AT_he_fl AT_he_ro AT_he_nt AT_he_mk AT_he_mo AT_he_fl_c AT_he_mo_c vT_ab vT_be vT_bo vT_no vT_fu vT_he_ng vT_he_fl_n fT_he_fl_c vT_he_mo_n) := hD
      refine lv_if_ne (tgt := 33) hx hb dX7_flower_23 (by decide) (fun c_23 => ?_) (fun c_23 => ?_)
      · have hm := it_n c_23 hm
        refine lv_aload_n hx hb dX7_flower_33 rfl (lv_at hl 0 rfl) ?_
        refine gf_X7_17 (v := .ref AT_he) hx hb hts hown hK hN hP 0 rfl rfl dX7_flower_34 ?_
        refine gf_X7_96 (v := .ref AT_he_fl) hx hb hts hown hK hN hP 1 rfl rfl dX7_flower_37 ?_
        obtain ⟨r_40, hc_40, hm⟩ := ob_s hm
        refine q_ci (q_rv (rest := []) ⟨hx, hb, hml, hown, hts⟩ hK hN hP hD (c_X3_isFull l D cI cZ H.size AT_he_fl AT_he_fl_c 3 18 vT_he_fl_n fT_he_fl_c r_40 hc_40) mb_X3_isFull mv_X3_isFull wl_X7_85 [2, 3] rfl rfl rfl (Nat.le_of_ble_eq_true rfl) (Nat.le_of_ble_eq_true rfl) rfl hl.1 rfl (Nat.le_of_ble_eq_true rfl) ⟨Nat.le_refl 0, Nat.le_refl 0⟩ dX7_flower_40) hP hD hS hA [2, 3] rfl rfl (fun H locs hP hD hS => ?_)
        have hP : va_P D vwCl (wd_X7_flower cI cZ AT AT_he AT_iz AT_io AT_tx AT_rd AT_fo AT_fi AT_he_sl AT_he_fl AT_he_ro AT_he_nt AT_he_mk AT_he_mo AT_he_fl_c AT_he_mo_c vT_ab vT_be vT_bo vT_no vT_fu vT_he_ng vT_he_fl_n fT_he_fl_c vT_he_mo_n) H := hP
        have hD : va_D A (wd_X7_flower cI cZ AT AT_he AT_iz AT_io AT_tx AT_rd AT_fo AT_fi AT_he_sl AT_he_fl AT_he_ro AT_he_nt AT_he_mk AT_he_mo AT_he_fl_c AT_he_mo_c vT_ab vT_be vT_bo vT_no vT_fu vT_he_ng vT_he_fl_n fT_he_fl_c vT_he_mo_n) := hD
        refine lv_if_eq (tgt := 53) hx hb dX7_flower_43 (by decide) (fun c_43 => ?_) (fun c_43 => ?_)
        · have hm := it_s c_43 hm
          refine lv_aload_n hx hb dX7_flower_53 rfl (lv_at hl 0 rfl) ?_
          refine gf_X7_17 (v := .ref AT_he) hx hb hts hown hK hN hP 0 rfl rfl dX7_flower_54 ?_
          refine lv_iload_n hx hb dX7_flower_57 rfl (lv_at hl 1 rfl) ?_
          refine lv_iload_n hx hb dX7_flower_58 rfl (lv_at hl 2 rfl) ?_
          refine lv_iload_n hx hb dX7_flower_59 rfl (lv_at hl 3 rfl) ?_
          obtain ⟨r_60, hc_60, hm⟩ := ob_s hm
          refine q_cv (q_rv (rest := []) ⟨hx, hb, hml, hown, hts⟩ hK hN hP hD (c_X4_addFlower l D cI cZ H.size AT_he AT_he_sl AT_he_fl AT_he_ro AT_he_nt AT_he_mk AT_he_mo AT_he_fl_c AT_he_mo_c vT_he_ng vT_he_fl_n fT_he_fl_c vT_he_mo_n p1 p2 p3 r_60 hc_60) mb_X4_addFlower mv_X4_addFlower wl_X7_99 [1, 2, 3, 4] rfl rfl rfl (Nat.le_of_ble_eq_true rfl) (Nat.le_of_ble_eq_true rfl) rfl hl.1 rfl (Nat.le_of_ble_eq_true rfl) ⟨Nat.le_refl 0, Nat.le_refl 0⟩ dX7_flower_60) hP hD hS hA [1, 2, 3, 4] rfl rfl (fun H locs hP hD hS => ?_)
          have hP : va_P D vwCl (wd_X7_flower cI cZ AT AT_he AT_iz AT_io AT_tx AT_rd AT_fo AT_fi AT_he_sl AT_he_fl AT_he_ro AT_he_nt AT_he_mk AT_he_mo AT_he_fl_c AT_he_mo_c vT_ab vT_be vT_bo vT_no vT_fu vT_he_ng r_60.1 r_60.2.1 r_60.2.2) H := hP
          have hD : va_D A (wd_X7_flower cI cZ AT AT_he AT_iz AT_io AT_tx AT_rd AT_fo AT_fi AT_he_sl AT_he_fl AT_he_ro AT_he_nt AT_he_mk AT_he_mo AT_he_fl_c AT_he_mo_c vT_ab vT_be vT_bo vT_no vT_fu vT_he_ng r_60.1 r_60.2.1 r_60.2.2) := hD
          refine lv_aload_n hx hb dX7_flower_63 rfl (lv_at hl 0 rfl) ?_
          refine gf_X7_17 (v := .ref AT_he) hx hb hts hown hK hN hP 0 rfl rfl dX7_flower_64 ?_
          refine gf_X7_96 (v := .ref AT_he_fl) hx hb hts hown hK hN hP 1 rfl rfl dX7_flower_67 ?_
          obtain ⟨r_70, hc_70, hm⟩ := ob_s hm
          refine q_ci (q_rv (rest := []) ⟨hx, hb, hml, hown, hts⟩ hK hN hP hD (c_X3_size l D cI cZ H.size AT_he_fl AT_he_fl_c 3 r_60.1 r_70 hc_70) mb_X3_size mv_X3_size wl_X7_70 [2] rfl rfl rfl (Nat.le_of_ble_eq_true rfl) (Nat.le_of_ble_eq_true rfl) rfl hl.1 rfl (Nat.le_of_ble_eq_true rfl) ⟨Nat.le_refl 0, Nat.le_refl 0⟩ dX7_flower_70) hP hD hS hA [2] rfl rfl (fun H locs hP hD hS => ?_)
          have hP : va_P D vwCl (wd_X7_flower cI cZ AT AT_he AT_iz AT_io AT_tx AT_rd AT_fo AT_fi AT_he_sl AT_he_fl AT_he_ro AT_he_nt AT_he_mk AT_he_mo AT_he_fl_c AT_he_mo_c vT_ab vT_be vT_bo vT_no vT_fu vT_he_ng r_60.1 r_60.2.1 r_60.2.2) H := hP
          have hD : va_D A (wd_X7_flower cI cZ AT AT_he AT_iz AT_io AT_tx AT_rd AT_fo AT_fi AT_he_sl AT_he_fl AT_he_ro AT_he_nt AT_he_mk AT_he_mo AT_he_fl_c AT_he_mo_c vT_ab vT_be vT_bo vT_no vT_fu vT_he_ng r_60.1 r_60.2.1 r_60.2.2) := hD
          refine lv_iconst (v := 1) hx hb dX7_flower_73 (by decide) ?_
          refine lv_isub hx hb dX7_flower_74 ?_
          have hm := Option.some.inj hm
          subst hm
          exact q_iret (v := (r_70 - 1)) hx hb hr hlocks hP hS dX7_flower_75
        · have hm := it_n c_43 hm
          refine lv_aload_n hx hb dX7_flower_46 rfl (lv_at hl 0 rfl) ?_
          refine lv_bipush (v := (-4)) hx hb dX7_flower_47 (by decide) ?_
          obtain ⟨r_49, hc_49, hm⟩ := ob_s hm
          refine q_ci (q_rv (rest := []) ⟨hx, hb, hml, hown, hts⟩ hK hN hP hD (c_X7_refused l D cI cZ H.size AT AT_he AT_iz AT_io AT_tx AT_rd AT_fo AT_fi vT_ab vT_be vT_bo vT_no vT_fu (-4) r_49 hc_49) mb_X7_refused mv_X7_refused wl_X7_81 [0] rfl rfl rfl (Nat.le_of_ble_eq_true rfl) (Nat.le_of_ble_eq_true rfl) rfl hl.1 rfl (Nat.le_of_ble_eq_true rfl) ⟨Nat.le_refl 0, Nat.le_refl 0⟩ dX7_flower_49) hP hD hS hA [0] rfl rfl (fun H locs hP hD hS => ?_)
          have hP : va_P D vwCl (wd_X7_flower cI cZ AT AT_he AT_iz AT_io AT_tx AT_rd AT_fo AT_fi AT_he_sl AT_he_fl AT_he_ro AT_he_nt AT_he_mk AT_he_mo AT_he_fl_c AT_he_mo_c vT_ab vT_be r_49.2.1 r_49.2.2.1 r_49.2.2.2 vT_he_ng vT_he_fl_n fT_he_fl_c vT_he_mo_n) H := hP
          have hD : va_D A (wd_X7_flower cI cZ AT AT_he AT_iz AT_io AT_tx AT_rd AT_fo AT_fi AT_he_sl AT_he_fl AT_he_ro AT_he_nt AT_he_mk AT_he_mo AT_he_fl_c AT_he_mo_c vT_ab vT_be r_49.2.1 r_49.2.2.1 r_49.2.2.2 vT_he_ng vT_he_fl_n fT_he_fl_c vT_he_mo_n) := hD
          have hm := Option.some.inj hm
          subst hm
          exact q_iret (v := r_49.1) hx hb hr hlocks hP hS dX7_flower_52
      · have hm := it_s c_23 hm
        refine lv_aload_n hx hb dX7_flower_26 rfl (lv_at hl 0 rfl) ?_
        refine lv_bipush (v := (-2)) hx hb dX7_flower_27 (by decide) ?_
        obtain ⟨r_29, hc_29, hm⟩ := ob_s hm
        refine q_ci (q_rv (rest := []) ⟨hx, hb, hml, hown, hts⟩ hK hN hP hD (c_X7_refused l D cI cZ H.size AT AT_he AT_iz AT_io AT_tx AT_rd AT_fo AT_fi vT_ab vT_be vT_bo vT_no vT_fu (-2) r_29 hc_29) mb_X7_refused mv_X7_refused wl_X7_81 [0] rfl rfl rfl (Nat.le_of_ble_eq_true rfl) (Nat.le_of_ble_eq_true rfl) rfl hl.1 rfl (Nat.le_of_ble_eq_true rfl) ⟨Nat.le_refl 0, Nat.le_refl 0⟩ dX7_flower_29) hP hD hS hA [0] rfl rfl (fun H locs hP hD hS => ?_)
        have hP : va_P D vwCl (wd_X7_flower cI cZ AT AT_he AT_iz AT_io AT_tx AT_rd AT_fo AT_fi AT_he_sl AT_he_fl AT_he_ro AT_he_nt AT_he_mk AT_he_mo AT_he_fl_c AT_he_mo_c vT_ab vT_be r_29.2.1 r_29.2.2.1 r_29.2.2.2 vT_he_ng vT_he_fl_n fT_he_fl_c vT_he_mo_n) H := hP
        have hD : va_D A (wd_X7_flower cI cZ AT AT_he AT_iz AT_io AT_tx AT_rd AT_fo AT_fi AT_he_sl AT_he_fl AT_he_ro AT_he_nt AT_he_mk AT_he_mo AT_he_fl_c AT_he_mo_c vT_ab vT_be r_29.2.1 r_29.2.2.1 r_29.2.2.2 vT_he_ng vT_he_fl_n fT_he_fl_c vT_he_mo_n) := hD
        have hm := Option.some.inj hm
        subst hm
        exact q_iret (v := r_29.1) hx hb hr hlocks hP hS dX7_flower_32
theorem gf_X7_21 {p : Program} {l : Launch} {e : Env} {R : Room} {s : State} {m : MethodId} {args : Array Value} {below : List Frame} {meth : Method} {c : Code} {H : Heap} {locs : List Loc} {cells slots : Nat} {Q : State → Prop} {pc : Nat} {ls : Array Slot} {cc : ByteArray} {D : va_G} {cI cZ : ClassId} {ws : va_W} {a : Nat} {rest fs : List Value} (hx : p.tables.exec = Jvm.exec) (hb : c.code = cc) (hts : ∀ w ∈ bg, w.before args s = true) (hown : s.vm.findClass RX7 = some m.cls) (hK : va_K D vwCl (q_tys cI cZ) s) (hN : q_N s) (hP : va_P D vwCl ws H) (q0 : Nat) (he : ws[q0]? = some (a, .inr (7, fs))) {v : Value} (hv : fs[3]? = some v) (hdg : decode cc pc = .ok (.getfield 21, 3)) (kk : W p l e R s m args below meth c H locs cells slots Q (F0 m (pc + 3) ls (v :: rest))) : W p l e R s m args below meth c H locs cells slots Q (F0 m pc ls (.ref a :: rest)) :=
  va_get (C := RX7) (T := TX7) (N := 12) hx hb hts wu_X7 hown hK hP q0 he rfl 3 (by decide) (hts _ wf_X7_21) (fun _ h9 => h9) hv hdg kk
theorem mb_X7_type : q_mb yX7_type cX7_type 2 (some .int) 1 := ⟨wc_X7_type, wn_X7, by decide, by decide, by decide +kernel⟩
theorem mv_X7_type : q_mv yX7_type 7 := ⟨wi_X7_type, ws_X7_type, _, rfl, rfl⟩
def wd_X7_type (cI cZ : ClassId) (AT AT_he AT_iz AT_io AT_tx AT_rd AT_fo AT_fi AT_tx_c : Nat) (vT_ab : Int32) (vT_be : Int32) (vT_bo : Int32) (vT_no : Int32) (vT_fu : Int32) (vT_tx_n : Int32) (fT_tx_c : Nat → Int32) : va_W := [(AT, .inr (7, [.ref AT_he, .ref AT_iz, .ref AT_io, .ref AT_tx, .ref AT_rd, .ref AT_fo, .ref AT_fi, .int vT_ab, .int vT_be, .int vT_bo, .int vT_no, .int vT_fu])), (AT_tx, .inr (3, [.int 1, .ref AT_tx_c, .int vT_tx_n])), (AT_tx_c, .inl (cI, 150, .inl fT_tx_c))]
def fm_X7_type (p1 : Int32) (vT_bo : Int32) (vT_no : Int32) (vT_fu : Int32) (vT_tx_n : Int32) (fT_tx_c : Nat → Int32) : Option (Int32 × Int32 × Int32 × Int32 × Int32 × (Nat → Int32)) := Option.bind (fm_X7_within p1 0 127) (fun r_4 => if r_4 = 0 then (Option.bind (fm_X7_refused (-2) vT_bo vT_no vT_fu) (fun r_13 => some (r_13.1, r_13.2.1, r_13.2.2.1, r_13.2.2.2, vT_tx_n, fT_tx_c))) else (Option.bind (fm_X3_isFull 1 150 vT_tx_n) (fun r_21 => if r_21 = 0 then (Option.bind (fm_X3_add 1 150 p1 0 0 0 vT_tx_n fT_tx_c) (fun r_42 => Option.bind (fm_X3_size r_42.1) (fun r_49 => some (r_49, vT_bo, vT_no, vT_fu, r_42.1, r_42.2)))) else (Option.bind (fm_X7_refused (-4) vT_bo vT_no vT_fu) (fun r_30 => some (r_30.1, r_30.2.1, r_30.2.2.1, r_30.2.2.2, vT_tx_n, fT_tx_c))))))
set_option maxHeartbeats 4000000 in
set_option maxRecDepth 100000 in
theorem c_X7_type (l : Launch) (D : va_G) (cI cZ : ClassId) (sz : Nat) (AT AT_he AT_iz AT_io AT_tx AT_rd AT_fo AT_fi AT_tx_c : Nat) (vT_ab : Int32) (vT_be : Int32) (vT_bo : Int32) (vT_no : Int32) (vT_fu : Int32) (vT_tx_n : Int32) (fT_tx_c : Nat → Int32) (p1 : Int32) (out : (Int32 × Int32 × Int32 × Int32 × Int32 × (Nat → Int32))) (hm : fm_X7_type p1 vT_bo vT_no vT_fu vT_tx_n fT_tx_c = some out) : Met l yX7_type (Cond.code yX7_type cX7_type 2 (some .int) :: bg) { frames := 2, cells := 0, slots := 0, locals := 49 } (va_Pc [.ref AT, .int p1] (q_pre D cI cZ sz (wd_X7_type cI cZ AT AT_he AT_iz AT_io AT_tx AT_rd AT_fo AT_fi AT_tx_c vT_ab vT_be vT_bo vT_no vT_fu vT_tx_n fT_tx_c))) (q_Qi D (wd_X7_type cI cZ AT AT_he AT_iz AT_io AT_tx AT_rd AT_fo AT_fi AT_tx_c vT_ab vT_be out.2.1 out.2.2.1 out.2.2.2.1 out.2.2.2.2.1 out.2.2.2.2.2) out.1 (va_A (wd_X7_type cI cZ AT AT_he AT_iz AT_io AT_tx AT_rd AT_fo AT_fi AT_tx_c vT_ab vT_be vT_bo vT_no vT_fu vT_tx_n fT_tx_c) sz)) 0 0 (va_A (wd_X7_type cI cZ AT AT_he AT_iz AT_io AT_tx AT_rd AT_fo AT_fi AT_tx_c vT_ab vT_be vT_bo vT_no vT_fu vT_tx_n fT_tx_c) sz) := by
  refine q_met (fun A => q_Qi D (wd_X7_type cI cZ AT AT_he AT_iz AT_io AT_tx AT_rd AT_fo AT_fi AT_tx_c vT_ab vT_be out.2.1 out.2.2.1 out.2.2.2.1 out.2.2.2.2.1 out.2.2.2.2.2) out.1 A) (by decide) (Nat.le_of_ble_eq_true rfl) ?_
  intro p e s m below meth c ls A hx hb hr hml hown hts hlocks _ hA hS hP hD hK hN hl
  have hown : s.vm.findClass RX7 = some m.cls := hown
  have hl : lv_has ls 2 [(0, .ref AT), (1, .int p1)] := hl
  unfold fm_X7_type at hm
  refine q_gen hS hP ?_
  intro H locs hP hS
  refine lv_iload_n hx hb dX7_type_0 rfl (lv_at hl 1 rfl) ?_
  refine lv_iconst (v := 0) hx hb dX7_type_1 (by decide) ?_
  refine lv_bipush (v := 127) hx hb dX7_type_2 (by decide) ?_
  obtain ⟨r_4, hc_4, hm⟩ := ob_s hm
  refine q_ci (q_rs (rest := []) ⟨hx, hb, hml, hown, hts⟩ hK hN hP hD (c_X7_within l D cI cZ H.size p1 0 127 r_4 hc_4) mb_X7_within wt_X7_within wl_X7_77 [] rfl rfl (Nat.le_of_ble_eq_true rfl) (Nat.le_of_ble_eq_true rfl) rfl hl.1 rfl (Nat.le_of_ble_eq_true rfl) ⟨Nat.le_refl 0, Nat.le_refl 0⟩ dX7_type_4) hP hD hS hA [] rfl rfl (fun H locs hP hD hS => ?_)
  have hP : va_P D vwCl (wd_X7_type cI cZ AT AT_he AT_iz AT_io AT_tx AT_rd AT_fo AT_fi AT_tx_c vT_ab vT_be vT_bo vT_no vT_fu vT_tx_n fT_tx_c) H := hP
  have hD : va_D A (wd_X7_type cI cZ AT AT_he AT_iz AT_io AT_tx AT_rd AT_fo AT_fi AT_tx_c vT_ab vT_be vT_bo vT_no vT_fu vT_tx_n fT_tx_c) := hD
  refine lv_if_ne (tgt := 17) hx hb dX7_type_7 (by decide) (fun c_7 => ?_) (fun c_7 => ?_)
  · have hm := it_n c_7 hm
    refine lv_aload_n hx hb dX7_type_17 rfl (lv_at hl 0 rfl) ?_
    refine gf_X7_21 (v := .ref AT_tx) hx hb hts hown hK hN hP 0 rfl rfl dX7_type_18 ?_
    obtain ⟨r_21, hc_21, hm⟩ := ob_s hm
    refine q_ci (q_rv (rest := []) ⟨hx, hb, hml, hown, hts⟩ hK hN hP hD (c_X3_isFull l D cI cZ H.size AT_tx AT_tx_c 1 150 vT_tx_n fT_tx_c r_21 hc_21) mb_X3_isFull mv_X3_isFull wl_X7_85 [1, 2] rfl rfl rfl (Nat.le_of_ble_eq_true rfl) (Nat.le_of_ble_eq_true rfl) rfl hl.1 rfl (Nat.le_of_ble_eq_true rfl) ⟨Nat.le_refl 0, Nat.le_refl 0⟩ dX7_type_21) hP hD hS hA [1, 2] rfl rfl (fun H locs hP hD hS => ?_)
    have hP : va_P D vwCl (wd_X7_type cI cZ AT AT_he AT_iz AT_io AT_tx AT_rd AT_fo AT_fi AT_tx_c vT_ab vT_be vT_bo vT_no vT_fu vT_tx_n fT_tx_c) H := hP
    have hD : va_D A (wd_X7_type cI cZ AT AT_he AT_iz AT_io AT_tx AT_rd AT_fo AT_fi AT_tx_c vT_ab vT_be vT_bo vT_no vT_fu vT_tx_n fT_tx_c) := hD
    refine lv_if_eq (tgt := 34) hx hb dX7_type_24 (by decide) (fun c_24 => ?_) (fun c_24 => ?_)
    · have hm := it_s c_24 hm
      refine lv_aload_n hx hb dX7_type_34 rfl (lv_at hl 0 rfl) ?_
      refine gf_X7_21 (v := .ref AT_tx) hx hb hts hown hK hN hP 0 rfl rfl dX7_type_35 ?_
      refine lv_iload_n hx hb dX7_type_38 rfl (lv_at hl 1 rfl) ?_
      refine lv_iconst (v := 0) hx hb dX7_type_39 (by decide) ?_
      refine lv_iconst (v := 0) hx hb dX7_type_40 (by decide) ?_
      refine lv_iconst (v := 0) hx hb dX7_type_41 (by decide) ?_
      obtain ⟨r_42, hc_42, hm⟩ := ob_s hm
      refine q_cv (q_rv (rest := []) ⟨hx, hb, hml, hown, hts⟩ hK hN hP hD (c_X3_add l D cI cZ H.size AT_tx AT_tx_c 1 150 vT_tx_n fT_tx_c p1 0 0 0 r_42 hc_42) mb_X3_add mv_X3_add wl_X7_103 [1, 2] rfl rfl rfl (Nat.le_of_ble_eq_true rfl) (Nat.le_of_ble_eq_true rfl) rfl hl.1 rfl (Nat.le_of_ble_eq_true rfl) ⟨Nat.le_refl 0, Nat.le_refl 0⟩ dX7_type_42) hP hD hS hA [1, 2] rfl rfl (fun H locs hP hD hS => ?_)
      have hP : va_P D vwCl (wd_X7_type cI cZ AT AT_he AT_iz AT_io AT_tx AT_rd AT_fo AT_fi AT_tx_c vT_ab vT_be vT_bo vT_no vT_fu r_42.1 r_42.2) H := hP
      have hD : va_D A (wd_X7_type cI cZ AT AT_he AT_iz AT_io AT_tx AT_rd AT_fo AT_fi AT_tx_c vT_ab vT_be vT_bo vT_no vT_fu r_42.1 r_42.2) := hD
      refine lv_aload_n hx hb dX7_type_45 rfl (lv_at hl 0 rfl) ?_
      refine gf_X7_21 (v := .ref AT_tx) hx hb hts hown hK hN hP 0 rfl rfl dX7_type_46 ?_
      obtain ⟨r_49, hc_49, hm⟩ := ob_s hm
      refine q_ci (q_rv (rest := []) ⟨hx, hb, hml, hown, hts⟩ hK hN hP hD (c_X3_size l D cI cZ H.size AT_tx AT_tx_c 1 r_42.1 r_49 hc_49) mb_X3_size mv_X3_size wl_X7_70 [1] rfl rfl rfl (Nat.le_of_ble_eq_true rfl) (Nat.le_of_ble_eq_true rfl) rfl hl.1 rfl (Nat.le_of_ble_eq_true rfl) ⟨Nat.le_refl 0, Nat.le_refl 0⟩ dX7_type_49) hP hD hS hA [1] rfl rfl (fun H locs hP hD hS => ?_)
      have hP : va_P D vwCl (wd_X7_type cI cZ AT AT_he AT_iz AT_io AT_tx AT_rd AT_fo AT_fi AT_tx_c vT_ab vT_be vT_bo vT_no vT_fu r_42.1 r_42.2) H := hP
      have hD : va_D A (wd_X7_type cI cZ AT AT_he AT_iz AT_io AT_tx AT_rd AT_fo AT_fi AT_tx_c vT_ab vT_be vT_bo vT_no vT_fu r_42.1 r_42.2) := hD
      have hm := Option.some.inj hm
      subst hm
      exact q_iret (v := r_49) hx hb hr hlocks hP hS dX7_type_52
    · have hm := it_n c_24 hm
      refine lv_aload_n hx hb dX7_type_27 rfl (lv_at hl 0 rfl) ?_
      refine lv_bipush (v := (-4)) hx hb dX7_type_28 (by decide) ?_
      obtain ⟨r_30, hc_30, hm⟩ := ob_s hm
      refine q_ci (q_rv (rest := []) ⟨hx, hb, hml, hown, hts⟩ hK hN hP hD (c_X7_refused l D cI cZ H.size AT AT_he AT_iz AT_io AT_tx AT_rd AT_fo AT_fi vT_ab vT_be vT_bo vT_no vT_fu (-4) r_30 hc_30) mb_X7_refused mv_X7_refused wl_X7_81 [0] rfl rfl rfl (Nat.le_of_ble_eq_true rfl) (Nat.le_of_ble_eq_true rfl) rfl hl.1 rfl (Nat.le_of_ble_eq_true rfl) ⟨Nat.le_refl 0, Nat.le_refl 0⟩ dX7_type_30) hP hD hS hA [0] rfl rfl (fun H locs hP hD hS => ?_)
      have hP : va_P D vwCl (wd_X7_type cI cZ AT AT_he AT_iz AT_io AT_tx AT_rd AT_fo AT_fi AT_tx_c vT_ab vT_be r_30.2.1 r_30.2.2.1 r_30.2.2.2 vT_tx_n fT_tx_c) H := hP
      have hD : va_D A (wd_X7_type cI cZ AT AT_he AT_iz AT_io AT_tx AT_rd AT_fo AT_fi AT_tx_c vT_ab vT_be r_30.2.1 r_30.2.2.1 r_30.2.2.2 vT_tx_n fT_tx_c) := hD
      have hm := Option.some.inj hm
      subst hm
      exact q_iret (v := r_30.1) hx hb hr hlocks hP hS dX7_type_33
  · have hm := it_s c_7 hm
    refine lv_aload_n hx hb dX7_type_10 rfl (lv_at hl 0 rfl) ?_
    refine lv_bipush (v := (-2)) hx hb dX7_type_11 (by decide) ?_
    obtain ⟨r_13, hc_13, hm⟩ := ob_s hm
    refine q_ci (q_rv (rest := []) ⟨hx, hb, hml, hown, hts⟩ hK hN hP hD (c_X7_refused l D cI cZ H.size AT AT_he AT_iz AT_io AT_tx AT_rd AT_fo AT_fi vT_ab vT_be vT_bo vT_no vT_fu (-2) r_13 hc_13) mb_X7_refused mv_X7_refused wl_X7_81 [0] rfl rfl rfl (Nat.le_of_ble_eq_true rfl) (Nat.le_of_ble_eq_true rfl) rfl hl.1 rfl (Nat.le_of_ble_eq_true rfl) ⟨Nat.le_refl 0, Nat.le_refl 0⟩ dX7_type_13) hP hD hS hA [0] rfl rfl (fun H locs hP hD hS => ?_)
    have hP : va_P D vwCl (wd_X7_type cI cZ AT AT_he AT_iz AT_io AT_tx AT_rd AT_fo AT_fi AT_tx_c vT_ab vT_be r_13.2.1 r_13.2.2.1 r_13.2.2.2 vT_tx_n fT_tx_c) H := hP
    have hD : va_D A (wd_X7_type cI cZ AT AT_he AT_iz AT_io AT_tx AT_rd AT_fo AT_fi AT_tx_c vT_ab vT_be r_13.2.1 r_13.2.2.1 r_13.2.2.2 vT_tx_n fT_tx_c) := hD
    have hm := Option.some.inj hm
    subst hm
    exact q_iret (v := r_13.1) hx hb hr hlocks hP hS dX7_type_16
theorem mb_X7_clear : q_mb yX7_clear cX7_clear 2 (some .int) 0 := ⟨wc_X7_clear, wn_X7, by decide, by decide, by decide +kernel⟩
theorem mv_X7_clear : q_mv yX7_clear 7 := ⟨wi_X7_clear, ws_X7_clear, _, rfl, rfl⟩
def wd_X7_clear (cI cZ : ClassId) (AT AT_he AT_iz AT_io AT_tx AT_rd AT_fo AT_fi AT_tx_c : Nat) (vT_ab : Int32) (vT_be : Int32) (vT_bo : Int32) (vT_no : Int32) (vT_fu : Int32) (vT_tx_n : Int32) : va_W := [(AT, .inr (7, [.ref AT_he, .ref AT_iz, .ref AT_io, .ref AT_tx, .ref AT_rd, .ref AT_fo, .ref AT_fi, .int vT_ab, .int vT_be, .int vT_bo, .int vT_no, .int vT_fu])), (AT_tx, .inr (3, [.int 1, .ref AT_tx_c, .int vT_tx_n]))]
def fm_X7_clear (vT_tx_n : Int32) : Option (Int32 × Int32) := Option.bind (fm_X3_size vT_tx_n) (fun r_4 => Option.bind (fm_X3_empty vT_tx_n) (fun r_12 => some (r_4, r_12)))
set_option maxHeartbeats 4000000 in
set_option maxRecDepth 100000 in
theorem c_X7_clear (l : Launch) (D : va_G) (cI cZ : ClassId) (sz : Nat) (AT AT_he AT_iz AT_io AT_tx AT_rd AT_fo AT_fi AT_tx_c : Nat) (vT_ab : Int32) (vT_be : Int32) (vT_bo : Int32) (vT_no : Int32) (vT_fu : Int32) (vT_tx_n : Int32) (out : (Int32 × Int32)) (hm : fm_X7_clear vT_tx_n = some out) : Met l yX7_clear (Cond.code yX7_clear cX7_clear 2 (some .int) :: bg) { frames := 1, cells := 0, slots := 0, locals := 20 } (va_Pc [.ref AT] (q_pre D cI cZ sz (wd_X7_clear cI cZ AT AT_he AT_iz AT_io AT_tx AT_rd AT_fo AT_fi AT_tx_c vT_ab vT_be vT_bo vT_no vT_fu vT_tx_n))) (q_Qi D (wd_X7_clear cI cZ AT AT_he AT_iz AT_io AT_tx AT_rd AT_fo AT_fi AT_tx_c vT_ab vT_be vT_bo vT_no vT_fu out.2) out.1 (va_A (wd_X7_clear cI cZ AT AT_he AT_iz AT_io AT_tx AT_rd AT_fo AT_fi AT_tx_c vT_ab vT_be vT_bo vT_no vT_fu vT_tx_n) sz)) 0 0 (va_A (wd_X7_clear cI cZ AT AT_he AT_iz AT_io AT_tx AT_rd AT_fo AT_fi AT_tx_c vT_ab vT_be vT_bo vT_no vT_fu vT_tx_n) sz) := by
  refine q_met (fun A => q_Qi D (wd_X7_clear cI cZ AT AT_he AT_iz AT_io AT_tx AT_rd AT_fo AT_fi AT_tx_c vT_ab vT_be vT_bo vT_no vT_fu out.2) out.1 A) (by decide) (Nat.le_of_ble_eq_true rfl) ?_
  intro p e s m below meth c ls A hx hb hr hml hown hts hlocks _ hA hS hP hD hK hN hl
  have hown : s.vm.findClass RX7 = some m.cls := hown
  have hl : lv_has ls 2 [(0, .ref AT)] := hl
  unfold fm_X7_clear at hm
  refine q_gen hS hP ?_
  intro H locs hP hS
  refine lv_aload_n hx hb dX7_clear_0 rfl (lv_at hl 0 rfl) ?_
  refine gf_X7_21 (v := .ref AT_tx) hx hb hts hown hK hN hP 0 rfl rfl dX7_clear_1 ?_
  obtain ⟨r_4, hc_4, hm⟩ := ob_s hm
  refine q_ci (q_rv (rest := []) ⟨hx, hb, hml, hown, hts⟩ hK hN hP hD (c_X3_size l D cI cZ H.size AT_tx AT_tx_c 1 vT_tx_n r_4 hc_4) mb_X3_size mv_X3_size wl_X7_70 [1] rfl rfl rfl (Nat.le_of_ble_eq_true rfl) (Nat.le_of_ble_eq_true rfl) rfl hl.1 rfl (Nat.le_of_ble_eq_true rfl) ⟨Nat.le_refl 0, Nat.le_refl 0⟩ dX7_clear_4) hP hD hS hA [1] rfl rfl (fun H locs hP hD hS => ?_)
  have hP : va_P D vwCl (wd_X7_clear cI cZ AT AT_he AT_iz AT_io AT_tx AT_rd AT_fo AT_fi AT_tx_c vT_ab vT_be vT_bo vT_no vT_fu vT_tx_n) H := hP
  have hD : va_D A (wd_X7_clear cI cZ AT AT_he AT_iz AT_io AT_tx AT_rd AT_fo AT_fi AT_tx_c vT_ab vT_be vT_bo vT_no vT_fu vT_tx_n) := hD
  refine lv_istore_n (lv' := [(1, .int r_4), (0, .ref AT)]) hx hb dX7_clear_7 rfl hl (by decide) rfl (fun ls hl => ?_)
  refine lv_aload_n hx hb dX7_clear_8 rfl (lv_at hl 1 rfl) ?_
  refine gf_X7_21 (v := .ref AT_tx) hx hb hts hown hK hN hP 0 rfl rfl dX7_clear_9 ?_
  obtain ⟨r_12, hc_12, hm⟩ := ob_s hm
  refine q_cv (q_rv (rest := []) ⟨hx, hb, hml, hown, hts⟩ hK hN hP hD (c_X3_empty l D cI cZ H.size AT_tx AT_tx_c 1 vT_tx_n r_12 hc_12) mb_X3_empty mv_X3_empty wl_X7_107 [1] rfl rfl rfl (Nat.le_of_ble_eq_true rfl) (Nat.le_of_ble_eq_true rfl) rfl hl.1 rfl (Nat.le_of_ble_eq_true rfl) ⟨Nat.le_refl 0, Nat.le_refl 0⟩ dX7_clear_12) hP hD hS hA [1] rfl rfl (fun H locs hP hD hS => ?_)
  have hP : va_P D vwCl (wd_X7_clear cI cZ AT AT_he AT_iz AT_io AT_tx AT_rd AT_fo AT_fi AT_tx_c vT_ab vT_be vT_bo vT_no vT_fu r_12) H := hP
  have hD : va_D A (wd_X7_clear cI cZ AT AT_he AT_iz AT_io AT_tx AT_rd AT_fo AT_fi AT_tx_c vT_ab vT_be vT_bo vT_no vT_fu r_12) := hD
  refine lv_iload_n hx hb dX7_clear_15 rfl (lv_at hl 0 rfl) ?_
  have hm := Option.some.inj hm
  subst hm
  exact q_iret (v := r_4) hx hb hr hlocks hP hS dX7_clear_16
theorem gf_X7_40 {p : Program} {l : Launch} {e : Env} {R : Room} {s : State} {m : MethodId} {args : Array Value} {below : List Frame} {meth : Method} {c : Code} {H : Heap} {locs : List Loc} {cells slots : Nat} {Q : State → Prop} {pc : Nat} {ls : Array Slot} {cc : ByteArray} {D : va_G} {cI cZ : ClassId} {ws : va_W} {a : Nat} {rest fs : List Value} (hx : p.tables.exec = Jvm.exec) (hb : c.code = cc) (hts : ∀ w ∈ bg, w.before args s = true) (hown : s.vm.findClass RX7 = some m.cls) (hK : va_K D vwCl (q_tys cI cZ) s) (hN : q_N s) (hP : va_P D vwCl ws H) (q0 : Nat) (he : ws[q0]? = some (a, .inr (7, fs))) {v : Value} (hv : fs[4]? = some v) (hdg : decode cc pc = .ok (.getfield 40, 3)) (kk : W p l e R s m args below meth c H locs cells slots Q (F0 m (pc + 3) ls (v :: rest))) : W p l e R s m args below meth c H locs cells slots Q (F0 m pc ls (.ref a :: rest)) :=
  va_get (C := RX7) (T := TX7) (N := 12) hx hb hts wu_X7 hown hK hP q0 he rfl 4 (by decide) (hts _ wf_X7_40) (fun _ h9 => h9) hv hdg kk
theorem mb_X7_read : q_mb yX7_read cX7_read 2 (some .int) 0 := ⟨wc_X7_read, wn_X7, by decide, by decide, by decide +kernel⟩
theorem mv_X7_read : q_mv yX7_read 7 := ⟨wi_X7_read, ws_X7_read, _, rfl, rfl⟩
def wd_X7_read (cI cZ : ClassId) (AT AT_he AT_iz AT_io AT_tx AT_rd AT_fo AT_fi AT_rd_tk AT_rd_it AT_rd_tk_c AT_tx_c AT_rd_it_c AT_he_sl AT_he_fl AT_he_ro AT_he_nt AT_he_mk AT_he_mo AT_he_sl_c AT_he_fl_c AT_he_ro_c AT_he_nt_c AT_he_mk_c AT_he_mo_c : Nat) (vT_ab : Int32) (vT_be : Int32) (vT_bo : Int32) (vT_no : Int32) (vT_fu : Int32) (vT_rd_pl : Int32) (vT_rd_nw : Int32) (vT_rd_ts : Int32) (vT_rd_tf : Int32) (vT_rd_tk_n : Int32) (vT_tx_n : Int32) (fT_rd_tk_c : Nat → Int32) (fT_tx_c : Nat → Int32) (vT_rd_it_n : Int32) (fT_rd_it_c : Nat → Int32) (vT_he_ng : Int32) (vT_he_sl_n : Int32) (vT_he_fl_n : Int32) (vT_he_ro_n : Int32) (vT_he_nt_n : Int32) (vT_he_mk_n : Int32) (vT_he_mo_n : Int32) (fT_he_sl_c : Nat → Int32) (fT_he_fl_c : Nat → Int32) : va_W := [(AT, .inr (7, [.ref AT_he, .ref AT_iz, .ref AT_io, .ref AT_tx, .ref AT_rd, .ref AT_fo, .ref AT_fi, .int vT_ab, .int vT_be, .int vT_bo, .int vT_no, .int vT_fu])), (AT_rd, .inr (5, [.ref AT_tx, .ref AT_rd_tk, .ref AT_rd_it, .int vT_rd_pl, .int vT_rd_nw, .int vT_rd_ts, .int vT_rd_tf])), (AT_rd_tk, .inr (3, [.int 3, .ref AT_rd_tk_c, .int vT_rd_tk_n])), (AT_tx, .inr (3, [.int 1, .ref AT_tx_c, .int vT_tx_n])), (AT_rd_tk_c, .inl (cI, 453, .inl fT_rd_tk_c)), (AT_tx_c, .inl (cI, 150, .inl fT_tx_c)), (AT_rd_it, .inr (3, [.int 4, .ref AT_rd_it_c, .int vT_rd_it_n])), (AT_rd_it_c, .inl (cI, 76, .inl fT_rd_it_c)), (AT_he, .inr (4, [.ref AT_he_sl, .ref AT_he_fl, .ref AT_he_ro, .ref AT_he_nt, .ref AT_he_mk, .ref AT_he_mo, .int vT_he_ng])), (AT_he_sl, .inr (3, [.int 4, .ref AT_he_sl_c, .int vT_he_sl_n])), (AT_he_fl, .inr (3, [.int 3, .ref AT_he_fl_c, .int vT_he_fl_n])), (AT_he_ro, .inr (3, [.int 3, .ref AT_he_ro_c, .int vT_he_ro_n])), (AT_he_nt, .inr (3, [.int 4, .ref AT_he_nt_c, .int vT_he_nt_n])), (AT_he_mk, .inr (3, [.int 4, .ref AT_he_mk_c, .int vT_he_mk_n])), (AT_he_mo, .inr (3, [.int 25, .ref AT_he_mo_c, .int vT_he_mo_n])), (AT_he_sl_c, .inl (cI, 24, .inl fT_he_sl_c)), (AT_he_fl_c, .inl (cI, 18, .inl fT_he_fl_c))]
def fm_X7_read (vT_rd_pl : Int32) (vT_rd_nw : Int32) (vT_rd_ts : Int32) (vT_rd_tf : Int32) (vT_rd_tk_n : Int32) (vT_tx_n : Int32) (fT_rd_tk_c : Nat → Int32) (fT_tx_c : Nat → Int32) (vT_rd_it_n : Int32) (fT_rd_it_c : Nat → Int32) (vT_he_ng : Int32) (vT_he_sl_n : Int32) (vT_he_fl_n : Int32) (vT_he_ro_n : Int32) (vT_he_nt_n : Int32) (vT_he_mk_n : Int32) (vT_he_mo_n : Int32) (fT_he_sl_c : Nat → Int32) (fT_he_fl_c : Nat → Int32) : Option (Int32 × Int32 × Int32 × Int32 × Int32 × Int32 × (Nat → Int32) × Int32 × (Nat → Int32) × Int32 × Int32 × Int32 × Int32 × Int32 × Int32 × Int32 × (Nat → Int32) × (Nat → Int32)) := Option.bind (fm_X5_readItems vT_rd_pl vT_rd_nw vT_rd_ts vT_rd_tf vT_rd_tk_n vT_tx_n fT_rd_tk_c fT_tx_c vT_rd_it_n fT_rd_it_c) (fun r_4 => if 0 ≤ r_4.1 then (Option.bind (fm_X5_doItems vT_he_ng vT_he_sl_n vT_he_fl_n vT_he_ro_n vT_he_nt_n vT_he_mk_n vT_he_mo_n r_4.2.2.2.2.2.2.2.1 r_4.2.2.2.2.2.2.2.2 fT_he_sl_c fT_he_fl_c) (fun r_31 => some (r_4.1, r_4.2.1, r_4.2.2.1, r_4.2.2.2.1, r_4.2.2.2.2.1, r_4.2.2.2.2.2.1, r_4.2.2.2.2.2.2.1, r_4.2.2.2.2.2.2.2.1, r_4.2.2.2.2.2.2.2.2, r_31.1, r_31.2.1, r_31.2.2.1, r_31.2.2.2.1, r_31.2.2.2.2.1, r_31.2.2.2.2.2.1, r_31.2.2.2.2.2.2.1, r_31.2.2.2.2.2.2.2.1, r_31.2.2.2.2.2.2.2.2))) else (Option.bind (fm_X5_fault r_4.2.2.1 r_4.2.2.2.2.2.1 r_4.2.2.2.2.2.2.1) (fun r_18 => some (((-10) - r_18), r_4.2.1, r_4.2.2.1, r_4.2.2.2.1, r_4.2.2.2.2.1, r_4.2.2.2.2.2.1, r_4.2.2.2.2.2.2.1, r_4.2.2.2.2.2.2.2.1, r_4.2.2.2.2.2.2.2.2, vT_he_ng, vT_he_sl_n, vT_he_fl_n, vT_he_ro_n, vT_he_nt_n, vT_he_mk_n, vT_he_mo_n, fT_he_sl_c, fT_he_fl_c))))
set_option maxHeartbeats 4000000 in
set_option maxRecDepth 100000 in
theorem c_X7_read (l : Launch) (adK adV : Nat → Nat) (D : va_G) (cI cZ : ClassId) (sz : Nat) (AT AT_he AT_iz AT_io AT_tx AT_rd AT_fo AT_fi AT_rd_tk AT_rd_it AT_rd_tk_c AT_tx_c AT_rd_it_c AT_he_sl AT_he_fl AT_he_ro AT_he_nt AT_he_mk AT_he_mo AT_he_sl_c AT_he_fl_c AT_he_ro_c AT_he_nt_c AT_he_mk_c AT_he_mo_c : Nat) (vT_ab : Int32) (vT_be : Int32) (vT_bo : Int32) (vT_no : Int32) (vT_fu : Int32) (vT_rd_pl : Int32) (vT_rd_nw : Int32) (vT_rd_ts : Int32) (vT_rd_tf : Int32) (vT_rd_tk_n : Int32) (vT_tx_n : Int32) (fT_rd_tk_c : Nat → Int32) (fT_tx_c : Nat → Int32) (vT_rd_it_n : Int32) (fT_rd_it_c : Nat → Int32) (vT_he_ng : Int32) (vT_he_sl_n : Int32) (vT_he_fl_n : Int32) (vT_he_ro_n : Int32) (vT_he_nt_n : Int32) (vT_he_mk_n : Int32) (vT_he_mo_n : Int32) (fT_he_sl_c : Nat → Int32) (fT_he_fl_c : Nat → Int32) (out : (Int32 × Int32 × Int32 × Int32 × Int32 × Int32 × (Nat → Int32) × Int32 × (Nat → Int32) × Int32 × Int32 × Int32 × Int32 × Int32 × Int32 × Int32 × (Nat → Int32) × (Nat → Int32))) (hm : fm_X7_read vT_rd_pl vT_rd_nw vT_rd_ts vT_rd_tf vT_rd_tk_n vT_tx_n fT_rd_tk_c fT_tx_c vT_rd_it_n fT_rd_it_c vT_he_ng vT_he_sl_n vT_he_fl_n vT_he_ro_n vT_he_nt_n vT_he_mk_n vT_he_mo_n fT_he_sl_c fT_he_fl_c = some out) : Met l yX7_read (Cond.code yX7_read cX7_read 2 (some .int) :: bg) { frames := 9, cells := 0, slots := 0, locals := 191 } (va_Pc [.ref AT] (q_preX adK adV D cI cZ sz (wd_X7_read cI cZ AT AT_he AT_iz AT_io AT_tx AT_rd AT_fo AT_fi AT_rd_tk AT_rd_it AT_rd_tk_c AT_tx_c AT_rd_it_c AT_he_sl AT_he_fl AT_he_ro AT_he_nt AT_he_mk AT_he_mo AT_he_sl_c AT_he_fl_c AT_he_ro_c AT_he_nt_c AT_he_mk_c AT_he_mo_c vT_ab vT_be vT_bo vT_no vT_fu vT_rd_pl vT_rd_nw vT_rd_ts vT_rd_tf vT_rd_tk_n vT_tx_n fT_rd_tk_c fT_tx_c vT_rd_it_n fT_rd_it_c vT_he_ng vT_he_sl_n vT_he_fl_n vT_he_ro_n vT_he_nt_n vT_he_mk_n vT_he_mo_n fT_he_sl_c fT_he_fl_c))) (q_Qi D (wd_X7_read cI cZ AT AT_he AT_iz AT_io AT_tx AT_rd AT_fo AT_fi AT_rd_tk AT_rd_it AT_rd_tk_c AT_tx_c AT_rd_it_c AT_he_sl AT_he_fl AT_he_ro AT_he_nt AT_he_mk AT_he_mo AT_he_sl_c AT_he_fl_c AT_he_ro_c AT_he_nt_c AT_he_mk_c AT_he_mo_c vT_ab vT_be vT_bo vT_no vT_fu out.2.1 out.2.2.1 out.2.2.2.1 out.2.2.2.2.1 out.2.2.2.2.2.1 vT_tx_n out.2.2.2.2.2.2.1 fT_tx_c out.2.2.2.2.2.2.2.1 out.2.2.2.2.2.2.2.2.1 out.2.2.2.2.2.2.2.2.2.1 out.2.2.2.2.2.2.2.2.2.2.1 out.2.2.2.2.2.2.2.2.2.2.2.1 out.2.2.2.2.2.2.2.2.2.2.2.2.1 out.2.2.2.2.2.2.2.2.2.2.2.2.2.1 out.2.2.2.2.2.2.2.2.2.2.2.2.2.2.1 out.2.2.2.2.2.2.2.2.2.2.2.2.2.2.2.1 out.2.2.2.2.2.2.2.2.2.2.2.2.2.2.2.2.1 out.2.2.2.2.2.2.2.2.2.2.2.2.2.2.2.2.2) out.1 (va_A (wd_X7_read cI cZ AT AT_he AT_iz AT_io AT_tx AT_rd AT_fo AT_fi AT_rd_tk AT_rd_it AT_rd_tk_c AT_tx_c AT_rd_it_c AT_he_sl AT_he_fl AT_he_ro AT_he_nt AT_he_mk AT_he_mo AT_he_sl_c AT_he_fl_c AT_he_ro_c AT_he_nt_c AT_he_mk_c AT_he_mo_c vT_ab vT_be vT_bo vT_no vT_fu vT_rd_pl vT_rd_nw vT_rd_ts vT_rd_tf vT_rd_tk_n vT_tx_n fT_rd_tk_c fT_tx_c vT_rd_it_n fT_rd_it_c vT_he_ng vT_he_sl_n vT_he_fl_n vT_he_ro_n vT_he_nt_n vT_he_mk_n vT_he_mo_n fT_he_sl_c fT_he_fl_c) sz)) 0 0 (va_A (wd_X7_read cI cZ AT AT_he AT_iz AT_io AT_tx AT_rd AT_fo AT_fi AT_rd_tk AT_rd_it AT_rd_tk_c AT_tx_c AT_rd_it_c AT_he_sl AT_he_fl AT_he_ro AT_he_nt AT_he_mk AT_he_mo AT_he_sl_c AT_he_fl_c AT_he_ro_c AT_he_nt_c AT_he_mk_c AT_he_mo_c vT_ab vT_be vT_bo vT_no vT_fu vT_rd_pl vT_rd_nw vT_rd_ts vT_rd_tf vT_rd_tk_n vT_tx_n fT_rd_tk_c fT_tx_c vT_rd_it_n fT_rd_it_c vT_he_ng vT_he_sl_n vT_he_fl_n vT_he_ro_n vT_he_nt_n vT_he_mk_n vT_he_mo_n fT_he_sl_c fT_he_fl_c) sz) := by
  refine q_metX (fun A => q_Qi D (wd_X7_read cI cZ AT AT_he AT_iz AT_io AT_tx AT_rd AT_fo AT_fi AT_rd_tk AT_rd_it AT_rd_tk_c AT_tx_c AT_rd_it_c AT_he_sl AT_he_fl AT_he_ro AT_he_nt AT_he_mk AT_he_mo AT_he_sl_c AT_he_fl_c AT_he_ro_c AT_he_nt_c AT_he_mk_c AT_he_mo_c vT_ab vT_be vT_bo vT_no vT_fu out.2.1 out.2.2.1 out.2.2.2.1 out.2.2.2.2.1 out.2.2.2.2.2.1 vT_tx_n out.2.2.2.2.2.2.1 fT_tx_c out.2.2.2.2.2.2.2.1 out.2.2.2.2.2.2.2.2.1 out.2.2.2.2.2.2.2.2.2.1 out.2.2.2.2.2.2.2.2.2.2.1 out.2.2.2.2.2.2.2.2.2.2.2.1 out.2.2.2.2.2.2.2.2.2.2.2.2.1 out.2.2.2.2.2.2.2.2.2.2.2.2.2.1 out.2.2.2.2.2.2.2.2.2.2.2.2.2.2.1 out.2.2.2.2.2.2.2.2.2.2.2.2.2.2.2.1 out.2.2.2.2.2.2.2.2.2.2.2.2.2.2.2.2.1 out.2.2.2.2.2.2.2.2.2.2.2.2.2.2.2.2.2) out.1 A) (by decide) (Nat.le_of_ble_eq_true rfl) ?_
  intro p e s m below meth c ls A hx hb hr hml hown hts hlocks _ hA hS hP hD hK hN hl hG
  have hown : s.vm.findClass RX7 = some m.cls := hown
  have hl : lv_has ls 2 [(0, .ref AT)] := hl
  unfold fm_X7_read at hm
  refine q_gen hS hP ?_
  intro H locs hP hS
  refine lv_aload_n hx hb dX7_read_0 rfl (lv_at hl 0 rfl) ?_
  refine gf_X7_40 (v := .ref AT_rd) hx hb hts hown hK hN hP 0 rfl rfl dX7_read_1 ?_
  obtain ⟨r_4, hc_4, hm⟩ := ob_s hm
  refine q_ci (q_rvY (rest := []) ⟨hx, hb, hml, hown, hts⟩ hG hK hN hP hD hS hA (c_X5_readItems l adK adV D cI cZ H.size AT_rd AT_tx AT_rd_tk AT_rd_it AT_rd_tk_c AT_tx_c AT_rd_it_c vT_rd_pl vT_rd_nw vT_rd_ts vT_rd_tf vT_rd_tk_n vT_tx_n fT_rd_tk_c fT_tx_c vT_rd_it_n fT_rd_it_c r_4 hc_4) mb_X5_readItems mv_X5_readItems wl_X7_110 [1, 2, 3, 4, 5, 6, 7] rfl rfl rfl (Nat.le_of_ble_eq_true rfl) (Nat.le_of_ble_eq_true rfl) rfl hl.1 rfl (Nat.le_of_ble_eq_true rfl) ⟨Nat.le_refl 0, Nat.le_refl 0⟩ dX7_read_4) hP hD hS hA [1, 2, 3, 4, 5, 6, 7] rfl rfl (fun H locs hP hD hS => ?_)
  have hP : va_P D vwCl (wd_X7_read cI cZ AT AT_he AT_iz AT_io AT_tx AT_rd AT_fo AT_fi AT_rd_tk AT_rd_it AT_rd_tk_c AT_tx_c AT_rd_it_c AT_he_sl AT_he_fl AT_he_ro AT_he_nt AT_he_mk AT_he_mo AT_he_sl_c AT_he_fl_c AT_he_ro_c AT_he_nt_c AT_he_mk_c AT_he_mo_c vT_ab vT_be vT_bo vT_no vT_fu r_4.2.1 r_4.2.2.1 r_4.2.2.2.1 r_4.2.2.2.2.1 r_4.2.2.2.2.2.1 vT_tx_n r_4.2.2.2.2.2.2.1 fT_tx_c r_4.2.2.2.2.2.2.2.1 r_4.2.2.2.2.2.2.2.2 vT_he_ng vT_he_sl_n vT_he_fl_n vT_he_ro_n vT_he_nt_n vT_he_mk_n vT_he_mo_n fT_he_sl_c fT_he_fl_c) H := hP
  have hD : va_D A (wd_X7_read cI cZ AT AT_he AT_iz AT_io AT_tx AT_rd AT_fo AT_fi AT_rd_tk AT_rd_it AT_rd_tk_c AT_tx_c AT_rd_it_c AT_he_sl AT_he_fl AT_he_ro AT_he_nt AT_he_mk AT_he_mo AT_he_sl_c AT_he_fl_c AT_he_ro_c AT_he_nt_c AT_he_mk_c AT_he_mo_c vT_ab vT_be vT_bo vT_no vT_fu r_4.2.1 r_4.2.2.1 r_4.2.2.2.1 r_4.2.2.2.2.1 r_4.2.2.2.2.2.1 vT_tx_n r_4.2.2.2.2.2.2.1 fT_tx_c r_4.2.2.2.2.2.2.2.1 r_4.2.2.2.2.2.2.2.2 vT_he_ng vT_he_sl_n vT_he_fl_n vT_he_ro_n vT_he_nt_n vT_he_mk_n vT_he_mo_n fT_he_sl_c fT_he_fl_c) := hD
  refine lv_istore_n (lv' := [(1, .int r_4.1), (0, .ref AT)]) hx hb dX7_read_7 rfl hl (by decide) rfl (fun ls hl => ?_)
  refine lv_iload_n hx hb dX7_read_8 rfl (lv_at hl 0 rfl) ?_
  refine lv_if_ge (tgt := 23) hx hb dX7_read_9 (by decide) (fun c_9 => ?_) (fun c_9 => ?_)
  · have hm := it_s c_9 hm
    refine lv_aload_n hx hb dX7_read_23 rfl (lv_at hl 1 rfl) ?_
    refine gf_X7_40 (v := .ref AT_rd) hx hb hts hown hK hN hP 0 rfl rfl dX7_read_24 ?_
    refine lv_aload_n hx hb dX7_read_27 rfl (lv_at hl 1 rfl) ?_
    refine gf_X7_17 (v := .ref AT_he) hx hb hts hown hK hN hP 0 rfl rfl dX7_read_28 ?_
    obtain ⟨r_31, hc_31, hm⟩ := ob_s hm
    refine q_cv (q_rv (rest := []) ⟨hx, hb, hml, hown, hts⟩ hK hN hP hD (c_X5_doItems l D cI cZ H.size AT_rd AT_he AT_tx AT_rd_tk AT_rd_it AT_he_sl AT_he_fl AT_he_ro AT_he_nt AT_he_mk AT_he_mo AT_he_sl_c AT_he_fl_c AT_he_ro_c AT_he_nt_c AT_he_mk_c AT_he_mo_c AT_rd_it_c r_4.2.1 r_4.2.2.1 r_4.2.2.2.1 r_4.2.2.2.2.1 vT_he_ng vT_he_sl_n vT_he_fl_n vT_he_ro_n vT_he_nt_n vT_he_mk_n vT_he_mo_n r_4.2.2.2.2.2.2.2.1 r_4.2.2.2.2.2.2.2.2 fT_he_sl_c fT_he_fl_c r_31 hc_31) mb_X5_doItems mv_X5_doItems wl_X7_116 [1, 8, 9, 10, 11, 12, 13, 14, 6, 7, 15, 16] rfl rfl rfl (Nat.le_of_ble_eq_true rfl) (Nat.le_of_ble_eq_true rfl) rfl hl.1 rfl (Nat.le_of_ble_eq_true rfl) ⟨Nat.le_refl 0, Nat.le_refl 0⟩ dX7_read_31) hP hD hS hA [1, 8, 9, 10, 11, 12, 13, 14, 6, 7, 15, 16] rfl rfl (fun H locs hP hD hS => ?_)
    have hP : va_P D vwCl (wd_X7_read cI cZ AT AT_he AT_iz AT_io AT_tx AT_rd AT_fo AT_fi AT_rd_tk AT_rd_it AT_rd_tk_c AT_tx_c AT_rd_it_c AT_he_sl AT_he_fl AT_he_ro AT_he_nt AT_he_mk AT_he_mo AT_he_sl_c AT_he_fl_c AT_he_ro_c AT_he_nt_c AT_he_mk_c AT_he_mo_c vT_ab vT_be vT_bo vT_no vT_fu r_4.2.1 r_4.2.2.1 r_4.2.2.2.1 r_4.2.2.2.2.1 r_4.2.2.2.2.2.1 vT_tx_n r_4.2.2.2.2.2.2.1 fT_tx_c r_4.2.2.2.2.2.2.2.1 r_4.2.2.2.2.2.2.2.2 r_31.1 r_31.2.1 r_31.2.2.1 r_31.2.2.2.1 r_31.2.2.2.2.1 r_31.2.2.2.2.2.1 r_31.2.2.2.2.2.2.1 r_31.2.2.2.2.2.2.2.1 r_31.2.2.2.2.2.2.2.2) H := hP
    have hD : va_D A (wd_X7_read cI cZ AT AT_he AT_iz AT_io AT_tx AT_rd AT_fo AT_fi AT_rd_tk AT_rd_it AT_rd_tk_c AT_tx_c AT_rd_it_c AT_he_sl AT_he_fl AT_he_ro AT_he_nt AT_he_mk AT_he_mo AT_he_sl_c AT_he_fl_c AT_he_ro_c AT_he_nt_c AT_he_mk_c AT_he_mo_c vT_ab vT_be vT_bo vT_no vT_fu r_4.2.1 r_4.2.2.1 r_4.2.2.2.1 r_4.2.2.2.2.1 r_4.2.2.2.2.2.1 vT_tx_n r_4.2.2.2.2.2.2.1 fT_tx_c r_4.2.2.2.2.2.2.2.1 r_4.2.2.2.2.2.2.2.2 r_31.1 r_31.2.1 r_31.2.2.1 r_31.2.2.2.1 r_31.2.2.2.2.1 r_31.2.2.2.2.2.1 r_31.2.2.2.2.2.2.1 r_31.2.2.2.2.2.2.2.1 r_31.2.2.2.2.2.2.2.2) := hD
    refine lv_iload_n hx hb dX7_read_34 rfl (lv_at hl 0 rfl) ?_
    have hm := Option.some.inj hm
    subst hm
    exact q_iret (v := r_4.1) hx hb hr hlocks hP hS dX7_read_35
  · have hm := it_n c_9 hm
    refine lv_bipush (v := (-10)) hx hb dX7_read_12 (by decide) ?_
    refine lv_aload_n hx hb dX7_read_14 rfl (lv_at hl 1 rfl) ?_
    refine gf_X7_40 (v := .ref AT_rd) hx hb hts hown hK hN hP 0 rfl rfl dX7_read_15 ?_
    obtain ⟨r_18, hc_18, hm⟩ := ob_s hm
    refine q_ci (q_rv (rest := [.int (-10)]) ⟨hx, hb, hml, hown, hts⟩ hK hN hP hD (c_X5_fault l D cI cZ H.size AT_rd AT_tx AT_rd_tk AT_rd_it AT_rd_tk_c r_4.2.1 r_4.2.2.1 r_4.2.2.2.1 r_4.2.2.2.2.1 r_4.2.2.2.2.2.1 r_4.2.2.2.2.2.2.1 r_18 hc_18) mb_X5_fault mv_X5_fault wl_X7_113 [1, 2, 4] rfl rfl rfl (Nat.le_of_ble_eq_true rfl) (Nat.le_of_ble_eq_true rfl) rfl hl.1 rfl (Nat.le_of_ble_eq_true rfl) ⟨Nat.le_refl 0, Nat.le_refl 0⟩ dX7_read_18) hP hD hS hA [1, 2, 4] rfl rfl (fun H locs hP hD hS => ?_)
    have hP : va_P D vwCl (wd_X7_read cI cZ AT AT_he AT_iz AT_io AT_tx AT_rd AT_fo AT_fi AT_rd_tk AT_rd_it AT_rd_tk_c AT_tx_c AT_rd_it_c AT_he_sl AT_he_fl AT_he_ro AT_he_nt AT_he_mk AT_he_mo AT_he_sl_c AT_he_fl_c AT_he_ro_c AT_he_nt_c AT_he_mk_c AT_he_mo_c vT_ab vT_be vT_bo vT_no vT_fu r_4.2.1 r_4.2.2.1 r_4.2.2.2.1 r_4.2.2.2.2.1 r_4.2.2.2.2.2.1 vT_tx_n r_4.2.2.2.2.2.2.1 fT_tx_c r_4.2.2.2.2.2.2.2.1 r_4.2.2.2.2.2.2.2.2 vT_he_ng vT_he_sl_n vT_he_fl_n vT_he_ro_n vT_he_nt_n vT_he_mk_n vT_he_mo_n fT_he_sl_c fT_he_fl_c) H := hP
    have hD : va_D A (wd_X7_read cI cZ AT AT_he AT_iz AT_io AT_tx AT_rd AT_fo AT_fi AT_rd_tk AT_rd_it AT_rd_tk_c AT_tx_c AT_rd_it_c AT_he_sl AT_he_fl AT_he_ro AT_he_nt AT_he_mk AT_he_mo AT_he_sl_c AT_he_fl_c AT_he_ro_c AT_he_nt_c AT_he_mk_c AT_he_mo_c vT_ab vT_be vT_bo vT_no vT_fu r_4.2.1 r_4.2.2.1 r_4.2.2.2.1 r_4.2.2.2.2.1 r_4.2.2.2.2.2.1 vT_tx_n r_4.2.2.2.2.2.2.1 fT_tx_c r_4.2.2.2.2.2.2.2.1 r_4.2.2.2.2.2.2.2.2 vT_he_ng vT_he_sl_n vT_he_fl_n vT_he_ro_n vT_he_nt_n vT_he_mk_n vT_he_mo_n fT_he_sl_c fT_he_fl_c) := hD
    refine lv_isub hx hb dX7_read_21 ?_
    have hm := Option.some.inj hm
    subst hm
    exact q_iret (v := ((-10) - r_18)) hx hb hr hlocks hP hS dX7_read_22
theorem mb_X7_nights : q_mb yX7_nights cX7_nights 2 (some .int) 1 := ⟨wc_X7_nights, wn_X7, by decide, by decide, by decide +kernel⟩
theorem mv_X7_nights : q_mv yX7_nights 7 := ⟨wi_X7_nights, ws_X7_nights, _, rfl, rfl⟩
def wd_X7_nights (cI cZ : ClassId) (AT AT_he AT_iz AT_io AT_tx AT_rd AT_fo AT_fi AT_he_sl AT_he_fl AT_he_ro AT_he_nt AT_he_mk AT_he_mo AT_he_mo_c AT_he_sl_c AT_he_fl_c : Nat) (vT_ab : Int32) (vT_be : Int32) (vT_bo : Int32) (vT_no : Int32) (vT_fu : Int32) (vT_he_ng : Int32) (vT_he_mo_n : Int32) (fT_he_mo_c : Nat → Int32) (vT_he_sl_n : Int32) (fT_he_sl_c : Nat → Int32) (vT_he_fl_n : Int32) (fT_he_fl_c : Nat → Int32) : va_W := [(AT, .inr (7, [.ref AT_he, .ref AT_iz, .ref AT_io, .ref AT_tx, .ref AT_rd, .ref AT_fo, .ref AT_fi, .int vT_ab, .int vT_be, .int vT_bo, .int vT_no, .int vT_fu])), (AT_he, .inr (4, [.ref AT_he_sl, .ref AT_he_fl, .ref AT_he_ro, .ref AT_he_nt, .ref AT_he_mk, .ref AT_he_mo, .int vT_he_ng])), (AT_he_mo, .inr (3, [.int 25, .ref AT_he_mo_c, .int vT_he_mo_n])), (AT_he_mo_c, .inl (cI, 200, .inl fT_he_mo_c)), (AT_he_sl, .inr (3, [.int 4, .ref AT_he_sl_c, .int vT_he_sl_n])), (AT_he_sl_c, .inl (cI, 24, .inl fT_he_sl_c)), (AT_he_fl, .inr (3, [.int 3, .ref AT_he_fl_c, .int vT_he_fl_n])), (AT_he_fl_c, .inl (cI, 18, .inl fT_he_fl_c))]
def fm_X7_nights (p1 : Int32) (vT_bo : Int32) (vT_no : Int32) (vT_fu : Int32) (vT_he_ng : Int32) (vT_he_mo_n : Int32) (fT_he_mo_c : Nat → Int32) (vT_he_sl_n : Int32) (fT_he_sl_c : Nat → Int32) (vT_he_fl_n : Int32) (fT_he_fl_c : Nat → Int32) : Option (Int32 × Int32 × Int32 × Int32 × Int32 × Int32 × (Nat → Int32) × (Nat → Int32)) := Option.bind (fm_X7_within p1 1 60) (fun r_4 => if r_4 = 0 then (Option.bind (fm_X7_refused (-2) vT_bo vT_no vT_fu) (fun r_13 => some (r_13.1, r_13.2.1, r_13.2.2.1, r_13.2.2.2, vT_he_ng, vT_he_mo_n, fT_he_mo_c, fT_he_sl_c))) else (Option.bind (fm_X4_remember vT_he_ng vT_he_mo_n fT_he_mo_c vT_he_sl_n fT_he_sl_c vT_he_fl_n fT_he_fl_c) (fun r_21 => Option.bind (fm_X4_passNights p1 vT_he_ng vT_he_sl_n fT_he_sl_c vT_he_fl_n fT_he_fl_c) (fun r_29 => Option.bind (fm_X4_doing vT_he_sl_n r_29.2) (fun r_36 => some (r_36, vT_bo, vT_no, vT_fu, r_29.1, r_21.1, r_21.2, r_29.2))))))
set_option maxHeartbeats 4000000 in
set_option maxRecDepth 100000 in
theorem c_X7_nights (l : Launch) (D : va_G) (cI cZ : ClassId) (sz : Nat) (AT AT_he AT_iz AT_io AT_tx AT_rd AT_fo AT_fi AT_he_sl AT_he_fl AT_he_ro AT_he_nt AT_he_mk AT_he_mo AT_he_mo_c AT_he_sl_c AT_he_fl_c : Nat) (vT_ab : Int32) (vT_be : Int32) (vT_bo : Int32) (vT_no : Int32) (vT_fu : Int32) (vT_he_ng : Int32) (vT_he_mo_n : Int32) (fT_he_mo_c : Nat → Int32) (vT_he_sl_n : Int32) (fT_he_sl_c : Nat → Int32) (vT_he_fl_n : Int32) (fT_he_fl_c : Nat → Int32) (p1 : Int32) (out : (Int32 × Int32 × Int32 × Int32 × Int32 × Int32 × (Nat → Int32) × (Nat → Int32))) (hm : fm_X7_nights p1 vT_bo vT_no vT_fu vT_he_ng vT_he_mo_n fT_he_mo_c vT_he_sl_n fT_he_sl_c vT_he_fl_n fT_he_fl_c = some out) : Met l yX7_nights (Cond.code yX7_nights cX7_nights 2 (some .int) :: bg) { frames := 5, cells := 0, slots := 0, locals := 119 } (va_Pc [.ref AT, .int p1] (q_pre D cI cZ sz (wd_X7_nights cI cZ AT AT_he AT_iz AT_io AT_tx AT_rd AT_fo AT_fi AT_he_sl AT_he_fl AT_he_ro AT_he_nt AT_he_mk AT_he_mo AT_he_mo_c AT_he_sl_c AT_he_fl_c vT_ab vT_be vT_bo vT_no vT_fu vT_he_ng vT_he_mo_n fT_he_mo_c vT_he_sl_n fT_he_sl_c vT_he_fl_n fT_he_fl_c))) (q_Qi D (wd_X7_nights cI cZ AT AT_he AT_iz AT_io AT_tx AT_rd AT_fo AT_fi AT_he_sl AT_he_fl AT_he_ro AT_he_nt AT_he_mk AT_he_mo AT_he_mo_c AT_he_sl_c AT_he_fl_c vT_ab vT_be out.2.1 out.2.2.1 out.2.2.2.1 out.2.2.2.2.1 out.2.2.2.2.2.1 out.2.2.2.2.2.2.1 vT_he_sl_n out.2.2.2.2.2.2.2 vT_he_fl_n fT_he_fl_c) out.1 (va_A (wd_X7_nights cI cZ AT AT_he AT_iz AT_io AT_tx AT_rd AT_fo AT_fi AT_he_sl AT_he_fl AT_he_ro AT_he_nt AT_he_mk AT_he_mo AT_he_mo_c AT_he_sl_c AT_he_fl_c vT_ab vT_be vT_bo vT_no vT_fu vT_he_ng vT_he_mo_n fT_he_mo_c vT_he_sl_n fT_he_sl_c vT_he_fl_n fT_he_fl_c) sz)) 0 0 (va_A (wd_X7_nights cI cZ AT AT_he AT_iz AT_io AT_tx AT_rd AT_fo AT_fi AT_he_sl AT_he_fl AT_he_ro AT_he_nt AT_he_mk AT_he_mo AT_he_mo_c AT_he_sl_c AT_he_fl_c vT_ab vT_be vT_bo vT_no vT_fu vT_he_ng vT_he_mo_n fT_he_mo_c vT_he_sl_n fT_he_sl_c vT_he_fl_n fT_he_fl_c) sz) := by
  refine q_met (fun A => q_Qi D (wd_X7_nights cI cZ AT AT_he AT_iz AT_io AT_tx AT_rd AT_fo AT_fi AT_he_sl AT_he_fl AT_he_ro AT_he_nt AT_he_mk AT_he_mo AT_he_mo_c AT_he_sl_c AT_he_fl_c vT_ab vT_be out.2.1 out.2.2.1 out.2.2.2.1 out.2.2.2.2.1 out.2.2.2.2.2.1 out.2.2.2.2.2.2.1 vT_he_sl_n out.2.2.2.2.2.2.2 vT_he_fl_n fT_he_fl_c) out.1 A) (by decide) (Nat.le_of_ble_eq_true rfl) ?_
  intro p e s m below meth c ls A hx hb hr hml hown hts hlocks _ hA hS hP hD hK hN hl
  have hown : s.vm.findClass RX7 = some m.cls := hown
  have hl : lv_has ls 2 [(0, .ref AT), (1, .int p1)] := hl
  unfold fm_X7_nights at hm
  refine q_gen hS hP ?_
  intro H locs hP hS
  refine lv_iload_n hx hb dX7_nights_0 rfl (lv_at hl 1 rfl) ?_
  refine lv_iconst (v := 1) hx hb dX7_nights_1 (by decide) ?_
  refine lv_bipush (v := 60) hx hb dX7_nights_2 (by decide) ?_
  obtain ⟨r_4, hc_4, hm⟩ := ob_s hm
  refine q_ci (q_rs (rest := []) ⟨hx, hb, hml, hown, hts⟩ hK hN hP hD (c_X7_within l D cI cZ H.size p1 1 60 r_4 hc_4) mb_X7_within wt_X7_within wl_X7_77 [] rfl rfl (Nat.le_of_ble_eq_true rfl) (Nat.le_of_ble_eq_true rfl) rfl hl.1 rfl (Nat.le_of_ble_eq_true rfl) ⟨Nat.le_refl 0, Nat.le_refl 0⟩ dX7_nights_4) hP hD hS hA [] rfl rfl (fun H locs hP hD hS => ?_)
  have hP : va_P D vwCl (wd_X7_nights cI cZ AT AT_he AT_iz AT_io AT_tx AT_rd AT_fo AT_fi AT_he_sl AT_he_fl AT_he_ro AT_he_nt AT_he_mk AT_he_mo AT_he_mo_c AT_he_sl_c AT_he_fl_c vT_ab vT_be vT_bo vT_no vT_fu vT_he_ng vT_he_mo_n fT_he_mo_c vT_he_sl_n fT_he_sl_c vT_he_fl_n fT_he_fl_c) H := hP
  have hD : va_D A (wd_X7_nights cI cZ AT AT_he AT_iz AT_io AT_tx AT_rd AT_fo AT_fi AT_he_sl AT_he_fl AT_he_ro AT_he_nt AT_he_mk AT_he_mo AT_he_mo_c AT_he_sl_c AT_he_fl_c vT_ab vT_be vT_bo vT_no vT_fu vT_he_ng vT_he_mo_n fT_he_mo_c vT_he_sl_n fT_he_sl_c vT_he_fl_n fT_he_fl_c) := hD
  refine lv_if_ne (tgt := 17) hx hb dX7_nights_7 (by decide) (fun c_7 => ?_) (fun c_7 => ?_)
  · have hm := it_n c_7 hm
    refine lv_aload_n hx hb dX7_nights_17 rfl (lv_at hl 0 rfl) ?_
    refine gf_X7_17 (v := .ref AT_he) hx hb hts hown hK hN hP 0 rfl rfl dX7_nights_18 ?_
    obtain ⟨r_21, hc_21, hm⟩ := ob_s hm
    refine q_cv (q_rv (rest := []) ⟨hx, hb, hml, hown, hts⟩ hK hN hP hD (c_X4_remember l D cI cZ H.size AT_he AT_he_sl AT_he_fl AT_he_ro AT_he_nt AT_he_mk AT_he_mo AT_he_mo_c AT_he_sl_c AT_he_fl_c vT_he_ng vT_he_mo_n fT_he_mo_c vT_he_sl_n fT_he_sl_c vT_he_fl_n fT_he_fl_c r_21 hc_21) mb_X4_remember mv_X4_remember wl_X7_119 [1, 2, 3, 4, 5, 6, 7] rfl rfl rfl (Nat.le_of_ble_eq_true rfl) (Nat.le_of_ble_eq_true rfl) rfl hl.1 rfl (Nat.le_of_ble_eq_true rfl) ⟨Nat.le_refl 0, Nat.le_refl 0⟩ dX7_nights_21) hP hD hS hA [1, 2, 3, 4, 5, 6, 7] rfl rfl (fun H locs hP hD hS => ?_)
    have hP : va_P D vwCl (wd_X7_nights cI cZ AT AT_he AT_iz AT_io AT_tx AT_rd AT_fo AT_fi AT_he_sl AT_he_fl AT_he_ro AT_he_nt AT_he_mk AT_he_mo AT_he_mo_c AT_he_sl_c AT_he_fl_c vT_ab vT_be vT_bo vT_no vT_fu vT_he_ng r_21.1 r_21.2 vT_he_sl_n fT_he_sl_c vT_he_fl_n fT_he_fl_c) H := hP
    have hD : va_D A (wd_X7_nights cI cZ AT AT_he AT_iz AT_io AT_tx AT_rd AT_fo AT_fi AT_he_sl AT_he_fl AT_he_ro AT_he_nt AT_he_mk AT_he_mo AT_he_mo_c AT_he_sl_c AT_he_fl_c vT_ab vT_be vT_bo vT_no vT_fu vT_he_ng r_21.1 r_21.2 vT_he_sl_n fT_he_sl_c vT_he_fl_n fT_he_fl_c) := hD
    refine lv_aload_n hx hb dX7_nights_24 rfl (lv_at hl 0 rfl) ?_
    refine gf_X7_17 (v := .ref AT_he) hx hb hts hown hK hN hP 0 rfl rfl dX7_nights_25 ?_
    refine lv_iload_n hx hb dX7_nights_28 rfl (lv_at hl 1 rfl) ?_
    obtain ⟨r_29, hc_29, hm⟩ := ob_s hm
    refine q_cv (q_rv (rest := []) ⟨hx, hb, hml, hown, hts⟩ hK hN hP hD (c_X4_passNights l D cI cZ H.size AT_he AT_he_sl AT_he_fl AT_he_ro AT_he_nt AT_he_mk AT_he_mo AT_he_sl_c AT_he_fl_c vT_he_ng vT_he_sl_n fT_he_sl_c vT_he_fl_n fT_he_fl_c p1 r_29 hc_29) mb_X4_passNights mv_X4_passNights wl_X7_122 [1, 4, 5, 6, 7] rfl rfl rfl (Nat.le_of_ble_eq_true rfl) (Nat.le_of_ble_eq_true rfl) rfl hl.1 rfl (Nat.le_of_ble_eq_true rfl) ⟨Nat.le_refl 0, Nat.le_refl 0⟩ dX7_nights_29) hP hD hS hA [1, 4, 5, 6, 7] rfl rfl (fun H locs hP hD hS => ?_)
    have hP : va_P D vwCl (wd_X7_nights cI cZ AT AT_he AT_iz AT_io AT_tx AT_rd AT_fo AT_fi AT_he_sl AT_he_fl AT_he_ro AT_he_nt AT_he_mk AT_he_mo AT_he_mo_c AT_he_sl_c AT_he_fl_c vT_ab vT_be vT_bo vT_no vT_fu r_29.1 r_21.1 r_21.2 vT_he_sl_n r_29.2 vT_he_fl_n fT_he_fl_c) H := hP
    have hD : va_D A (wd_X7_nights cI cZ AT AT_he AT_iz AT_io AT_tx AT_rd AT_fo AT_fi AT_he_sl AT_he_fl AT_he_ro AT_he_nt AT_he_mk AT_he_mo AT_he_mo_c AT_he_sl_c AT_he_fl_c vT_ab vT_be vT_bo vT_no vT_fu r_29.1 r_21.1 r_21.2 vT_he_sl_n r_29.2 vT_he_fl_n fT_he_fl_c) := hD
    refine lv_aload_n hx hb dX7_nights_32 rfl (lv_at hl 0 rfl) ?_
    refine gf_X7_17 (v := .ref AT_he) hx hb hts hown hK hN hP 0 rfl rfl dX7_nights_33 ?_
    obtain ⟨r_36, hc_36, hm⟩ := ob_s hm
    refine q_ci (q_rv (rest := []) ⟨hx, hb, hml, hown, hts⟩ hK hN hP hD (c_X4_doing l D cI cZ H.size AT_he AT_he_sl AT_he_fl AT_he_ro AT_he_nt AT_he_mk AT_he_mo AT_he_sl_c r_29.1 vT_he_sl_n r_29.2 r_36 hc_36) mb_X4_doing mv_X4_doing wl_X7_126 [1, 4, 5] rfl rfl rfl (Nat.le_of_ble_eq_true rfl) (Nat.le_of_ble_eq_true rfl) rfl hl.1 rfl (Nat.le_of_ble_eq_true rfl) ⟨Nat.le_refl 0, Nat.le_refl 0⟩ dX7_nights_36) hP hD hS hA [1, 4, 5] rfl rfl (fun H locs hP hD hS => ?_)
    have hP : va_P D vwCl (wd_X7_nights cI cZ AT AT_he AT_iz AT_io AT_tx AT_rd AT_fo AT_fi AT_he_sl AT_he_fl AT_he_ro AT_he_nt AT_he_mk AT_he_mo AT_he_mo_c AT_he_sl_c AT_he_fl_c vT_ab vT_be vT_bo vT_no vT_fu r_29.1 r_21.1 r_21.2 vT_he_sl_n r_29.2 vT_he_fl_n fT_he_fl_c) H := hP
    have hD : va_D A (wd_X7_nights cI cZ AT AT_he AT_iz AT_io AT_tx AT_rd AT_fo AT_fi AT_he_sl AT_he_fl AT_he_ro AT_he_nt AT_he_mk AT_he_mo AT_he_mo_c AT_he_sl_c AT_he_fl_c vT_ab vT_be vT_bo vT_no vT_fu r_29.1 r_21.1 r_21.2 vT_he_sl_n r_29.2 vT_he_fl_n fT_he_fl_c) := hD
    have hm := Option.some.inj hm
    subst hm
    exact q_iret (v := r_36) hx hb hr hlocks hP hS dX7_nights_39
  · have hm := it_s c_7 hm
    refine lv_aload_n hx hb dX7_nights_10 rfl (lv_at hl 0 rfl) ?_
    refine lv_bipush (v := (-2)) hx hb dX7_nights_11 (by decide) ?_
    obtain ⟨r_13, hc_13, hm⟩ := ob_s hm
    refine q_ci (q_rv (rest := []) ⟨hx, hb, hml, hown, hts⟩ hK hN hP hD (c_X7_refused l D cI cZ H.size AT AT_he AT_iz AT_io AT_tx AT_rd AT_fo AT_fi vT_ab vT_be vT_bo vT_no vT_fu (-2) r_13 hc_13) mb_X7_refused mv_X7_refused wl_X7_81 [0] rfl rfl rfl (Nat.le_of_ble_eq_true rfl) (Nat.le_of_ble_eq_true rfl) rfl hl.1 rfl (Nat.le_of_ble_eq_true rfl) ⟨Nat.le_refl 0, Nat.le_refl 0⟩ dX7_nights_13) hP hD hS hA [0] rfl rfl (fun H locs hP hD hS => ?_)
    have hP : va_P D vwCl (wd_X7_nights cI cZ AT AT_he AT_iz AT_io AT_tx AT_rd AT_fo AT_fi AT_he_sl AT_he_fl AT_he_ro AT_he_nt AT_he_mk AT_he_mo AT_he_mo_c AT_he_sl_c AT_he_fl_c vT_ab vT_be r_13.2.1 r_13.2.2.1 r_13.2.2.2 vT_he_ng vT_he_mo_n fT_he_mo_c vT_he_sl_n fT_he_sl_c vT_he_fl_n fT_he_fl_c) H := hP
    have hD : va_D A (wd_X7_nights cI cZ AT AT_he AT_iz AT_io AT_tx AT_rd AT_fo AT_fi AT_he_sl AT_he_fl AT_he_ro AT_he_nt AT_he_mk AT_he_mo AT_he_mo_c AT_he_sl_c AT_he_fl_c vT_ab vT_be r_13.2.1 r_13.2.2.1 r_13.2.2.2 vT_he_ng vT_he_mo_n fT_he_mo_c vT_he_sl_n fT_he_sl_c vT_he_fl_n fT_he_fl_c) := hD
    have hm := Option.some.inj hm
    subst hm
    exact q_iret (v := r_13.1) hx hb hr hlocks hP hS dX7_nights_16
theorem mb_X7_swaps : q_mb yX7_swaps cX7_swaps 4 (some .int) 2 := ⟨wc_X7_swaps, wn_X7, by decide, by decide, by decide +kernel⟩
theorem mv_X7_swaps : q_mv yX7_swaps 7 := ⟨wi_X7_swaps, ws_X7_swaps, _, rfl, rfl⟩
def wd_X7_swaps (cI cZ : ClassId) (AT AT_he AT_iz AT_io AT_tx AT_rd AT_fo AT_fi AT_he_sl AT_he_fl AT_he_ro AT_he_nt AT_he_mk AT_he_mo AT_he_sl_c AT_he_mo_c AT_he_fl_c : Nat) (vT_ab : Int32) (vT_be : Int32) (vT_bo : Int32) (vT_no : Int32) (vT_fu : Int32) (vT_he_ng : Int32) (vT_he_sl_n : Int32) (fT_he_sl_c : Nat → Int32) (vT_he_mo_n : Int32) (fT_he_mo_c : Nat → Int32) (vT_he_fl_n : Int32) (fT_he_fl_c : Nat → Int32) : va_W := [(AT, .inr (7, [.ref AT_he, .ref AT_iz, .ref AT_io, .ref AT_tx, .ref AT_rd, .ref AT_fo, .ref AT_fi, .int vT_ab, .int vT_be, .int vT_bo, .int vT_no, .int vT_fu])), (AT_he, .inr (4, [.ref AT_he_sl, .ref AT_he_fl, .ref AT_he_ro, .ref AT_he_nt, .ref AT_he_mk, .ref AT_he_mo, .int vT_he_ng])), (AT_he_sl, .inr (3, [.int 4, .ref AT_he_sl_c, .int vT_he_sl_n])), (AT_he_sl_c, .inl (cI, 24, .inl fT_he_sl_c)), (AT_he_mo, .inr (3, [.int 25, .ref AT_he_mo_c, .int vT_he_mo_n])), (AT_he_mo_c, .inl (cI, 200, .inl fT_he_mo_c)), (AT_he_fl, .inr (3, [.int 3, .ref AT_he_fl_c, .int vT_he_fl_n])), (AT_he_fl_c, .inl (cI, 18, .inl fT_he_fl_c))]
def fm_X7_swaps (p1 : Int32) (p2 : Int32) (vT_bo : Int32) (vT_no : Int32) (vT_fu : Int32) (vT_he_ng : Int32) (vT_he_sl_n : Int32) (fT_he_sl_c : Nat → Int32) (vT_he_mo_n : Int32) (fT_he_mo_c : Nat → Int32) (vT_he_fl_n : Int32) (fT_he_fl_c : Nat → Int32) : Option (Int32 × Int32 × Int32 × Int32 × (Nat → Int32) × Int32 × (Nat → Int32)) := Option.bind (fm_X7_isPillow p1) (fun r_1 => if r_1 = 0 then (Option.bind (fm_X7_refused (-2) vT_bo vT_no vT_fu) (fun r_22 => some (r_22.1, r_22.2.1, r_22.2.2.1, r_22.2.2.2, fT_he_sl_c, vT_he_mo_n, fT_he_mo_c))) else (Option.bind (fm_X7_isPillow p2) (fun r_8 => if r_8 = 0 then (Option.bind (fm_X7_refused (-2) vT_bo vT_no vT_fu) (fun r_22 => some (r_22.1, r_22.2.1, r_22.2.2.1, r_22.2.2.2, fT_he_sl_c, vT_he_mo_n, fT_he_mo_c))) else (if p1 = p2 then (Option.bind (fm_X7_refused (-2) vT_bo vT_no vT_fu) (fun r_22 => some (r_22.1, r_22.2.1, r_22.2.2.1, r_22.2.2.2, fT_he_sl_c, vT_he_mo_n, fT_he_mo_c))) else (Option.bind (fm_X4_sleeperOn p1 vT_he_sl_n fT_he_sl_c) (fun r_31 => if r_31 = (-1) then (Option.bind (fm_X4_sleeperOn p2 vT_he_sl_n fT_he_sl_c) (fun r_48 => if r_48 = (-1) then (Option.bind (fm_X7_refused (-3) vT_bo vT_no vT_fu) (fun r_69 => some (r_69.1, r_69.2.1, r_69.2.2.1, r_69.2.2.2, fT_he_sl_c, vT_he_mo_n, fT_he_mo_c))) else (Option.bind (fm_X4_remember vT_he_ng vT_he_mo_n fT_he_mo_c vT_he_sl_n fT_he_sl_c vT_he_fl_n fT_he_fl_c) (fun r_77 => Option.bind (fm_X4_changePillows p1 p2 vT_he_sl_n fT_he_sl_c) (fun r_86 => some ((0 + 1), vT_bo, vT_no, vT_fu, r_86, r_77.1, r_77.2)))))) else (Option.bind (fm_X4_sleeperOn p2 vT_he_sl_n fT_he_sl_c) (fun r_48 => if r_48 = (-1) then (Option.bind (fm_X4_remember vT_he_ng vT_he_mo_n fT_he_mo_c vT_he_sl_n fT_he_sl_c vT_he_fl_n fT_he_fl_c) (fun r_77 => Option.bind (fm_X4_changePillows p1 p2 vT_he_sl_n fT_he_sl_c) (fun r_86 => some ((1 + 0), vT_bo, vT_no, vT_fu, r_86, r_77.1, r_77.2)))) else (Option.bind (fm_X4_remember vT_he_ng vT_he_mo_n fT_he_mo_c vT_he_sl_n fT_he_sl_c vT_he_fl_n fT_he_fl_c) (fun r_77 => Option.bind (fm_X4_changePillows p1 p2 vT_he_sl_n fT_he_sl_c) (fun r_86 => some ((1 + 1), vT_bo, vT_no, vT_fu, r_86, r_77.1, r_77.2))))))))))))
set_option maxHeartbeats 4000000 in
set_option maxRecDepth 100000 in
theorem c_X7_swaps (l : Launch) (D : va_G) (cI cZ : ClassId) (sz : Nat) (AT AT_he AT_iz AT_io AT_tx AT_rd AT_fo AT_fi AT_he_sl AT_he_fl AT_he_ro AT_he_nt AT_he_mk AT_he_mo AT_he_sl_c AT_he_mo_c AT_he_fl_c : Nat) (vT_ab : Int32) (vT_be : Int32) (vT_bo : Int32) (vT_no : Int32) (vT_fu : Int32) (vT_he_ng : Int32) (vT_he_sl_n : Int32) (fT_he_sl_c : Nat → Int32) (vT_he_mo_n : Int32) (fT_he_mo_c : Nat → Int32) (vT_he_fl_n : Int32) (fT_he_fl_c : Nat → Int32) (p1 : Int32) (p2 : Int32) (out : (Int32 × Int32 × Int32 × Int32 × (Nat → Int32) × Int32 × (Nat → Int32))) (hm : fm_X7_swaps p1 p2 vT_bo vT_no vT_fu vT_he_ng vT_he_sl_n fT_he_sl_c vT_he_mo_n fT_he_mo_c vT_he_fl_n fT_he_fl_c = some out) : Met l yX7_swaps (Cond.code yX7_swaps cX7_swaps 4 (some .int) :: bg) { frames := 3, cells := 0, slots := 0, locals := 71 } (va_Pc [.ref AT, .int p1, .int p2] (q_pre D cI cZ sz (wd_X7_swaps cI cZ AT AT_he AT_iz AT_io AT_tx AT_rd AT_fo AT_fi AT_he_sl AT_he_fl AT_he_ro AT_he_nt AT_he_mk AT_he_mo AT_he_sl_c AT_he_mo_c AT_he_fl_c vT_ab vT_be vT_bo vT_no vT_fu vT_he_ng vT_he_sl_n fT_he_sl_c vT_he_mo_n fT_he_mo_c vT_he_fl_n fT_he_fl_c))) (q_Qi D (wd_X7_swaps cI cZ AT AT_he AT_iz AT_io AT_tx AT_rd AT_fo AT_fi AT_he_sl AT_he_fl AT_he_ro AT_he_nt AT_he_mk AT_he_mo AT_he_sl_c AT_he_mo_c AT_he_fl_c vT_ab vT_be out.2.1 out.2.2.1 out.2.2.2.1 vT_he_ng vT_he_sl_n out.2.2.2.2.1 out.2.2.2.2.2.1 out.2.2.2.2.2.2 vT_he_fl_n fT_he_fl_c) out.1 (va_A (wd_X7_swaps cI cZ AT AT_he AT_iz AT_io AT_tx AT_rd AT_fo AT_fi AT_he_sl AT_he_fl AT_he_ro AT_he_nt AT_he_mk AT_he_mo AT_he_sl_c AT_he_mo_c AT_he_fl_c vT_ab vT_be vT_bo vT_no vT_fu vT_he_ng vT_he_sl_n fT_he_sl_c vT_he_mo_n fT_he_mo_c vT_he_fl_n fT_he_fl_c) sz)) 0 0 (va_A (wd_X7_swaps cI cZ AT AT_he AT_iz AT_io AT_tx AT_rd AT_fo AT_fi AT_he_sl AT_he_fl AT_he_ro AT_he_nt AT_he_mk AT_he_mo AT_he_sl_c AT_he_mo_c AT_he_fl_c vT_ab vT_be vT_bo vT_no vT_fu vT_he_ng vT_he_sl_n fT_he_sl_c vT_he_mo_n fT_he_mo_c vT_he_fl_n fT_he_fl_c) sz) := by
  refine q_met (fun A => q_Qi D (wd_X7_swaps cI cZ AT AT_he AT_iz AT_io AT_tx AT_rd AT_fo AT_fi AT_he_sl AT_he_fl AT_he_ro AT_he_nt AT_he_mk AT_he_mo AT_he_sl_c AT_he_mo_c AT_he_fl_c vT_ab vT_be out.2.1 out.2.2.1 out.2.2.2.1 vT_he_ng vT_he_sl_n out.2.2.2.2.1 out.2.2.2.2.2.1 out.2.2.2.2.2.2 vT_he_fl_n fT_he_fl_c) out.1 A) (by decide) (Nat.le_of_ble_eq_true rfl) ?_
  intro p e s m below meth c ls A hx hb hr hml hown hts hlocks _ hA hS hP hD hK hN hl
  have hown : s.vm.findClass RX7 = some m.cls := hown
  have hl : lv_has ls 4 [(0, .ref AT), (1, .int p1), (2, .int p2)] := hl
  unfold fm_X7_swaps at hm
  refine q_gen hS hP ?_
  intro H locs hP hS
  refine lv_iload_n hx hb dX7_swaps_0 rfl (lv_at hl 1 rfl) ?_
  obtain ⟨r_1, hc_1, hm⟩ := ob_s hm
  refine q_ci (q_rs (rest := []) ⟨hx, hb, hml, hown, hts⟩ hK hN hP hD (c_X7_isPillow l D cI cZ H.size p1 r_1 hc_1) mb_X7_isPillow wt_X7_isPillow wl_X7_92 [] rfl rfl (Nat.le_of_ble_eq_true rfl) (Nat.le_of_ble_eq_true rfl) rfl hl.1 rfl (Nat.le_of_ble_eq_true rfl) ⟨Nat.le_refl 0, Nat.le_refl 0⟩ dX7_swaps_1) hP hD hS hA [] rfl rfl (fun H locs hP hD hS => ?_)
  have hP : va_P D vwCl (wd_X7_swaps cI cZ AT AT_he AT_iz AT_io AT_tx AT_rd AT_fo AT_fi AT_he_sl AT_he_fl AT_he_ro AT_he_nt AT_he_mk AT_he_mo AT_he_sl_c AT_he_mo_c AT_he_fl_c vT_ab vT_be vT_bo vT_no vT_fu vT_he_ng vT_he_sl_n fT_he_sl_c vT_he_mo_n fT_he_mo_c vT_he_fl_n fT_he_fl_c) H := hP
  have hD : va_D A (wd_X7_swaps cI cZ AT AT_he AT_iz AT_io AT_tx AT_rd AT_fo AT_fi AT_he_sl AT_he_fl AT_he_ro AT_he_nt AT_he_mk AT_he_mo AT_he_sl_c AT_he_mo_c AT_he_fl_c vT_ab vT_be vT_bo vT_no vT_fu vT_he_ng vT_he_sl_n fT_he_sl_c vT_he_mo_n fT_he_mo_c vT_he_fl_n fT_he_fl_c) := hD
  refine lv_if_eq (tgt := 19) hx hb dX7_swaps_4 (by decide) (fun c_4 => ?_) (fun c_4 => ?_)
  · have hm := it_s c_4 hm
    refine lv_aload_n hx hb dX7_swaps_19 rfl (lv_at hl 0 rfl) ?_
    refine lv_bipush (v := (-2)) hx hb dX7_swaps_20 (by decide) ?_
    obtain ⟨r_22, hc_22, hm⟩ := ob_s hm
    refine q_ci (q_rv (rest := []) ⟨hx, hb, hml, hown, hts⟩ hK hN hP hD (c_X7_refused l D cI cZ H.size AT AT_he AT_iz AT_io AT_tx AT_rd AT_fo AT_fi vT_ab vT_be vT_bo vT_no vT_fu (-2) r_22 hc_22) mb_X7_refused mv_X7_refused wl_X7_81 [0] rfl rfl rfl (Nat.le_of_ble_eq_true rfl) (Nat.le_of_ble_eq_true rfl) rfl hl.1 rfl (Nat.le_of_ble_eq_true rfl) ⟨Nat.le_refl 0, Nat.le_refl 0⟩ dX7_swaps_22) hP hD hS hA [0] rfl rfl (fun H locs hP hD hS => ?_)
    have hP : va_P D vwCl (wd_X7_swaps cI cZ AT AT_he AT_iz AT_io AT_tx AT_rd AT_fo AT_fi AT_he_sl AT_he_fl AT_he_ro AT_he_nt AT_he_mk AT_he_mo AT_he_sl_c AT_he_mo_c AT_he_fl_c vT_ab vT_be r_22.2.1 r_22.2.2.1 r_22.2.2.2 vT_he_ng vT_he_sl_n fT_he_sl_c vT_he_mo_n fT_he_mo_c vT_he_fl_n fT_he_fl_c) H := hP
    have hD : va_D A (wd_X7_swaps cI cZ AT AT_he AT_iz AT_io AT_tx AT_rd AT_fo AT_fi AT_he_sl AT_he_fl AT_he_ro AT_he_nt AT_he_mk AT_he_mo AT_he_sl_c AT_he_mo_c AT_he_fl_c vT_ab vT_be r_22.2.1 r_22.2.2.1 r_22.2.2.2 vT_he_ng vT_he_sl_n fT_he_sl_c vT_he_mo_n fT_he_mo_c vT_he_fl_n fT_he_fl_c) := hD
    have hm := Option.some.inj hm
    subst hm
    exact q_iret (v := r_22.1) hx hb hr hlocks hP hS dX7_swaps_25
  · have hm := it_n c_4 hm
    refine lv_iload_n hx hb dX7_swaps_7 rfl (lv_at hl 2 rfl) ?_
    obtain ⟨r_8, hc_8, hm⟩ := ob_s hm
    refine q_ci (q_rs (rest := []) ⟨hx, hb, hml, hown, hts⟩ hK hN hP hD (c_X7_isPillow l D cI cZ H.size p2 r_8 hc_8) mb_X7_isPillow wt_X7_isPillow wl_X7_92 [] rfl rfl (Nat.le_of_ble_eq_true rfl) (Nat.le_of_ble_eq_true rfl) rfl hl.1 rfl (Nat.le_of_ble_eq_true rfl) ⟨Nat.le_refl 0, Nat.le_refl 0⟩ dX7_swaps_8) hP hD hS hA [] rfl rfl (fun H locs hP hD hS => ?_)
    have hP : va_P D vwCl (wd_X7_swaps cI cZ AT AT_he AT_iz AT_io AT_tx AT_rd AT_fo AT_fi AT_he_sl AT_he_fl AT_he_ro AT_he_nt AT_he_mk AT_he_mo AT_he_sl_c AT_he_mo_c AT_he_fl_c vT_ab vT_be vT_bo vT_no vT_fu vT_he_ng vT_he_sl_n fT_he_sl_c vT_he_mo_n fT_he_mo_c vT_he_fl_n fT_he_fl_c) H := hP
    have hD : va_D A (wd_X7_swaps cI cZ AT AT_he AT_iz AT_io AT_tx AT_rd AT_fo AT_fi AT_he_sl AT_he_fl AT_he_ro AT_he_nt AT_he_mk AT_he_mo AT_he_sl_c AT_he_mo_c AT_he_fl_c vT_ab vT_be vT_bo vT_no vT_fu vT_he_ng vT_he_sl_n fT_he_sl_c vT_he_mo_n fT_he_mo_c vT_he_fl_n fT_he_fl_c) := hD
    refine lv_if_eq (tgt := 19) hx hb dX7_swaps_11 (by decide) (fun c_11 => ?_) (fun c_11 => ?_)
    · have hm := it_s c_11 hm
      refine lv_aload_n hx hb dX7_swaps_19 rfl (lv_at hl 0 rfl) ?_
      refine lv_bipush (v := (-2)) hx hb dX7_swaps_20 (by decide) ?_
      obtain ⟨r_22, hc_22, hm⟩ := ob_s hm
      refine q_ci (q_rv (rest := []) ⟨hx, hb, hml, hown, hts⟩ hK hN hP hD (c_X7_refused l D cI cZ H.size AT AT_he AT_iz AT_io AT_tx AT_rd AT_fo AT_fi vT_ab vT_be vT_bo vT_no vT_fu (-2) r_22 hc_22) mb_X7_refused mv_X7_refused wl_X7_81 [0] rfl rfl rfl (Nat.le_of_ble_eq_true rfl) (Nat.le_of_ble_eq_true rfl) rfl hl.1 rfl (Nat.le_of_ble_eq_true rfl) ⟨Nat.le_refl 0, Nat.le_refl 0⟩ dX7_swaps_22) hP hD hS hA [0] rfl rfl (fun H locs hP hD hS => ?_)
      have hP : va_P D vwCl (wd_X7_swaps cI cZ AT AT_he AT_iz AT_io AT_tx AT_rd AT_fo AT_fi AT_he_sl AT_he_fl AT_he_ro AT_he_nt AT_he_mk AT_he_mo AT_he_sl_c AT_he_mo_c AT_he_fl_c vT_ab vT_be r_22.2.1 r_22.2.2.1 r_22.2.2.2 vT_he_ng vT_he_sl_n fT_he_sl_c vT_he_mo_n fT_he_mo_c vT_he_fl_n fT_he_fl_c) H := hP
      have hD : va_D A (wd_X7_swaps cI cZ AT AT_he AT_iz AT_io AT_tx AT_rd AT_fo AT_fi AT_he_sl AT_he_fl AT_he_ro AT_he_nt AT_he_mk AT_he_mo AT_he_sl_c AT_he_mo_c AT_he_fl_c vT_ab vT_be r_22.2.1 r_22.2.2.1 r_22.2.2.2 vT_he_ng vT_he_sl_n fT_he_sl_c vT_he_mo_n fT_he_mo_c vT_he_fl_n fT_he_fl_c) := hD
      have hm := Option.some.inj hm
      subst hm
      exact q_iret (v := r_22.1) hx hb hr hlocks hP hS dX7_swaps_25
    · have hm := it_n c_11 hm
      refine lv_iload_n hx hb dX7_swaps_14 rfl (lv_at hl 1 rfl) ?_
      refine lv_iload_n hx hb dX7_swaps_15 rfl (lv_at hl 2 rfl) ?_
      refine lv_icmp_ne (tgt := 26) hx hb dX7_swaps_16 (by decide) (fun c_16 => ?_) (fun c_16 => ?_)
      · have hm := it_n c_16 hm
        refine lv_aload_n hx hb dX7_swaps_26 rfl (lv_at hl 0 rfl) ?_
        refine gf_X7_17 (v := .ref AT_he) hx hb hts hown hK hN hP 0 rfl rfl dX7_swaps_27 ?_
        refine lv_iload_n hx hb dX7_swaps_30 rfl (lv_at hl 1 rfl) ?_
        obtain ⟨r_31, hc_31, hm⟩ := ob_s hm
        refine q_ci (q_rv (rest := []) ⟨hx, hb, hml, hown, hts⟩ hK hN hP hD (c_X4_sleeperOn l D cI cZ H.size AT_he AT_he_sl AT_he_fl AT_he_ro AT_he_nt AT_he_mk AT_he_mo AT_he_sl_c vT_he_ng vT_he_sl_n fT_he_sl_c p1 r_31 hc_31) mb_X4_sleeperOn mv_X4_sleeperOn wl_X7_129 [1, 2, 3] rfl rfl rfl (Nat.le_of_ble_eq_true rfl) (Nat.le_of_ble_eq_true rfl) rfl hl.1 rfl (Nat.le_of_ble_eq_true rfl) ⟨Nat.le_refl 0, Nat.le_refl 0⟩ dX7_swaps_31) hP hD hS hA [1, 2, 3] rfl rfl (fun H locs hP hD hS => ?_)
        have hP : va_P D vwCl (wd_X7_swaps cI cZ AT AT_he AT_iz AT_io AT_tx AT_rd AT_fo AT_fi AT_he_sl AT_he_fl AT_he_ro AT_he_nt AT_he_mk AT_he_mo AT_he_sl_c AT_he_mo_c AT_he_fl_c vT_ab vT_be vT_bo vT_no vT_fu vT_he_ng vT_he_sl_n fT_he_sl_c vT_he_mo_n fT_he_mo_c vT_he_fl_n fT_he_fl_c) H := hP
        have hD : va_D A (wd_X7_swaps cI cZ AT AT_he AT_iz AT_io AT_tx AT_rd AT_fo AT_fi AT_he_sl AT_he_fl AT_he_ro AT_he_nt AT_he_mk AT_he_mo AT_he_sl_c AT_he_mo_c AT_he_fl_c vT_ab vT_be vT_bo vT_no vT_fu vT_he_ng vT_he_sl_n fT_he_sl_c vT_he_mo_n fT_he_mo_c vT_he_fl_n fT_he_fl_c) := hD
        refine lv_iconst (v := (-1)) hx hb dX7_swaps_34 (by decide) ?_
        refine lv_icmp_ne (tgt := 42) hx hb dX7_swaps_35 (by decide) (fun c_35 => ?_) (fun c_35 => ?_)
        · have hm := it_n c_35 hm
          refine lv_iconst (v := 1) hx hb dX7_swaps_42 (by decide) ?_
          refine lv_aload_n hx hb dX7_swaps_43 rfl (lv_at hl 0 rfl) ?_
          refine gf_X7_17 (v := .ref AT_he) hx hb hts hown hK hN hP 0 rfl rfl dX7_swaps_44 ?_
          refine lv_iload_n hx hb dX7_swaps_47 rfl (lv_at hl 2 rfl) ?_
          obtain ⟨r_48, hc_48, hm⟩ := ob_s hm
          refine q_ci (q_rv (rest := [.int 1]) ⟨hx, hb, hml, hown, hts⟩ hK hN hP hD (c_X4_sleeperOn l D cI cZ H.size AT_he AT_he_sl AT_he_fl AT_he_ro AT_he_nt AT_he_mk AT_he_mo AT_he_sl_c vT_he_ng vT_he_sl_n fT_he_sl_c p2 r_48 hc_48) mb_X4_sleeperOn mv_X4_sleeperOn wl_X7_129 [1, 2, 3] rfl rfl rfl (Nat.le_of_ble_eq_true rfl) (Nat.le_of_ble_eq_true rfl) rfl hl.1 rfl (Nat.le_of_ble_eq_true rfl) ⟨Nat.le_refl 0, Nat.le_refl 0⟩ dX7_swaps_48) hP hD hS hA [1, 2, 3] rfl rfl (fun H locs hP hD hS => ?_)
          have hP : va_P D vwCl (wd_X7_swaps cI cZ AT AT_he AT_iz AT_io AT_tx AT_rd AT_fo AT_fi AT_he_sl AT_he_fl AT_he_ro AT_he_nt AT_he_mk AT_he_mo AT_he_sl_c AT_he_mo_c AT_he_fl_c vT_ab vT_be vT_bo vT_no vT_fu vT_he_ng vT_he_sl_n fT_he_sl_c vT_he_mo_n fT_he_mo_c vT_he_fl_n fT_he_fl_c) H := hP
          have hD : va_D A (wd_X7_swaps cI cZ AT AT_he AT_iz AT_io AT_tx AT_rd AT_fo AT_fi AT_he_sl AT_he_fl AT_he_ro AT_he_nt AT_he_mk AT_he_mo AT_he_sl_c AT_he_mo_c AT_he_fl_c vT_ab vT_be vT_bo vT_no vT_fu vT_he_ng vT_he_sl_n fT_he_sl_c vT_he_mo_n fT_he_mo_c vT_he_fl_n fT_he_fl_c) := hD
          refine lv_iconst (v := (-1)) hx hb dX7_swaps_51 (by decide) ?_
          refine lv_icmp_ne (tgt := 59) hx hb dX7_swaps_52 (by decide) (fun c_52 => ?_) (fun c_52 => ?_)
          · have hm := it_n c_52 hm
            refine lv_iconst (v := 1) hx hb dX7_swaps_59 (by decide) ?_
            refine lv_iadd hx hb dX7_swaps_60 ?_
            refine lv_istore_n (lv' := [(3, .int (1 + 1)), (0, .ref AT), (1, .int p1), (2, .int p2)]) hx hb dX7_swaps_61 rfl hl (by decide) rfl (fun ls hl => ?_)
            refine lv_iload_n hx hb dX7_swaps_62 rfl (lv_at hl 0 rfl) ?_
            refine lv_if_ne (tgt := 73) hx hb dX7_swaps_63 (by decide) (fun _ => ?_) (fun c => absurd c (by decide))
            refine lv_aload_n hx hb dX7_swaps_73 rfl (lv_at hl 1 rfl) ?_
            refine gf_X7_17 (v := .ref AT_he) hx hb hts hown hK hN hP 0 rfl rfl dX7_swaps_74 ?_
            obtain ⟨r_77, hc_77, hm⟩ := ob_s hm
            refine q_cv (q_rv (rest := []) ⟨hx, hb, hml, hown, hts⟩ hK hN hP hD (c_X4_remember l D cI cZ H.size AT_he AT_he_sl AT_he_fl AT_he_ro AT_he_nt AT_he_mk AT_he_mo AT_he_mo_c AT_he_sl_c AT_he_fl_c vT_he_ng vT_he_mo_n fT_he_mo_c vT_he_sl_n fT_he_sl_c vT_he_fl_n fT_he_fl_c r_77 hc_77) mb_X4_remember mv_X4_remember wl_X7_119 [1, 4, 5, 2, 3, 6, 7] rfl rfl rfl (Nat.le_of_ble_eq_true rfl) (Nat.le_of_ble_eq_true rfl) rfl hl.1 rfl (Nat.le_of_ble_eq_true rfl) ⟨Nat.le_refl 0, Nat.le_refl 0⟩ dX7_swaps_77) hP hD hS hA [1, 4, 5, 2, 3, 6, 7] rfl rfl (fun H locs hP hD hS => ?_)
            have hP : va_P D vwCl (wd_X7_swaps cI cZ AT AT_he AT_iz AT_io AT_tx AT_rd AT_fo AT_fi AT_he_sl AT_he_fl AT_he_ro AT_he_nt AT_he_mk AT_he_mo AT_he_sl_c AT_he_mo_c AT_he_fl_c vT_ab vT_be vT_bo vT_no vT_fu vT_he_ng vT_he_sl_n fT_he_sl_c r_77.1 r_77.2 vT_he_fl_n fT_he_fl_c) H := hP
            have hD : va_D A (wd_X7_swaps cI cZ AT AT_he AT_iz AT_io AT_tx AT_rd AT_fo AT_fi AT_he_sl AT_he_fl AT_he_ro AT_he_nt AT_he_mk AT_he_mo AT_he_sl_c AT_he_mo_c AT_he_fl_c vT_ab vT_be vT_bo vT_no vT_fu vT_he_ng vT_he_sl_n fT_he_sl_c r_77.1 r_77.2 vT_he_fl_n fT_he_fl_c) := hD
            refine lv_aload_n hx hb dX7_swaps_80 rfl (lv_at hl 1 rfl) ?_
            refine gf_X7_17 (v := .ref AT_he) hx hb hts hown hK hN hP 0 rfl rfl dX7_swaps_81 ?_
            refine lv_iload_n hx hb dX7_swaps_84 rfl (lv_at hl 2 rfl) ?_
            refine lv_iload_n hx hb dX7_swaps_85 rfl (lv_at hl 3 rfl) ?_
            obtain ⟨r_86, hc_86, hm⟩ := ob_s hm
            refine q_cv (q_rv (rest := []) ⟨hx, hb, hml, hown, hts⟩ hK hN hP hD (c_X4_changePillows l D cI cZ H.size AT_he AT_he_sl AT_he_fl AT_he_ro AT_he_nt AT_he_mk AT_he_mo AT_he_sl_c vT_he_ng vT_he_sl_n fT_he_sl_c p1 p2 r_86 hc_86) mb_X4_changePillows mv_X4_changePillows wl_X7_132 [1, 2, 3] rfl rfl rfl (Nat.le_of_ble_eq_true rfl) (Nat.le_of_ble_eq_true rfl) rfl hl.1 rfl (Nat.le_of_ble_eq_true rfl) ⟨Nat.le_refl 0, Nat.le_refl 0⟩ dX7_swaps_86) hP hD hS hA [1, 2, 3] rfl rfl (fun H locs hP hD hS => ?_)
            have hP : va_P D vwCl (wd_X7_swaps cI cZ AT AT_he AT_iz AT_io AT_tx AT_rd AT_fo AT_fi AT_he_sl AT_he_fl AT_he_ro AT_he_nt AT_he_mk AT_he_mo AT_he_sl_c AT_he_mo_c AT_he_fl_c vT_ab vT_be vT_bo vT_no vT_fu vT_he_ng vT_he_sl_n r_86 r_77.1 r_77.2 vT_he_fl_n fT_he_fl_c) H := hP
            have hD : va_D A (wd_X7_swaps cI cZ AT AT_he AT_iz AT_io AT_tx AT_rd AT_fo AT_fi AT_he_sl AT_he_fl AT_he_ro AT_he_nt AT_he_mk AT_he_mo AT_he_sl_c AT_he_mo_c AT_he_fl_c vT_ab vT_be vT_bo vT_no vT_fu vT_he_ng vT_he_sl_n r_86 r_77.1 r_77.2 vT_he_fl_n fT_he_fl_c) := hD
            refine lv_iload_n hx hb dX7_swaps_89 rfl (lv_at hl 0 rfl) ?_
            have hm := Option.some.inj hm
            subst hm
            exact q_iret (v := (1 + 1)) hx hb hr hlocks hP hS dX7_swaps_90
          · have hm := it_s c_52 hm
            refine lv_iconst (v := 0) hx hb dX7_swaps_55 (by decide) ?_
            refine lv_goto (tgt := 60) hx hb dX7_swaps_56 (by decide) ?_
            refine lv_iadd hx hb dX7_swaps_60 ?_
            refine lv_istore_n (lv' := [(3, .int (1 + 0)), (0, .ref AT), (1, .int p1), (2, .int p2)]) hx hb dX7_swaps_61 rfl hl (by decide) rfl (fun ls hl => ?_)
            refine lv_iload_n hx hb dX7_swaps_62 rfl (lv_at hl 0 rfl) ?_
            refine lv_if_ne (tgt := 73) hx hb dX7_swaps_63 (by decide) (fun _ => ?_) (fun c => absurd c (by decide))
            refine lv_aload_n hx hb dX7_swaps_73 rfl (lv_at hl 1 rfl) ?_
            refine gf_X7_17 (v := .ref AT_he) hx hb hts hown hK hN hP 0 rfl rfl dX7_swaps_74 ?_
            obtain ⟨r_77, hc_77, hm⟩ := ob_s hm
            refine q_cv (q_rv (rest := []) ⟨hx, hb, hml, hown, hts⟩ hK hN hP hD (c_X4_remember l D cI cZ H.size AT_he AT_he_sl AT_he_fl AT_he_ro AT_he_nt AT_he_mk AT_he_mo AT_he_mo_c AT_he_sl_c AT_he_fl_c vT_he_ng vT_he_mo_n fT_he_mo_c vT_he_sl_n fT_he_sl_c vT_he_fl_n fT_he_fl_c r_77 hc_77) mb_X4_remember mv_X4_remember wl_X7_119 [1, 4, 5, 2, 3, 6, 7] rfl rfl rfl (Nat.le_of_ble_eq_true rfl) (Nat.le_of_ble_eq_true rfl) rfl hl.1 rfl (Nat.le_of_ble_eq_true rfl) ⟨Nat.le_refl 0, Nat.le_refl 0⟩ dX7_swaps_77) hP hD hS hA [1, 4, 5, 2, 3, 6, 7] rfl rfl (fun H locs hP hD hS => ?_)
            have hP : va_P D vwCl (wd_X7_swaps cI cZ AT AT_he AT_iz AT_io AT_tx AT_rd AT_fo AT_fi AT_he_sl AT_he_fl AT_he_ro AT_he_nt AT_he_mk AT_he_mo AT_he_sl_c AT_he_mo_c AT_he_fl_c vT_ab vT_be vT_bo vT_no vT_fu vT_he_ng vT_he_sl_n fT_he_sl_c r_77.1 r_77.2 vT_he_fl_n fT_he_fl_c) H := hP
            have hD : va_D A (wd_X7_swaps cI cZ AT AT_he AT_iz AT_io AT_tx AT_rd AT_fo AT_fi AT_he_sl AT_he_fl AT_he_ro AT_he_nt AT_he_mk AT_he_mo AT_he_sl_c AT_he_mo_c AT_he_fl_c vT_ab vT_be vT_bo vT_no vT_fu vT_he_ng vT_he_sl_n fT_he_sl_c r_77.1 r_77.2 vT_he_fl_n fT_he_fl_c) := hD
            refine lv_aload_n hx hb dX7_swaps_80 rfl (lv_at hl 1 rfl) ?_
            refine gf_X7_17 (v := .ref AT_he) hx hb hts hown hK hN hP 0 rfl rfl dX7_swaps_81 ?_
            refine lv_iload_n hx hb dX7_swaps_84 rfl (lv_at hl 2 rfl) ?_
            refine lv_iload_n hx hb dX7_swaps_85 rfl (lv_at hl 3 rfl) ?_
            obtain ⟨r_86, hc_86, hm⟩ := ob_s hm
            refine q_cv (q_rv (rest := []) ⟨hx, hb, hml, hown, hts⟩ hK hN hP hD (c_X4_changePillows l D cI cZ H.size AT_he AT_he_sl AT_he_fl AT_he_ro AT_he_nt AT_he_mk AT_he_mo AT_he_sl_c vT_he_ng vT_he_sl_n fT_he_sl_c p1 p2 r_86 hc_86) mb_X4_changePillows mv_X4_changePillows wl_X7_132 [1, 2, 3] rfl rfl rfl (Nat.le_of_ble_eq_true rfl) (Nat.le_of_ble_eq_true rfl) rfl hl.1 rfl (Nat.le_of_ble_eq_true rfl) ⟨Nat.le_refl 0, Nat.le_refl 0⟩ dX7_swaps_86) hP hD hS hA [1, 2, 3] rfl rfl (fun H locs hP hD hS => ?_)
            have hP : va_P D vwCl (wd_X7_swaps cI cZ AT AT_he AT_iz AT_io AT_tx AT_rd AT_fo AT_fi AT_he_sl AT_he_fl AT_he_ro AT_he_nt AT_he_mk AT_he_mo AT_he_sl_c AT_he_mo_c AT_he_fl_c vT_ab vT_be vT_bo vT_no vT_fu vT_he_ng vT_he_sl_n r_86 r_77.1 r_77.2 vT_he_fl_n fT_he_fl_c) H := hP
            have hD : va_D A (wd_X7_swaps cI cZ AT AT_he AT_iz AT_io AT_tx AT_rd AT_fo AT_fi AT_he_sl AT_he_fl AT_he_ro AT_he_nt AT_he_mk AT_he_mo AT_he_sl_c AT_he_mo_c AT_he_fl_c vT_ab vT_be vT_bo vT_no vT_fu vT_he_ng vT_he_sl_n r_86 r_77.1 r_77.2 vT_he_fl_n fT_he_fl_c) := hD
            refine lv_iload_n hx hb dX7_swaps_89 rfl (lv_at hl 0 rfl) ?_
            have hm := Option.some.inj hm
            subst hm
            exact q_iret (v := (1 + 0)) hx hb hr hlocks hP hS dX7_swaps_90
        · have hm := it_s c_35 hm
          refine lv_iconst (v := 0) hx hb dX7_swaps_38 (by decide) ?_
          refine lv_goto (tgt := 43) hx hb dX7_swaps_39 (by decide) ?_
          refine lv_aload_n hx hb dX7_swaps_43 rfl (lv_at hl 0 rfl) ?_
          refine gf_X7_17 (v := .ref AT_he) hx hb hts hown hK hN hP 0 rfl rfl dX7_swaps_44 ?_
          refine lv_iload_n hx hb dX7_swaps_47 rfl (lv_at hl 2 rfl) ?_
          obtain ⟨r_48, hc_48, hm⟩ := ob_s hm
          refine q_ci (q_rv (rest := [.int 0]) ⟨hx, hb, hml, hown, hts⟩ hK hN hP hD (c_X4_sleeperOn l D cI cZ H.size AT_he AT_he_sl AT_he_fl AT_he_ro AT_he_nt AT_he_mk AT_he_mo AT_he_sl_c vT_he_ng vT_he_sl_n fT_he_sl_c p2 r_48 hc_48) mb_X4_sleeperOn mv_X4_sleeperOn wl_X7_129 [1, 2, 3] rfl rfl rfl (Nat.le_of_ble_eq_true rfl) (Nat.le_of_ble_eq_true rfl) rfl hl.1 rfl (Nat.le_of_ble_eq_true rfl) ⟨Nat.le_refl 0, Nat.le_refl 0⟩ dX7_swaps_48) hP hD hS hA [1, 2, 3] rfl rfl (fun H locs hP hD hS => ?_)
          have hP : va_P D vwCl (wd_X7_swaps cI cZ AT AT_he AT_iz AT_io AT_tx AT_rd AT_fo AT_fi AT_he_sl AT_he_fl AT_he_ro AT_he_nt AT_he_mk AT_he_mo AT_he_sl_c AT_he_mo_c AT_he_fl_c vT_ab vT_be vT_bo vT_no vT_fu vT_he_ng vT_he_sl_n fT_he_sl_c vT_he_mo_n fT_he_mo_c vT_he_fl_n fT_he_fl_c) H := hP
          have hD : va_D A (wd_X7_swaps cI cZ AT AT_he AT_iz AT_io AT_tx AT_rd AT_fo AT_fi AT_he_sl AT_he_fl AT_he_ro AT_he_nt AT_he_mk AT_he_mo AT_he_sl_c AT_he_mo_c AT_he_fl_c vT_ab vT_be vT_bo vT_no vT_fu vT_he_ng vT_he_sl_n fT_he_sl_c vT_he_mo_n fT_he_mo_c vT_he_fl_n fT_he_fl_c) := hD
          refine lv_iconst (v := (-1)) hx hb dX7_swaps_51 (by decide) ?_
          refine lv_icmp_ne (tgt := 59) hx hb dX7_swaps_52 (by decide) (fun c_52 => ?_) (fun c_52 => ?_)
          · have hm := it_n c_52 hm
            refine lv_iconst (v := 1) hx hb dX7_swaps_59 (by decide) ?_
            refine lv_iadd hx hb dX7_swaps_60 ?_
            refine lv_istore_n (lv' := [(3, .int (0 + 1)), (0, .ref AT), (1, .int p1), (2, .int p2)]) hx hb dX7_swaps_61 rfl hl (by decide) rfl (fun ls hl => ?_)
            refine lv_iload_n hx hb dX7_swaps_62 rfl (lv_at hl 0 rfl) ?_
            refine lv_if_ne (tgt := 73) hx hb dX7_swaps_63 (by decide) (fun _ => ?_) (fun c => absurd c (by decide))
            refine lv_aload_n hx hb dX7_swaps_73 rfl (lv_at hl 1 rfl) ?_
            refine gf_X7_17 (v := .ref AT_he) hx hb hts hown hK hN hP 0 rfl rfl dX7_swaps_74 ?_
            obtain ⟨r_77, hc_77, hm⟩ := ob_s hm
            refine q_cv (q_rv (rest := []) ⟨hx, hb, hml, hown, hts⟩ hK hN hP hD (c_X4_remember l D cI cZ H.size AT_he AT_he_sl AT_he_fl AT_he_ro AT_he_nt AT_he_mk AT_he_mo AT_he_mo_c AT_he_sl_c AT_he_fl_c vT_he_ng vT_he_mo_n fT_he_mo_c vT_he_sl_n fT_he_sl_c vT_he_fl_n fT_he_fl_c r_77 hc_77) mb_X4_remember mv_X4_remember wl_X7_119 [1, 4, 5, 2, 3, 6, 7] rfl rfl rfl (Nat.le_of_ble_eq_true rfl) (Nat.le_of_ble_eq_true rfl) rfl hl.1 rfl (Nat.le_of_ble_eq_true rfl) ⟨Nat.le_refl 0, Nat.le_refl 0⟩ dX7_swaps_77) hP hD hS hA [1, 4, 5, 2, 3, 6, 7] rfl rfl (fun H locs hP hD hS => ?_)
            have hP : va_P D vwCl (wd_X7_swaps cI cZ AT AT_he AT_iz AT_io AT_tx AT_rd AT_fo AT_fi AT_he_sl AT_he_fl AT_he_ro AT_he_nt AT_he_mk AT_he_mo AT_he_sl_c AT_he_mo_c AT_he_fl_c vT_ab vT_be vT_bo vT_no vT_fu vT_he_ng vT_he_sl_n fT_he_sl_c r_77.1 r_77.2 vT_he_fl_n fT_he_fl_c) H := hP
            have hD : va_D A (wd_X7_swaps cI cZ AT AT_he AT_iz AT_io AT_tx AT_rd AT_fo AT_fi AT_he_sl AT_he_fl AT_he_ro AT_he_nt AT_he_mk AT_he_mo AT_he_sl_c AT_he_mo_c AT_he_fl_c vT_ab vT_be vT_bo vT_no vT_fu vT_he_ng vT_he_sl_n fT_he_sl_c r_77.1 r_77.2 vT_he_fl_n fT_he_fl_c) := hD
            refine lv_aload_n hx hb dX7_swaps_80 rfl (lv_at hl 1 rfl) ?_
            refine gf_X7_17 (v := .ref AT_he) hx hb hts hown hK hN hP 0 rfl rfl dX7_swaps_81 ?_
            refine lv_iload_n hx hb dX7_swaps_84 rfl (lv_at hl 2 rfl) ?_
            refine lv_iload_n hx hb dX7_swaps_85 rfl (lv_at hl 3 rfl) ?_
            obtain ⟨r_86, hc_86, hm⟩ := ob_s hm
            refine q_cv (q_rv (rest := []) ⟨hx, hb, hml, hown, hts⟩ hK hN hP hD (c_X4_changePillows l D cI cZ H.size AT_he AT_he_sl AT_he_fl AT_he_ro AT_he_nt AT_he_mk AT_he_mo AT_he_sl_c vT_he_ng vT_he_sl_n fT_he_sl_c p1 p2 r_86 hc_86) mb_X4_changePillows mv_X4_changePillows wl_X7_132 [1, 2, 3] rfl rfl rfl (Nat.le_of_ble_eq_true rfl) (Nat.le_of_ble_eq_true rfl) rfl hl.1 rfl (Nat.le_of_ble_eq_true rfl) ⟨Nat.le_refl 0, Nat.le_refl 0⟩ dX7_swaps_86) hP hD hS hA [1, 2, 3] rfl rfl (fun H locs hP hD hS => ?_)
            have hP : va_P D vwCl (wd_X7_swaps cI cZ AT AT_he AT_iz AT_io AT_tx AT_rd AT_fo AT_fi AT_he_sl AT_he_fl AT_he_ro AT_he_nt AT_he_mk AT_he_mo AT_he_sl_c AT_he_mo_c AT_he_fl_c vT_ab vT_be vT_bo vT_no vT_fu vT_he_ng vT_he_sl_n r_86 r_77.1 r_77.2 vT_he_fl_n fT_he_fl_c) H := hP
            have hD : va_D A (wd_X7_swaps cI cZ AT AT_he AT_iz AT_io AT_tx AT_rd AT_fo AT_fi AT_he_sl AT_he_fl AT_he_ro AT_he_nt AT_he_mk AT_he_mo AT_he_sl_c AT_he_mo_c AT_he_fl_c vT_ab vT_be vT_bo vT_no vT_fu vT_he_ng vT_he_sl_n r_86 r_77.1 r_77.2 vT_he_fl_n fT_he_fl_c) := hD
            refine lv_iload_n hx hb dX7_swaps_89 rfl (lv_at hl 0 rfl) ?_
            have hm := Option.some.inj hm
            subst hm
            exact q_iret (v := (0 + 1)) hx hb hr hlocks hP hS dX7_swaps_90
          · have hm := it_s c_52 hm
            refine lv_iconst (v := 0) hx hb dX7_swaps_55 (by decide) ?_
            refine lv_goto (tgt := 60) hx hb dX7_swaps_56 (by decide) ?_
            refine lv_iadd hx hb dX7_swaps_60 ?_
            refine lv_istore_n (lv' := [(3, .int (0 + 0)), (0, .ref AT), (1, .int p1), (2, .int p2)]) hx hb dX7_swaps_61 rfl hl (by decide) rfl (fun ls hl => ?_)
            refine lv_iload_n hx hb dX7_swaps_62 rfl (lv_at hl 0 rfl) ?_
            refine lv_if_ne (tgt := 73) hx hb dX7_swaps_63 (by decide) (fun c => absurd c (by decide)) (fun _ => ?_)
            refine lv_aload_n hx hb dX7_swaps_66 rfl (lv_at hl 1 rfl) ?_
            refine lv_bipush (v := (-3)) hx hb dX7_swaps_67 (by decide) ?_
            obtain ⟨r_69, hc_69, hm⟩ := ob_s hm
            refine q_ci (q_rv (rest := []) ⟨hx, hb, hml, hown, hts⟩ hK hN hP hD (c_X7_refused l D cI cZ H.size AT AT_he AT_iz AT_io AT_tx AT_rd AT_fo AT_fi vT_ab vT_be vT_bo vT_no vT_fu (-3) r_69 hc_69) mb_X7_refused mv_X7_refused wl_X7_81 [0] rfl rfl rfl (Nat.le_of_ble_eq_true rfl) (Nat.le_of_ble_eq_true rfl) rfl hl.1 rfl (Nat.le_of_ble_eq_true rfl) ⟨Nat.le_refl 0, Nat.le_refl 0⟩ dX7_swaps_69) hP hD hS hA [0] rfl rfl (fun H locs hP hD hS => ?_)
            have hP : va_P D vwCl (wd_X7_swaps cI cZ AT AT_he AT_iz AT_io AT_tx AT_rd AT_fo AT_fi AT_he_sl AT_he_fl AT_he_ro AT_he_nt AT_he_mk AT_he_mo AT_he_sl_c AT_he_mo_c AT_he_fl_c vT_ab vT_be r_69.2.1 r_69.2.2.1 r_69.2.2.2 vT_he_ng vT_he_sl_n fT_he_sl_c vT_he_mo_n fT_he_mo_c vT_he_fl_n fT_he_fl_c) H := hP
            have hD : va_D A (wd_X7_swaps cI cZ AT AT_he AT_iz AT_io AT_tx AT_rd AT_fo AT_fi AT_he_sl AT_he_fl AT_he_ro AT_he_nt AT_he_mk AT_he_mo AT_he_sl_c AT_he_mo_c AT_he_fl_c vT_ab vT_be r_69.2.1 r_69.2.2.1 r_69.2.2.2 vT_he_ng vT_he_sl_n fT_he_sl_c vT_he_mo_n fT_he_mo_c vT_he_fl_n fT_he_fl_c) := hD
            have hm := Option.some.inj hm
            subst hm
            exact q_iret (v := r_69.1) hx hb hr hlocks hP hS dX7_swaps_72
      · have hm := it_s c_16 hm
        refine lv_aload_n hx hb dX7_swaps_19 rfl (lv_at hl 0 rfl) ?_
        refine lv_bipush (v := (-2)) hx hb dX7_swaps_20 (by decide) ?_
        obtain ⟨r_22, hc_22, hm⟩ := ob_s hm
        refine q_ci (q_rv (rest := []) ⟨hx, hb, hml, hown, hts⟩ hK hN hP hD (c_X7_refused l D cI cZ H.size AT AT_he AT_iz AT_io AT_tx AT_rd AT_fo AT_fi vT_ab vT_be vT_bo vT_no vT_fu (-2) r_22 hc_22) mb_X7_refused mv_X7_refused wl_X7_81 [0] rfl rfl rfl (Nat.le_of_ble_eq_true rfl) (Nat.le_of_ble_eq_true rfl) rfl hl.1 rfl (Nat.le_of_ble_eq_true rfl) ⟨Nat.le_refl 0, Nat.le_refl 0⟩ dX7_swaps_22) hP hD hS hA [0] rfl rfl (fun H locs hP hD hS => ?_)
        have hP : va_P D vwCl (wd_X7_swaps cI cZ AT AT_he AT_iz AT_io AT_tx AT_rd AT_fo AT_fi AT_he_sl AT_he_fl AT_he_ro AT_he_nt AT_he_mk AT_he_mo AT_he_sl_c AT_he_mo_c AT_he_fl_c vT_ab vT_be r_22.2.1 r_22.2.2.1 r_22.2.2.2 vT_he_ng vT_he_sl_n fT_he_sl_c vT_he_mo_n fT_he_mo_c vT_he_fl_n fT_he_fl_c) H := hP
        have hD : va_D A (wd_X7_swaps cI cZ AT AT_he AT_iz AT_io AT_tx AT_rd AT_fo AT_fi AT_he_sl AT_he_fl AT_he_ro AT_he_nt AT_he_mk AT_he_mo AT_he_sl_c AT_he_mo_c AT_he_fl_c vT_ab vT_be r_22.2.1 r_22.2.2.1 r_22.2.2.2 vT_he_ng vT_he_sl_n fT_he_sl_c vT_he_mo_n fT_he_mo_c vT_he_fl_n fT_he_fl_c) := hD
        have hm := Option.some.inj hm
        subst hm
        exact q_iret (v := r_22.1) hx hb hr hlocks hP hS dX7_swaps_25
theorem mb_X7_isSleeper : q_mb yX7_isSleeper cX7_isSleeper 2 (some .boolean) 1 := ⟨wc_X7_isSleeper, wn_X7, by decide, by decide, by decide +kernel⟩
theorem mv_X7_isSleeper : q_mv yX7_isSleeper 7 := ⟨wi_X7_isSleeper, ws_X7_isSleeper, _, rfl, rfl⟩
def wd_X7_isSleeper (cI cZ : ClassId) (AT AT_he AT_iz AT_io AT_tx AT_rd AT_fo AT_fi AT_he_sl AT_he_fl AT_he_ro AT_he_nt AT_he_mk AT_he_mo AT_he_sl_c : Nat) (vT_ab : Int32) (vT_be : Int32) (vT_bo : Int32) (vT_no : Int32) (vT_fu : Int32) (vT_he_ng : Int32) (vT_he_sl_n : Int32) : va_W := [(AT, .inr (7, [.ref AT_he, .ref AT_iz, .ref AT_io, .ref AT_tx, .ref AT_rd, .ref AT_fo, .ref AT_fi, .int vT_ab, .int vT_be, .int vT_bo, .int vT_no, .int vT_fu])), (AT_he, .inr (4, [.ref AT_he_sl, .ref AT_he_fl, .ref AT_he_ro, .ref AT_he_nt, .ref AT_he_mk, .ref AT_he_mo, .int vT_he_ng])), (AT_he_sl, .inr (3, [.int 4, .ref AT_he_sl_c, .int vT_he_sl_n]))]
def fm_X7_isSleeper (p1 : Int32) (vT_he_sl_n : Int32) : Option (Int32) := if p1 < 0 then (some (0)) else (Option.bind (fm_X3_size vT_he_sl_n) (fun r_12 => if r_12 ≤ p1 then (some (0)) else (some (1))))
set_option maxHeartbeats 4000000 in
set_option maxRecDepth 100000 in
theorem c_X7_isSleeper (l : Launch) (D : va_G) (cI cZ : ClassId) (sz : Nat) (AT AT_he AT_iz AT_io AT_tx AT_rd AT_fo AT_fi AT_he_sl AT_he_fl AT_he_ro AT_he_nt AT_he_mk AT_he_mo AT_he_sl_c : Nat) (vT_ab : Int32) (vT_be : Int32) (vT_bo : Int32) (vT_no : Int32) (vT_fu : Int32) (vT_he_ng : Int32) (vT_he_sl_n : Int32) (p1 : Int32) (out : (Int32)) (hm : fm_X7_isSleeper p1 vT_he_sl_n = some out) : Met l yX7_isSleeper (Cond.code yX7_isSleeper cX7_isSleeper 2 (some .boolean) :: bg) { frames := 1, cells := 0, slots := 0, locals := 20 } (va_Pc [.ref AT, .int p1] (q_pre D cI cZ sz (wd_X7_isSleeper cI cZ AT AT_he AT_iz AT_io AT_tx AT_rd AT_fo AT_fi AT_he_sl AT_he_fl AT_he_ro AT_he_nt AT_he_mk AT_he_mo AT_he_sl_c vT_ab vT_be vT_bo vT_no vT_fu vT_he_ng vT_he_sl_n))) (q_Qi D (wd_X7_isSleeper cI cZ AT AT_he AT_iz AT_io AT_tx AT_rd AT_fo AT_fi AT_he_sl AT_he_fl AT_he_ro AT_he_nt AT_he_mk AT_he_mo AT_he_sl_c vT_ab vT_be vT_bo vT_no vT_fu vT_he_ng vT_he_sl_n) out (va_A (wd_X7_isSleeper cI cZ AT AT_he AT_iz AT_io AT_tx AT_rd AT_fo AT_fi AT_he_sl AT_he_fl AT_he_ro AT_he_nt AT_he_mk AT_he_mo AT_he_sl_c vT_ab vT_be vT_bo vT_no vT_fu vT_he_ng vT_he_sl_n) sz)) 0 0 (va_A (wd_X7_isSleeper cI cZ AT AT_he AT_iz AT_io AT_tx AT_rd AT_fo AT_fi AT_he_sl AT_he_fl AT_he_ro AT_he_nt AT_he_mk AT_he_mo AT_he_sl_c vT_ab vT_be vT_bo vT_no vT_fu vT_he_ng vT_he_sl_n) sz) := by
  refine q_met (fun A => q_Qi D (wd_X7_isSleeper cI cZ AT AT_he AT_iz AT_io AT_tx AT_rd AT_fo AT_fi AT_he_sl AT_he_fl AT_he_ro AT_he_nt AT_he_mk AT_he_mo AT_he_sl_c vT_ab vT_be vT_bo vT_no vT_fu vT_he_ng vT_he_sl_n) out A) (by decide) (Nat.le_of_ble_eq_true rfl) ?_
  intro p e s m below meth c ls A hx hb hr hml hown hts hlocks _ hA hS hP hD hK hN hl
  have hown : s.vm.findClass RX7 = some m.cls := hown
  have hl : lv_has ls 2 [(0, .ref AT), (1, .int p1)] := hl
  unfold fm_X7_isSleeper at hm
  refine q_gen hS hP ?_
  intro H locs hP hS
  refine lv_iload_n hx hb dX7_isSleeper_0 rfl (lv_at hl 1 rfl) ?_
  refine lv_if_lt (tgt := 22) hx hb dX7_isSleeper_1 (by decide) (fun c_1 => ?_) (fun c_1 => ?_)
  · have hm := it_s c_1 hm
    refine lv_iconst (v := 0) hx hb dX7_isSleeper_22 (by decide) ?_
    have hm := Option.some.inj hm
    subst hm
    exact q_zret (v := 0) hx hb hr hlocks rfl hP hS dX7_isSleeper_23
  · have hm := it_n c_1 hm
    refine lv_iload_n hx hb dX7_isSleeper_4 rfl (lv_at hl 1 rfl) ?_
    refine lv_aload_n hx hb dX7_isSleeper_5 rfl (lv_at hl 0 rfl) ?_
    refine gf_X7_17 (v := .ref AT_he) hx hb hts hown hK hN hP 0 rfl rfl dX7_isSleeper_6 ?_
    refine gf_X7_67 (v := .ref AT_he_sl) hx hb hts hown hK hN hP 1 rfl rfl dX7_isSleeper_9 ?_
    obtain ⟨r_12, hc_12, hm⟩ := ob_s hm
    refine q_ci (q_rv (rest := [.int p1]) ⟨hx, hb, hml, hown, hts⟩ hK hN hP hD (c_X3_size l D cI cZ H.size AT_he_sl AT_he_sl_c 4 vT_he_sl_n r_12 hc_12) mb_X3_size mv_X3_size wl_X7_70 [2] rfl rfl rfl (Nat.le_of_ble_eq_true rfl) (Nat.le_of_ble_eq_true rfl) rfl hl.1 rfl (Nat.le_of_ble_eq_true rfl) ⟨Nat.le_refl 0, Nat.le_refl 0⟩ dX7_isSleeper_12) hP hD hS hA [2] rfl rfl (fun H locs hP hD hS => ?_)
    have hP : va_P D vwCl (wd_X7_isSleeper cI cZ AT AT_he AT_iz AT_io AT_tx AT_rd AT_fo AT_fi AT_he_sl AT_he_fl AT_he_ro AT_he_nt AT_he_mk AT_he_mo AT_he_sl_c vT_ab vT_be vT_bo vT_no vT_fu vT_he_ng vT_he_sl_n) H := hP
    have hD : va_D A (wd_X7_isSleeper cI cZ AT AT_he AT_iz AT_io AT_tx AT_rd AT_fo AT_fi AT_he_sl AT_he_fl AT_he_ro AT_he_nt AT_he_mk AT_he_mo AT_he_sl_c vT_ab vT_be vT_bo vT_no vT_fu vT_he_ng vT_he_sl_n) := hD
    refine lv_icmp_ge (tgt := 22) hx hb dX7_isSleeper_15 (by decide) (fun c_15 => ?_) (fun c_15 => ?_)
    · have hm := it_s c_15 hm
      refine lv_iconst (v := 0) hx hb dX7_isSleeper_22 (by decide) ?_
      have hm := Option.some.inj hm
      subst hm
      exact q_zret (v := 0) hx hb hr hlocks rfl hP hS dX7_isSleeper_23
    · have hm := it_n c_15 hm
      refine lv_iconst (v := 1) hx hb dX7_isSleeper_18 (by decide) ?_
      refine lv_goto (tgt := 23) hx hb dX7_isSleeper_19 (by decide) ?_
      have hm := Option.some.inj hm
      subst hm
      exact q_zret (v := 1) hx hb hr hlocks rfl hP hS dX7_isSleeper_23
theorem mb_X7_wool : q_mb yX7_wool cX7_wool 4 (some .int) 2 := ⟨wc_X7_wool, wn_X7, by decide, by decide, by decide +kernel⟩
theorem mv_X7_wool : q_mv yX7_wool 7 := ⟨wi_X7_wool, ws_X7_wool, _, rfl, rfl⟩
def wd_X7_wool (cI cZ : ClassId) (AT AT_he AT_iz AT_io AT_tx AT_rd AT_fo AT_fi AT_he_sl AT_he_fl AT_he_ro AT_he_nt AT_he_mk AT_he_mo AT_he_sl_c AT_he_mo_c AT_he_fl_c : Nat) (vT_ab : Int32) (vT_be : Int32) (vT_bo : Int32) (vT_no : Int32) (vT_fu : Int32) (vT_he_ng : Int32) (vT_he_sl_n : Int32) (fT_he_sl_c : Nat → Int32) (vT_he_mo_n : Int32) (fT_he_mo_c : Nat → Int32) (vT_he_fl_n : Int32) (fT_he_fl_c : Nat → Int32) : va_W := [(AT, .inr (7, [.ref AT_he, .ref AT_iz, .ref AT_io, .ref AT_tx, .ref AT_rd, .ref AT_fo, .ref AT_fi, .int vT_ab, .int vT_be, .int vT_bo, .int vT_no, .int vT_fu])), (AT_he, .inr (4, [.ref AT_he_sl, .ref AT_he_fl, .ref AT_he_ro, .ref AT_he_nt, .ref AT_he_mk, .ref AT_he_mo, .int vT_he_ng])), (AT_he_sl, .inr (3, [.int 4, .ref AT_he_sl_c, .int vT_he_sl_n])), (AT_he_sl_c, .inl (cI, 24, .inl fT_he_sl_c)), (AT_he_mo, .inr (3, [.int 25, .ref AT_he_mo_c, .int vT_he_mo_n])), (AT_he_mo_c, .inl (cI, 200, .inl fT_he_mo_c)), (AT_he_fl, .inr (3, [.int 3, .ref AT_he_fl_c, .int vT_he_fl_n])), (AT_he_fl_c, .inl (cI, 18, .inl fT_he_fl_c))]
def fm_X7_wool (p1 : Int32) (p2 : Int32) (vT_bo : Int32) (vT_no : Int32) (vT_fu : Int32) (vT_he_ng : Int32) (vT_he_sl_n : Int32) (fT_he_sl_c : Nat → Int32) (vT_he_mo_n : Int32) (fT_he_mo_c : Nat → Int32) (vT_he_fl_n : Int32) (fT_he_fl_c : Nat → Int32) : Option (Int32 × Int32 × Int32 × Int32 × (Nat → Int32) × Int32 × (Nat → Int32)) := Option.bind (fm_X7_isSleeper p1 vT_he_sl_n) (fun r_2 => if r_2 = 0 then (Option.bind (fm_X7_refused (-2) vT_bo vT_no vT_fu) (fun r_21 => some (r_21.1, r_21.2.1, r_21.2.2.1, r_21.2.2.2, fT_he_sl_c, vT_he_mo_n, fT_he_mo_c))) else (Option.bind (fm_X7_within p2 0 9) (fun r_12 => if r_12 = 0 then (Option.bind (fm_X7_refused (-2) vT_bo vT_no vT_fu) (fun r_21 => some (r_21.1, r_21.2.1, r_21.2.2.1, r_21.2.2.2, fT_he_sl_c, vT_he_mo_n, fT_he_mo_c))) else (Option.bind (fm_X3_cell 4 24 p1 2 vT_he_sl_n fT_he_sl_c) (fun r_34 => if r_34 = p2 then (Option.bind (fm_X7_refused (-3) vT_bo vT_no vT_fu) (fun r_46 => some (r_46.1, r_46.2.1, r_46.2.2.1, r_46.2.2.2, fT_he_sl_c, vT_he_mo_n, fT_he_mo_c))) else (Option.bind (fm_X4_remember vT_he_ng vT_he_mo_n fT_he_mo_c vT_he_sl_n fT_he_sl_c vT_he_fl_n fT_he_fl_c) (fun r_54 => Option.bind (fm_X3_write 4 24 p1 2 p2 vT_he_sl_n fT_he_sl_c) (fun r_67 => some (r_34, vT_bo, vT_no, vT_fu, r_67, r_54.1, r_54.2)))))))))
set_option maxHeartbeats 4000000 in
set_option maxRecDepth 100000 in
theorem c_X7_wool (l : Launch) (D : va_G) (cI cZ : ClassId) (sz : Nat) (AT AT_he AT_iz AT_io AT_tx AT_rd AT_fo AT_fi AT_he_sl AT_he_fl AT_he_ro AT_he_nt AT_he_mk AT_he_mo AT_he_sl_c AT_he_mo_c AT_he_fl_c : Nat) (vT_ab : Int32) (vT_be : Int32) (vT_bo : Int32) (vT_no : Int32) (vT_fu : Int32) (vT_he_ng : Int32) (vT_he_sl_n : Int32) (fT_he_sl_c : Nat → Int32) (vT_he_mo_n : Int32) (fT_he_mo_c : Nat → Int32) (vT_he_fl_n : Int32) (fT_he_fl_c : Nat → Int32) (p1 : Int32) (p2 : Int32) (out : (Int32 × Int32 × Int32 × Int32 × (Nat → Int32) × Int32 × (Nat → Int32))) (hm : fm_X7_wool p1 p2 vT_bo vT_no vT_fu vT_he_ng vT_he_sl_n fT_he_sl_c vT_he_mo_n fT_he_mo_c vT_he_fl_n fT_he_fl_c = some out) : Met l yX7_wool (Cond.code yX7_wool cX7_wool 4 (some .int) :: bg) { frames := 3, cells := 0, slots := 0, locals := 71 } (va_Pc [.ref AT, .int p1, .int p2] (q_pre D cI cZ sz (wd_X7_wool cI cZ AT AT_he AT_iz AT_io AT_tx AT_rd AT_fo AT_fi AT_he_sl AT_he_fl AT_he_ro AT_he_nt AT_he_mk AT_he_mo AT_he_sl_c AT_he_mo_c AT_he_fl_c vT_ab vT_be vT_bo vT_no vT_fu vT_he_ng vT_he_sl_n fT_he_sl_c vT_he_mo_n fT_he_mo_c vT_he_fl_n fT_he_fl_c))) (q_Qi D (wd_X7_wool cI cZ AT AT_he AT_iz AT_io AT_tx AT_rd AT_fo AT_fi AT_he_sl AT_he_fl AT_he_ro AT_he_nt AT_he_mk AT_he_mo AT_he_sl_c AT_he_mo_c AT_he_fl_c vT_ab vT_be out.2.1 out.2.2.1 out.2.2.2.1 vT_he_ng vT_he_sl_n out.2.2.2.2.1 out.2.2.2.2.2.1 out.2.2.2.2.2.2 vT_he_fl_n fT_he_fl_c) out.1 (va_A (wd_X7_wool cI cZ AT AT_he AT_iz AT_io AT_tx AT_rd AT_fo AT_fi AT_he_sl AT_he_fl AT_he_ro AT_he_nt AT_he_mk AT_he_mo AT_he_sl_c AT_he_mo_c AT_he_fl_c vT_ab vT_be vT_bo vT_no vT_fu vT_he_ng vT_he_sl_n fT_he_sl_c vT_he_mo_n fT_he_mo_c vT_he_fl_n fT_he_fl_c) sz)) 0 0 (va_A (wd_X7_wool cI cZ AT AT_he AT_iz AT_io AT_tx AT_rd AT_fo AT_fi AT_he_sl AT_he_fl AT_he_ro AT_he_nt AT_he_mk AT_he_mo AT_he_sl_c AT_he_mo_c AT_he_fl_c vT_ab vT_be vT_bo vT_no vT_fu vT_he_ng vT_he_sl_n fT_he_sl_c vT_he_mo_n fT_he_mo_c vT_he_fl_n fT_he_fl_c) sz) := by
  refine q_met (fun A => q_Qi D (wd_X7_wool cI cZ AT AT_he AT_iz AT_io AT_tx AT_rd AT_fo AT_fi AT_he_sl AT_he_fl AT_he_ro AT_he_nt AT_he_mk AT_he_mo AT_he_sl_c AT_he_mo_c AT_he_fl_c vT_ab vT_be out.2.1 out.2.2.1 out.2.2.2.1 vT_he_ng vT_he_sl_n out.2.2.2.2.1 out.2.2.2.2.2.1 out.2.2.2.2.2.2 vT_he_fl_n fT_he_fl_c) out.1 A) (by decide) (Nat.le_of_ble_eq_true rfl) ?_
  intro p e s m below meth c ls A hx hb hr hml hown hts hlocks _ hA hS hP hD hK hN hl
  have hown : s.vm.findClass RX7 = some m.cls := hown
  have hl : lv_has ls 4 [(0, .ref AT), (1, .int p1), (2, .int p2)] := hl
  unfold fm_X7_wool at hm
  refine q_gen hS hP ?_
  intro H locs hP hS
  refine lv_aload_n hx hb dX7_wool_0 rfl (lv_at hl 0 rfl) ?_
  refine lv_iload_n hx hb dX7_wool_1 rfl (lv_at hl 1 rfl) ?_
  obtain ⟨r_2, hc_2, hm⟩ := ob_s hm
  refine q_ci (q_rv (rest := []) ⟨hx, hb, hml, hown, hts⟩ hK hN hP hD (c_X7_isSleeper l D cI cZ H.size AT AT_he AT_iz AT_io AT_tx AT_rd AT_fo AT_fi AT_he_sl AT_he_fl AT_he_ro AT_he_nt AT_he_mk AT_he_mo AT_he_sl_c vT_ab vT_be vT_bo vT_no vT_fu vT_he_ng vT_he_sl_n p1 r_2 hc_2) mb_X7_isSleeper mv_X7_isSleeper wl_X7_135 [0, 1, 2] rfl rfl rfl (Nat.le_of_ble_eq_true rfl) (Nat.le_of_ble_eq_true rfl) rfl hl.1 rfl (Nat.le_of_ble_eq_true rfl) ⟨Nat.le_refl 0, Nat.le_refl 0⟩ dX7_wool_2) hP hD hS hA [0, 1, 2] rfl rfl (fun H locs hP hD hS => ?_)
  have hP : va_P D vwCl (wd_X7_wool cI cZ AT AT_he AT_iz AT_io AT_tx AT_rd AT_fo AT_fi AT_he_sl AT_he_fl AT_he_ro AT_he_nt AT_he_mk AT_he_mo AT_he_sl_c AT_he_mo_c AT_he_fl_c vT_ab vT_be vT_bo vT_no vT_fu vT_he_ng vT_he_sl_n fT_he_sl_c vT_he_mo_n fT_he_mo_c vT_he_fl_n fT_he_fl_c) H := hP
  have hD : va_D A (wd_X7_wool cI cZ AT AT_he AT_iz AT_io AT_tx AT_rd AT_fo AT_fi AT_he_sl AT_he_fl AT_he_ro AT_he_nt AT_he_mk AT_he_mo AT_he_sl_c AT_he_mo_c AT_he_fl_c vT_ab vT_be vT_bo vT_no vT_fu vT_he_ng vT_he_sl_n fT_he_sl_c vT_he_mo_n fT_he_mo_c vT_he_fl_n fT_he_fl_c) := hD
  refine lv_if_eq (tgt := 18) hx hb dX7_wool_5 (by decide) (fun c_5 => ?_) (fun c_5 => ?_)
  · have hm := it_s c_5 hm
    refine lv_aload_n hx hb dX7_wool_18 rfl (lv_at hl 0 rfl) ?_
    refine lv_bipush (v := (-2)) hx hb dX7_wool_19 (by decide) ?_
    obtain ⟨r_21, hc_21, hm⟩ := ob_s hm
    refine q_ci (q_rv (rest := []) ⟨hx, hb, hml, hown, hts⟩ hK hN hP hD (c_X7_refused l D cI cZ H.size AT AT_he AT_iz AT_io AT_tx AT_rd AT_fo AT_fi vT_ab vT_be vT_bo vT_no vT_fu (-2) r_21 hc_21) mb_X7_refused mv_X7_refused wl_X7_81 [0] rfl rfl rfl (Nat.le_of_ble_eq_true rfl) (Nat.le_of_ble_eq_true rfl) rfl hl.1 rfl (Nat.le_of_ble_eq_true rfl) ⟨Nat.le_refl 0, Nat.le_refl 0⟩ dX7_wool_21) hP hD hS hA [0] rfl rfl (fun H locs hP hD hS => ?_)
    have hP : va_P D vwCl (wd_X7_wool cI cZ AT AT_he AT_iz AT_io AT_tx AT_rd AT_fo AT_fi AT_he_sl AT_he_fl AT_he_ro AT_he_nt AT_he_mk AT_he_mo AT_he_sl_c AT_he_mo_c AT_he_fl_c vT_ab vT_be r_21.2.1 r_21.2.2.1 r_21.2.2.2 vT_he_ng vT_he_sl_n fT_he_sl_c vT_he_mo_n fT_he_mo_c vT_he_fl_n fT_he_fl_c) H := hP
    have hD : va_D A (wd_X7_wool cI cZ AT AT_he AT_iz AT_io AT_tx AT_rd AT_fo AT_fi AT_he_sl AT_he_fl AT_he_ro AT_he_nt AT_he_mk AT_he_mo AT_he_sl_c AT_he_mo_c AT_he_fl_c vT_ab vT_be r_21.2.1 r_21.2.2.1 r_21.2.2.2 vT_he_ng vT_he_sl_n fT_he_sl_c vT_he_mo_n fT_he_mo_c vT_he_fl_n fT_he_fl_c) := hD
    have hm := Option.some.inj hm
    subst hm
    exact q_iret (v := r_21.1) hx hb hr hlocks hP hS dX7_wool_24
  · have hm := it_n c_5 hm
    refine lv_iload_n hx hb dX7_wool_8 rfl (lv_at hl 2 rfl) ?_
    refine lv_iconst (v := 0) hx hb dX7_wool_9 (by decide) ?_
    refine lv_bipush (v := 9) hx hb dX7_wool_10 (by decide) ?_
    obtain ⟨r_12, hc_12, hm⟩ := ob_s hm
    refine q_ci (q_rs (rest := []) ⟨hx, hb, hml, hown, hts⟩ hK hN hP hD (c_X7_within l D cI cZ H.size p2 0 9 r_12 hc_12) mb_X7_within wt_X7_within wl_X7_77 [] rfl rfl (Nat.le_of_ble_eq_true rfl) (Nat.le_of_ble_eq_true rfl) rfl hl.1 rfl (Nat.le_of_ble_eq_true rfl) ⟨Nat.le_refl 0, Nat.le_refl 0⟩ dX7_wool_12) hP hD hS hA [] rfl rfl (fun H locs hP hD hS => ?_)
    have hP : va_P D vwCl (wd_X7_wool cI cZ AT AT_he AT_iz AT_io AT_tx AT_rd AT_fo AT_fi AT_he_sl AT_he_fl AT_he_ro AT_he_nt AT_he_mk AT_he_mo AT_he_sl_c AT_he_mo_c AT_he_fl_c vT_ab vT_be vT_bo vT_no vT_fu vT_he_ng vT_he_sl_n fT_he_sl_c vT_he_mo_n fT_he_mo_c vT_he_fl_n fT_he_fl_c) H := hP
    have hD : va_D A (wd_X7_wool cI cZ AT AT_he AT_iz AT_io AT_tx AT_rd AT_fo AT_fi AT_he_sl AT_he_fl AT_he_ro AT_he_nt AT_he_mk AT_he_mo AT_he_sl_c AT_he_mo_c AT_he_fl_c vT_ab vT_be vT_bo vT_no vT_fu vT_he_ng vT_he_sl_n fT_he_sl_c vT_he_mo_n fT_he_mo_c vT_he_fl_n fT_he_fl_c) := hD
    refine lv_if_ne (tgt := 25) hx hb dX7_wool_15 (by decide) (fun c_15 => ?_) (fun c_15 => ?_)
    · have hm := it_n c_15 hm
      refine lv_aload_n hx hb dX7_wool_25 rfl (lv_at hl 0 rfl) ?_
      refine gf_X7_17 (v := .ref AT_he) hx hb hts hown hK hN hP 0 rfl rfl dX7_wool_26 ?_
      refine gf_X7_67 (v := .ref AT_he_sl) hx hb hts hown hK hN hP 1 rfl rfl dX7_wool_29 ?_
      refine lv_iload_n hx hb dX7_wool_32 rfl (lv_at hl 1 rfl) ?_
      refine lv_iconst (v := 2) hx hb dX7_wool_33 (by decide) ?_
      obtain ⟨r_34, hc_34, hm⟩ := ob_s hm
      refine q_ci (q_rv (rest := []) ⟨hx, hb, hml, hown, hts⟩ hK hN hP hD (c_X3_cell l D cI cZ H.size AT_he_sl AT_he_sl_c 4 24 vT_he_sl_n fT_he_sl_c p1 2 r_34 hc_34) mb_X3_cell mv_X3_cell wl_X7_138 [2, 3] rfl rfl rfl (Nat.le_of_ble_eq_true rfl) (Nat.le_of_ble_eq_true rfl) rfl hl.1 rfl (Nat.le_of_ble_eq_true rfl) ⟨Nat.le_refl 0, Nat.le_refl 0⟩ dX7_wool_34) hP hD hS hA [2, 3] rfl rfl (fun H locs hP hD hS => ?_)
      have hP : va_P D vwCl (wd_X7_wool cI cZ AT AT_he AT_iz AT_io AT_tx AT_rd AT_fo AT_fi AT_he_sl AT_he_fl AT_he_ro AT_he_nt AT_he_mk AT_he_mo AT_he_sl_c AT_he_mo_c AT_he_fl_c vT_ab vT_be vT_bo vT_no vT_fu vT_he_ng vT_he_sl_n fT_he_sl_c vT_he_mo_n fT_he_mo_c vT_he_fl_n fT_he_fl_c) H := hP
      have hD : va_D A (wd_X7_wool cI cZ AT AT_he AT_iz AT_io AT_tx AT_rd AT_fo AT_fi AT_he_sl AT_he_fl AT_he_ro AT_he_nt AT_he_mk AT_he_mo AT_he_sl_c AT_he_mo_c AT_he_fl_c vT_ab vT_be vT_bo vT_no vT_fu vT_he_ng vT_he_sl_n fT_he_sl_c vT_he_mo_n fT_he_mo_c vT_he_fl_n fT_he_fl_c) := hD
      refine lv_istore_n (lv' := [(3, .int r_34), (0, .ref AT), (1, .int p1), (2, .int p2)]) hx hb dX7_wool_37 rfl hl (by decide) rfl (fun ls hl => ?_)
      refine lv_iload_n hx hb dX7_wool_38 rfl (lv_at hl 0 rfl) ?_
      refine lv_iload_n hx hb dX7_wool_39 rfl (lv_at hl 3 rfl) ?_
      refine lv_icmp_ne (tgt := 50) hx hb dX7_wool_40 (by decide) (fun c_40 => ?_) (fun c_40 => ?_)
      · have hm := it_n c_40 hm
        refine lv_aload_n hx hb dX7_wool_50 rfl (lv_at hl 1 rfl) ?_
        refine gf_X7_17 (v := .ref AT_he) hx hb hts hown hK hN hP 0 rfl rfl dX7_wool_51 ?_
        obtain ⟨r_54, hc_54, hm⟩ := ob_s hm
        refine q_cv (q_rv (rest := []) ⟨hx, hb, hml, hown, hts⟩ hK hN hP hD (c_X4_remember l D cI cZ H.size AT_he AT_he_sl AT_he_fl AT_he_ro AT_he_nt AT_he_mk AT_he_mo AT_he_mo_c AT_he_sl_c AT_he_fl_c vT_he_ng vT_he_mo_n fT_he_mo_c vT_he_sl_n fT_he_sl_c vT_he_fl_n fT_he_fl_c r_54 hc_54) mb_X4_remember mv_X4_remember wl_X7_119 [1, 4, 5, 2, 3, 6, 7] rfl rfl rfl (Nat.le_of_ble_eq_true rfl) (Nat.le_of_ble_eq_true rfl) rfl hl.1 rfl (Nat.le_of_ble_eq_true rfl) ⟨Nat.le_refl 0, Nat.le_refl 0⟩ dX7_wool_54) hP hD hS hA [1, 4, 5, 2, 3, 6, 7] rfl rfl (fun H locs hP hD hS => ?_)
        have hP : va_P D vwCl (wd_X7_wool cI cZ AT AT_he AT_iz AT_io AT_tx AT_rd AT_fo AT_fi AT_he_sl AT_he_fl AT_he_ro AT_he_nt AT_he_mk AT_he_mo AT_he_sl_c AT_he_mo_c AT_he_fl_c vT_ab vT_be vT_bo vT_no vT_fu vT_he_ng vT_he_sl_n fT_he_sl_c r_54.1 r_54.2 vT_he_fl_n fT_he_fl_c) H := hP
        have hD : va_D A (wd_X7_wool cI cZ AT AT_he AT_iz AT_io AT_tx AT_rd AT_fo AT_fi AT_he_sl AT_he_fl AT_he_ro AT_he_nt AT_he_mk AT_he_mo AT_he_sl_c AT_he_mo_c AT_he_fl_c vT_ab vT_be vT_bo vT_no vT_fu vT_he_ng vT_he_sl_n fT_he_sl_c r_54.1 r_54.2 vT_he_fl_n fT_he_fl_c) := hD
        refine lv_aload_n hx hb dX7_wool_57 rfl (lv_at hl 1 rfl) ?_
        refine gf_X7_17 (v := .ref AT_he) hx hb hts hown hK hN hP 0 rfl rfl dX7_wool_58 ?_
        refine gf_X7_67 (v := .ref AT_he_sl) hx hb hts hown hK hN hP 1 rfl rfl dX7_wool_61 ?_
        refine lv_iload_n hx hb dX7_wool_64 rfl (lv_at hl 2 rfl) ?_
        refine lv_iconst (v := 2) hx hb dX7_wool_65 (by decide) ?_
        refine lv_iload_n hx hb dX7_wool_66 rfl (lv_at hl 3 rfl) ?_
        obtain ⟨r_67, hc_67, hm⟩ := ob_s hm
        refine q_cv (q_rv (rest := []) ⟨hx, hb, hml, hown, hts⟩ hK hN hP hD (c_X3_write l D cI cZ H.size AT_he_sl AT_he_sl_c 4 24 vT_he_sl_n fT_he_sl_c p1 2 p2 r_67 hc_67) mb_X3_write mv_X3_write wl_X7_142 [2, 3] rfl rfl rfl (Nat.le_of_ble_eq_true rfl) (Nat.le_of_ble_eq_true rfl) rfl hl.1 rfl (Nat.le_of_ble_eq_true rfl) ⟨Nat.le_refl 0, Nat.le_refl 0⟩ dX7_wool_67) hP hD hS hA [2, 3] rfl rfl (fun H locs hP hD hS => ?_)
        have hP : va_P D vwCl (wd_X7_wool cI cZ AT AT_he AT_iz AT_io AT_tx AT_rd AT_fo AT_fi AT_he_sl AT_he_fl AT_he_ro AT_he_nt AT_he_mk AT_he_mo AT_he_sl_c AT_he_mo_c AT_he_fl_c vT_ab vT_be vT_bo vT_no vT_fu vT_he_ng vT_he_sl_n r_67 r_54.1 r_54.2 vT_he_fl_n fT_he_fl_c) H := hP
        have hD : va_D A (wd_X7_wool cI cZ AT AT_he AT_iz AT_io AT_tx AT_rd AT_fo AT_fi AT_he_sl AT_he_fl AT_he_ro AT_he_nt AT_he_mk AT_he_mo AT_he_sl_c AT_he_mo_c AT_he_fl_c vT_ab vT_be vT_bo vT_no vT_fu vT_he_ng vT_he_sl_n r_67 r_54.1 r_54.2 vT_he_fl_n fT_he_fl_c) := hD
        refine lv_iload_n hx hb dX7_wool_70 rfl (lv_at hl 0 rfl) ?_
        have hm := Option.some.inj hm
        subst hm
        exact q_iret (v := r_34) hx hb hr hlocks hP hS dX7_wool_71
      · have hm := it_s c_40 hm
        refine lv_aload_n hx hb dX7_wool_43 rfl (lv_at hl 1 rfl) ?_
        refine lv_bipush (v := (-3)) hx hb dX7_wool_44 (by decide) ?_
        obtain ⟨r_46, hc_46, hm⟩ := ob_s hm
        refine q_ci (q_rv (rest := []) ⟨hx, hb, hml, hown, hts⟩ hK hN hP hD (c_X7_refused l D cI cZ H.size AT AT_he AT_iz AT_io AT_tx AT_rd AT_fo AT_fi vT_ab vT_be vT_bo vT_no vT_fu (-3) r_46 hc_46) mb_X7_refused mv_X7_refused wl_X7_81 [0] rfl rfl rfl (Nat.le_of_ble_eq_true rfl) (Nat.le_of_ble_eq_true rfl) rfl hl.1 rfl (Nat.le_of_ble_eq_true rfl) ⟨Nat.le_refl 0, Nat.le_refl 0⟩ dX7_wool_46) hP hD hS hA [0] rfl rfl (fun H locs hP hD hS => ?_)
        have hP : va_P D vwCl (wd_X7_wool cI cZ AT AT_he AT_iz AT_io AT_tx AT_rd AT_fo AT_fi AT_he_sl AT_he_fl AT_he_ro AT_he_nt AT_he_mk AT_he_mo AT_he_sl_c AT_he_mo_c AT_he_fl_c vT_ab vT_be r_46.2.1 r_46.2.2.1 r_46.2.2.2 vT_he_ng vT_he_sl_n fT_he_sl_c vT_he_mo_n fT_he_mo_c vT_he_fl_n fT_he_fl_c) H := hP
        have hD : va_D A (wd_X7_wool cI cZ AT AT_he AT_iz AT_io AT_tx AT_rd AT_fo AT_fi AT_he_sl AT_he_fl AT_he_ro AT_he_nt AT_he_mk AT_he_mo AT_he_sl_c AT_he_mo_c AT_he_fl_c vT_ab vT_be r_46.2.1 r_46.2.2.1 r_46.2.2.2 vT_he_ng vT_he_sl_n fT_he_sl_c vT_he_mo_n fT_he_mo_c vT_he_fl_n fT_he_fl_c) := hD
        have hm := Option.some.inj hm
        subst hm
        exact q_iret (v := r_46.1) hx hb hr hlocks hP hS dX7_wool_49
    · have hm := it_s c_15 hm
      refine lv_aload_n hx hb dX7_wool_18 rfl (lv_at hl 0 rfl) ?_
      refine lv_bipush (v := (-2)) hx hb dX7_wool_19 (by decide) ?_
      obtain ⟨r_21, hc_21, hm⟩ := ob_s hm
      refine q_ci (q_rv (rest := []) ⟨hx, hb, hml, hown, hts⟩ hK hN hP hD (c_X7_refused l D cI cZ H.size AT AT_he AT_iz AT_io AT_tx AT_rd AT_fo AT_fi vT_ab vT_be vT_bo vT_no vT_fu (-2) r_21 hc_21) mb_X7_refused mv_X7_refused wl_X7_81 [0] rfl rfl rfl (Nat.le_of_ble_eq_true rfl) (Nat.le_of_ble_eq_true rfl) rfl hl.1 rfl (Nat.le_of_ble_eq_true rfl) ⟨Nat.le_refl 0, Nat.le_refl 0⟩ dX7_wool_21) hP hD hS hA [0] rfl rfl (fun H locs hP hD hS => ?_)
      have hP : va_P D vwCl (wd_X7_wool cI cZ AT AT_he AT_iz AT_io AT_tx AT_rd AT_fo AT_fi AT_he_sl AT_he_fl AT_he_ro AT_he_nt AT_he_mk AT_he_mo AT_he_sl_c AT_he_mo_c AT_he_fl_c vT_ab vT_be r_21.2.1 r_21.2.2.1 r_21.2.2.2 vT_he_ng vT_he_sl_n fT_he_sl_c vT_he_mo_n fT_he_mo_c vT_he_fl_n fT_he_fl_c) H := hP
      have hD : va_D A (wd_X7_wool cI cZ AT AT_he AT_iz AT_io AT_tx AT_rd AT_fo AT_fi AT_he_sl AT_he_fl AT_he_ro AT_he_nt AT_he_mk AT_he_mo AT_he_sl_c AT_he_mo_c AT_he_fl_c vT_ab vT_be r_21.2.1 r_21.2.2.1 r_21.2.2.2 vT_he_ng vT_he_sl_n fT_he_sl_c vT_he_mo_n fT_he_mo_c vT_he_fl_n fT_he_fl_c) := hD
      have hm := Option.some.inj hm
      subst hm
      exact q_iret (v := r_21.1) hx hb hr hlocks hP hS dX7_wool_24
theorem mb_X7_isFlower : q_mb yX7_isFlower cX7_isFlower 2 (some .boolean) 1 := ⟨wc_X7_isFlower, wn_X7, by decide, by decide, by decide +kernel⟩
theorem mv_X7_isFlower : q_mv yX7_isFlower 7 := ⟨wi_X7_isFlower, ws_X7_isFlower, _, rfl, rfl⟩
def wd_X7_isFlower (cI cZ : ClassId) (AT AT_he AT_iz AT_io AT_tx AT_rd AT_fo AT_fi AT_he_sl AT_he_fl AT_he_ro AT_he_nt AT_he_mk AT_he_mo AT_he_fl_c : Nat) (vT_ab : Int32) (vT_be : Int32) (vT_bo : Int32) (vT_no : Int32) (vT_fu : Int32) (vT_he_ng : Int32) (vT_he_fl_n : Int32) : va_W := [(AT, .inr (7, [.ref AT_he, .ref AT_iz, .ref AT_io, .ref AT_tx, .ref AT_rd, .ref AT_fo, .ref AT_fi, .int vT_ab, .int vT_be, .int vT_bo, .int vT_no, .int vT_fu])), (AT_he, .inr (4, [.ref AT_he_sl, .ref AT_he_fl, .ref AT_he_ro, .ref AT_he_nt, .ref AT_he_mk, .ref AT_he_mo, .int vT_he_ng])), (AT_he_fl, .inr (3, [.int 3, .ref AT_he_fl_c, .int vT_he_fl_n]))]
def fm_X7_isFlower (p1 : Int32) (vT_he_fl_n : Int32) : Option (Int32) := if p1 < 0 then (some (0)) else (Option.bind (fm_X3_size vT_he_fl_n) (fun r_12 => if r_12 ≤ p1 then (some (0)) else (some (1))))
set_option maxHeartbeats 4000000 in
set_option maxRecDepth 100000 in
theorem c_X7_isFlower (l : Launch) (D : va_G) (cI cZ : ClassId) (sz : Nat) (AT AT_he AT_iz AT_io AT_tx AT_rd AT_fo AT_fi AT_he_sl AT_he_fl AT_he_ro AT_he_nt AT_he_mk AT_he_mo AT_he_fl_c : Nat) (vT_ab : Int32) (vT_be : Int32) (vT_bo : Int32) (vT_no : Int32) (vT_fu : Int32) (vT_he_ng : Int32) (vT_he_fl_n : Int32) (p1 : Int32) (out : (Int32)) (hm : fm_X7_isFlower p1 vT_he_fl_n = some out) : Met l yX7_isFlower (Cond.code yX7_isFlower cX7_isFlower 2 (some .boolean) :: bg) { frames := 1, cells := 0, slots := 0, locals := 20 } (va_Pc [.ref AT, .int p1] (q_pre D cI cZ sz (wd_X7_isFlower cI cZ AT AT_he AT_iz AT_io AT_tx AT_rd AT_fo AT_fi AT_he_sl AT_he_fl AT_he_ro AT_he_nt AT_he_mk AT_he_mo AT_he_fl_c vT_ab vT_be vT_bo vT_no vT_fu vT_he_ng vT_he_fl_n))) (q_Qi D (wd_X7_isFlower cI cZ AT AT_he AT_iz AT_io AT_tx AT_rd AT_fo AT_fi AT_he_sl AT_he_fl AT_he_ro AT_he_nt AT_he_mk AT_he_mo AT_he_fl_c vT_ab vT_be vT_bo vT_no vT_fu vT_he_ng vT_he_fl_n) out (va_A (wd_X7_isFlower cI cZ AT AT_he AT_iz AT_io AT_tx AT_rd AT_fo AT_fi AT_he_sl AT_he_fl AT_he_ro AT_he_nt AT_he_mk AT_he_mo AT_he_fl_c vT_ab vT_be vT_bo vT_no vT_fu vT_he_ng vT_he_fl_n) sz)) 0 0 (va_A (wd_X7_isFlower cI cZ AT AT_he AT_iz AT_io AT_tx AT_rd AT_fo AT_fi AT_he_sl AT_he_fl AT_he_ro AT_he_nt AT_he_mk AT_he_mo AT_he_fl_c vT_ab vT_be vT_bo vT_no vT_fu vT_he_ng vT_he_fl_n) sz) := by
  refine q_met (fun A => q_Qi D (wd_X7_isFlower cI cZ AT AT_he AT_iz AT_io AT_tx AT_rd AT_fo AT_fi AT_he_sl AT_he_fl AT_he_ro AT_he_nt AT_he_mk AT_he_mo AT_he_fl_c vT_ab vT_be vT_bo vT_no vT_fu vT_he_ng vT_he_fl_n) out A) (by decide) (Nat.le_of_ble_eq_true rfl) ?_
  intro p e s m below meth c ls A hx hb hr hml hown hts hlocks _ hA hS hP hD hK hN hl
  have hown : s.vm.findClass RX7 = some m.cls := hown
  have hl : lv_has ls 2 [(0, .ref AT), (1, .int p1)] := hl
  unfold fm_X7_isFlower at hm
  refine q_gen hS hP ?_
  intro H locs hP hS
  refine lv_iload_n hx hb dX7_isFlower_0 rfl (lv_at hl 1 rfl) ?_
  refine lv_if_lt (tgt := 22) hx hb dX7_isFlower_1 (by decide) (fun c_1 => ?_) (fun c_1 => ?_)
  · have hm := it_s c_1 hm
    refine lv_iconst (v := 0) hx hb dX7_isFlower_22 (by decide) ?_
    have hm := Option.some.inj hm
    subst hm
    exact q_zret (v := 0) hx hb hr hlocks rfl hP hS dX7_isFlower_23
  · have hm := it_n c_1 hm
    refine lv_iload_n hx hb dX7_isFlower_4 rfl (lv_at hl 1 rfl) ?_
    refine lv_aload_n hx hb dX7_isFlower_5 rfl (lv_at hl 0 rfl) ?_
    refine gf_X7_17 (v := .ref AT_he) hx hb hts hown hK hN hP 0 rfl rfl dX7_isFlower_6 ?_
    refine gf_X7_96 (v := .ref AT_he_fl) hx hb hts hown hK hN hP 1 rfl rfl dX7_isFlower_9 ?_
    obtain ⟨r_12, hc_12, hm⟩ := ob_s hm
    refine q_ci (q_rv (rest := [.int p1]) ⟨hx, hb, hml, hown, hts⟩ hK hN hP hD (c_X3_size l D cI cZ H.size AT_he_fl AT_he_fl_c 3 vT_he_fl_n r_12 hc_12) mb_X3_size mv_X3_size wl_X7_70 [2] rfl rfl rfl (Nat.le_of_ble_eq_true rfl) (Nat.le_of_ble_eq_true rfl) rfl hl.1 rfl (Nat.le_of_ble_eq_true rfl) ⟨Nat.le_refl 0, Nat.le_refl 0⟩ dX7_isFlower_12) hP hD hS hA [2] rfl rfl (fun H locs hP hD hS => ?_)
    have hP : va_P D vwCl (wd_X7_isFlower cI cZ AT AT_he AT_iz AT_io AT_tx AT_rd AT_fo AT_fi AT_he_sl AT_he_fl AT_he_ro AT_he_nt AT_he_mk AT_he_mo AT_he_fl_c vT_ab vT_be vT_bo vT_no vT_fu vT_he_ng vT_he_fl_n) H := hP
    have hD : va_D A (wd_X7_isFlower cI cZ AT AT_he AT_iz AT_io AT_tx AT_rd AT_fo AT_fi AT_he_sl AT_he_fl AT_he_ro AT_he_nt AT_he_mk AT_he_mo AT_he_fl_c vT_ab vT_be vT_bo vT_no vT_fu vT_he_ng vT_he_fl_n) := hD
    refine lv_icmp_ge (tgt := 22) hx hb dX7_isFlower_15 (by decide) (fun c_15 => ?_) (fun c_15 => ?_)
    · have hm := it_s c_15 hm
      refine lv_iconst (v := 0) hx hb dX7_isFlower_22 (by decide) ?_
      have hm := Option.some.inj hm
      subst hm
      exact q_zret (v := 0) hx hb hr hlocks rfl hP hS dX7_isFlower_23
    · have hm := it_n c_15 hm
      refine lv_iconst (v := 1) hx hb dX7_isFlower_18 (by decide) ?_
      refine lv_goto (tgt := 23) hx hb dX7_isFlower_19 (by decide) ?_
      have hm := Option.some.inj hm
      subst hm
      exact q_zret (v := 1) hx hb hr hlocks rfl hP hS dX7_isFlower_23
theorem mb_X7_sends : q_mb yX7_sends cX7_sends 4 (some .int) 2 := ⟨wc_X7_sends, wn_X7, by decide, by decide, by decide +kernel⟩
theorem mv_X7_sends : q_mv yX7_sends 7 := ⟨wi_X7_sends, ws_X7_sends, _, rfl, rfl⟩
def wd_X7_sends (cI cZ : ClassId) (AT AT_he AT_iz AT_io AT_tx AT_rd AT_fo AT_fi AT_he_sl AT_he_fl AT_he_ro AT_he_nt AT_he_mk AT_he_mo AT_he_fl_c AT_he_mo_c AT_he_sl_c : Nat) (vT_ab : Int32) (vT_be : Int32) (vT_bo : Int32) (vT_no : Int32) (vT_fu : Int32) (vT_he_ng : Int32) (vT_he_fl_n : Int32) (fT_he_fl_c : Nat → Int32) (vT_he_mo_n : Int32) (fT_he_mo_c : Nat → Int32) (vT_he_sl_n : Int32) (fT_he_sl_c : Nat → Int32) : va_W := [(AT, .inr (7, [.ref AT_he, .ref AT_iz, .ref AT_io, .ref AT_tx, .ref AT_rd, .ref AT_fo, .ref AT_fi, .int vT_ab, .int vT_be, .int vT_bo, .int vT_no, .int vT_fu])), (AT_he, .inr (4, [.ref AT_he_sl, .ref AT_he_fl, .ref AT_he_ro, .ref AT_he_nt, .ref AT_he_mk, .ref AT_he_mo, .int vT_he_ng])), (AT_he_fl, .inr (3, [.int 3, .ref AT_he_fl_c, .int vT_he_fl_n])), (AT_he_fl_c, .inl (cI, 18, .inl fT_he_fl_c)), (AT_he_mo, .inr (3, [.int 25, .ref AT_he_mo_c, .int vT_he_mo_n])), (AT_he_mo_c, .inl (cI, 200, .inl fT_he_mo_c)), (AT_he_sl, .inr (3, [.int 4, .ref AT_he_sl_c, .int vT_he_sl_n])), (AT_he_sl_c, .inl (cI, 24, .inl fT_he_sl_c))]
def fm_X7_sends (p1 : Int32) (p2 : Int32) (vT_bo : Int32) (vT_no : Int32) (vT_fu : Int32) (vT_he_ng : Int32) (vT_he_fl_n : Int32) (fT_he_fl_c : Nat → Int32) (vT_he_mo_n : Int32) (fT_he_mo_c : Nat → Int32) (vT_he_sl_n : Int32) (fT_he_sl_c : Nat → Int32) : Option (Int32 × Int32 × Int32 × Int32 × (Nat → Int32) × Int32 × (Nat → Int32)) := Option.bind (fm_X7_isFlower p1 vT_he_fl_n) (fun r_2 => if r_2 = 0 then (Option.bind (fm_X7_refused (-2) vT_bo vT_no vT_fu) (fun r_18 => some (r_18.1, r_18.2.1, r_18.2.2.1, r_18.2.2.2, fT_he_fl_c, vT_he_mo_n, fT_he_mo_c))) else (Option.bind (fm_X7_isPillow p2) (fun r_9 => if r_9 = 0 then (Option.bind (fm_X7_refused (-2) vT_bo vT_no vT_fu) (fun r_18 => some (r_18.1, r_18.2.1, r_18.2.2.1, r_18.2.2.2, fT_he_fl_c, vT_he_mo_n, fT_he_mo_c))) else (Option.bind (fm_X3_cell 3 18 p1 2 vT_he_fl_n fT_he_fl_c) (fun r_31 => if r_31 = p2 then (Option.bind (fm_X7_refused (-3) vT_bo vT_no vT_fu) (fun r_43 => some (r_43.1, r_43.2.1, r_43.2.2.1, r_43.2.2.2, fT_he_fl_c, vT_he_mo_n, fT_he_mo_c))) else (Option.bind (fm_X4_remember vT_he_ng vT_he_mo_n fT_he_mo_c vT_he_sl_n fT_he_sl_c vT_he_fl_n fT_he_fl_c) (fun r_51 => Option.bind (fm_X3_write 3 18 p1 2 p2 vT_he_fl_n fT_he_fl_c) (fun r_64 => some (r_31, vT_bo, vT_no, vT_fu, r_64, r_51.1, r_51.2)))))))))
set_option maxHeartbeats 4000000 in
set_option maxRecDepth 100000 in
theorem c_X7_sends (l : Launch) (D : va_G) (cI cZ : ClassId) (sz : Nat) (AT AT_he AT_iz AT_io AT_tx AT_rd AT_fo AT_fi AT_he_sl AT_he_fl AT_he_ro AT_he_nt AT_he_mk AT_he_mo AT_he_fl_c AT_he_mo_c AT_he_sl_c : Nat) (vT_ab : Int32) (vT_be : Int32) (vT_bo : Int32) (vT_no : Int32) (vT_fu : Int32) (vT_he_ng : Int32) (vT_he_fl_n : Int32) (fT_he_fl_c : Nat → Int32) (vT_he_mo_n : Int32) (fT_he_mo_c : Nat → Int32) (vT_he_sl_n : Int32) (fT_he_sl_c : Nat → Int32) (p1 : Int32) (p2 : Int32) (out : (Int32 × Int32 × Int32 × Int32 × (Nat → Int32) × Int32 × (Nat → Int32))) (hm : fm_X7_sends p1 p2 vT_bo vT_no vT_fu vT_he_ng vT_he_fl_n fT_he_fl_c vT_he_mo_n fT_he_mo_c vT_he_sl_n fT_he_sl_c = some out) : Met l yX7_sends (Cond.code yX7_sends cX7_sends 4 (some .int) :: bg) { frames := 3, cells := 0, slots := 0, locals := 71 } (va_Pc [.ref AT, .int p1, .int p2] (q_pre D cI cZ sz (wd_X7_sends cI cZ AT AT_he AT_iz AT_io AT_tx AT_rd AT_fo AT_fi AT_he_sl AT_he_fl AT_he_ro AT_he_nt AT_he_mk AT_he_mo AT_he_fl_c AT_he_mo_c AT_he_sl_c vT_ab vT_be vT_bo vT_no vT_fu vT_he_ng vT_he_fl_n fT_he_fl_c vT_he_mo_n fT_he_mo_c vT_he_sl_n fT_he_sl_c))) (q_Qi D (wd_X7_sends cI cZ AT AT_he AT_iz AT_io AT_tx AT_rd AT_fo AT_fi AT_he_sl AT_he_fl AT_he_ro AT_he_nt AT_he_mk AT_he_mo AT_he_fl_c AT_he_mo_c AT_he_sl_c vT_ab vT_be out.2.1 out.2.2.1 out.2.2.2.1 vT_he_ng vT_he_fl_n out.2.2.2.2.1 out.2.2.2.2.2.1 out.2.2.2.2.2.2 vT_he_sl_n fT_he_sl_c) out.1 (va_A (wd_X7_sends cI cZ AT AT_he AT_iz AT_io AT_tx AT_rd AT_fo AT_fi AT_he_sl AT_he_fl AT_he_ro AT_he_nt AT_he_mk AT_he_mo AT_he_fl_c AT_he_mo_c AT_he_sl_c vT_ab vT_be vT_bo vT_no vT_fu vT_he_ng vT_he_fl_n fT_he_fl_c vT_he_mo_n fT_he_mo_c vT_he_sl_n fT_he_sl_c) sz)) 0 0 (va_A (wd_X7_sends cI cZ AT AT_he AT_iz AT_io AT_tx AT_rd AT_fo AT_fi AT_he_sl AT_he_fl AT_he_ro AT_he_nt AT_he_mk AT_he_mo AT_he_fl_c AT_he_mo_c AT_he_sl_c vT_ab vT_be vT_bo vT_no vT_fu vT_he_ng vT_he_fl_n fT_he_fl_c vT_he_mo_n fT_he_mo_c vT_he_sl_n fT_he_sl_c) sz) := by
  refine q_met (fun A => q_Qi D (wd_X7_sends cI cZ AT AT_he AT_iz AT_io AT_tx AT_rd AT_fo AT_fi AT_he_sl AT_he_fl AT_he_ro AT_he_nt AT_he_mk AT_he_mo AT_he_fl_c AT_he_mo_c AT_he_sl_c vT_ab vT_be out.2.1 out.2.2.1 out.2.2.2.1 vT_he_ng vT_he_fl_n out.2.2.2.2.1 out.2.2.2.2.2.1 out.2.2.2.2.2.2 vT_he_sl_n fT_he_sl_c) out.1 A) (by decide) (Nat.le_of_ble_eq_true rfl) ?_
  intro p e s m below meth c ls A hx hb hr hml hown hts hlocks _ hA hS hP hD hK hN hl
  have hown : s.vm.findClass RX7 = some m.cls := hown
  have hl : lv_has ls 4 [(0, .ref AT), (1, .int p1), (2, .int p2)] := hl
  unfold fm_X7_sends at hm
  refine q_gen hS hP ?_
  intro H locs hP hS
  refine lv_aload_n hx hb dX7_sends_0 rfl (lv_at hl 0 rfl) ?_
  refine lv_iload_n hx hb dX7_sends_1 rfl (lv_at hl 1 rfl) ?_
  obtain ⟨r_2, hc_2, hm⟩ := ob_s hm
  refine q_ci (q_rv (rest := []) ⟨hx, hb, hml, hown, hts⟩ hK hN hP hD (c_X7_isFlower l D cI cZ H.size AT AT_he AT_iz AT_io AT_tx AT_rd AT_fo AT_fi AT_he_sl AT_he_fl AT_he_ro AT_he_nt AT_he_mk AT_he_mo AT_he_fl_c vT_ab vT_be vT_bo vT_no vT_fu vT_he_ng vT_he_fl_n p1 r_2 hc_2) mb_X7_isFlower mv_X7_isFlower wl_X7_145 [0, 1, 2] rfl rfl rfl (Nat.le_of_ble_eq_true rfl) (Nat.le_of_ble_eq_true rfl) rfl hl.1 rfl (Nat.le_of_ble_eq_true rfl) ⟨Nat.le_refl 0, Nat.le_refl 0⟩ dX7_sends_2) hP hD hS hA [0, 1, 2] rfl rfl (fun H locs hP hD hS => ?_)
  have hP : va_P D vwCl (wd_X7_sends cI cZ AT AT_he AT_iz AT_io AT_tx AT_rd AT_fo AT_fi AT_he_sl AT_he_fl AT_he_ro AT_he_nt AT_he_mk AT_he_mo AT_he_fl_c AT_he_mo_c AT_he_sl_c vT_ab vT_be vT_bo vT_no vT_fu vT_he_ng vT_he_fl_n fT_he_fl_c vT_he_mo_n fT_he_mo_c vT_he_sl_n fT_he_sl_c) H := hP
  have hD : va_D A (wd_X7_sends cI cZ AT AT_he AT_iz AT_io AT_tx AT_rd AT_fo AT_fi AT_he_sl AT_he_fl AT_he_ro AT_he_nt AT_he_mk AT_he_mo AT_he_fl_c AT_he_mo_c AT_he_sl_c vT_ab vT_be vT_bo vT_no vT_fu vT_he_ng vT_he_fl_n fT_he_fl_c vT_he_mo_n fT_he_mo_c vT_he_sl_n fT_he_sl_c) := hD
  refine lv_if_eq (tgt := 15) hx hb dX7_sends_5 (by decide) (fun c_5 => ?_) (fun c_5 => ?_)
  · have hm := it_s c_5 hm
    refine lv_aload_n hx hb dX7_sends_15 rfl (lv_at hl 0 rfl) ?_
    refine lv_bipush (v := (-2)) hx hb dX7_sends_16 (by decide) ?_
    obtain ⟨r_18, hc_18, hm⟩ := ob_s hm
    refine q_ci (q_rv (rest := []) ⟨hx, hb, hml, hown, hts⟩ hK hN hP hD (c_X7_refused l D cI cZ H.size AT AT_he AT_iz AT_io AT_tx AT_rd AT_fo AT_fi vT_ab vT_be vT_bo vT_no vT_fu (-2) r_18 hc_18) mb_X7_refused mv_X7_refused wl_X7_81 [0] rfl rfl rfl (Nat.le_of_ble_eq_true rfl) (Nat.le_of_ble_eq_true rfl) rfl hl.1 rfl (Nat.le_of_ble_eq_true rfl) ⟨Nat.le_refl 0, Nat.le_refl 0⟩ dX7_sends_18) hP hD hS hA [0] rfl rfl (fun H locs hP hD hS => ?_)
    have hP : va_P D vwCl (wd_X7_sends cI cZ AT AT_he AT_iz AT_io AT_tx AT_rd AT_fo AT_fi AT_he_sl AT_he_fl AT_he_ro AT_he_nt AT_he_mk AT_he_mo AT_he_fl_c AT_he_mo_c AT_he_sl_c vT_ab vT_be r_18.2.1 r_18.2.2.1 r_18.2.2.2 vT_he_ng vT_he_fl_n fT_he_fl_c vT_he_mo_n fT_he_mo_c vT_he_sl_n fT_he_sl_c) H := hP
    have hD : va_D A (wd_X7_sends cI cZ AT AT_he AT_iz AT_io AT_tx AT_rd AT_fo AT_fi AT_he_sl AT_he_fl AT_he_ro AT_he_nt AT_he_mk AT_he_mo AT_he_fl_c AT_he_mo_c AT_he_sl_c vT_ab vT_be r_18.2.1 r_18.2.2.1 r_18.2.2.2 vT_he_ng vT_he_fl_n fT_he_fl_c vT_he_mo_n fT_he_mo_c vT_he_sl_n fT_he_sl_c) := hD
    have hm := Option.some.inj hm
    subst hm
    exact q_iret (v := r_18.1) hx hb hr hlocks hP hS dX7_sends_21
  · have hm := it_n c_5 hm
    refine lv_iload_n hx hb dX7_sends_8 rfl (lv_at hl 2 rfl) ?_
    obtain ⟨r_9, hc_9, hm⟩ := ob_s hm
    refine q_ci (q_rs (rest := []) ⟨hx, hb, hml, hown, hts⟩ hK hN hP hD (c_X7_isPillow l D cI cZ H.size p2 r_9 hc_9) mb_X7_isPillow wt_X7_isPillow wl_X7_92 [] rfl rfl (Nat.le_of_ble_eq_true rfl) (Nat.le_of_ble_eq_true rfl) rfl hl.1 rfl (Nat.le_of_ble_eq_true rfl) ⟨Nat.le_refl 0, Nat.le_refl 0⟩ dX7_sends_9) hP hD hS hA [] rfl rfl (fun H locs hP hD hS => ?_)
    have hP : va_P D vwCl (wd_X7_sends cI cZ AT AT_he AT_iz AT_io AT_tx AT_rd AT_fo AT_fi AT_he_sl AT_he_fl AT_he_ro AT_he_nt AT_he_mk AT_he_mo AT_he_fl_c AT_he_mo_c AT_he_sl_c vT_ab vT_be vT_bo vT_no vT_fu vT_he_ng vT_he_fl_n fT_he_fl_c vT_he_mo_n fT_he_mo_c vT_he_sl_n fT_he_sl_c) H := hP
    have hD : va_D A (wd_X7_sends cI cZ AT AT_he AT_iz AT_io AT_tx AT_rd AT_fo AT_fi AT_he_sl AT_he_fl AT_he_ro AT_he_nt AT_he_mk AT_he_mo AT_he_fl_c AT_he_mo_c AT_he_sl_c vT_ab vT_be vT_bo vT_no vT_fu vT_he_ng vT_he_fl_n fT_he_fl_c vT_he_mo_n fT_he_mo_c vT_he_sl_n fT_he_sl_c) := hD
    refine lv_if_ne (tgt := 22) hx hb dX7_sends_12 (by decide) (fun c_12 => ?_) (fun c_12 => ?_)
    · have hm := it_n c_12 hm
      refine lv_aload_n hx hb dX7_sends_22 rfl (lv_at hl 0 rfl) ?_
      refine gf_X7_17 (v := .ref AT_he) hx hb hts hown hK hN hP 0 rfl rfl dX7_sends_23 ?_
      refine gf_X7_96 (v := .ref AT_he_fl) hx hb hts hown hK hN hP 1 rfl rfl dX7_sends_26 ?_
      refine lv_iload_n hx hb dX7_sends_29 rfl (lv_at hl 1 rfl) ?_
      refine lv_iconst (v := 2) hx hb dX7_sends_30 (by decide) ?_
      obtain ⟨r_31, hc_31, hm⟩ := ob_s hm
      refine q_ci (q_rv (rest := []) ⟨hx, hb, hml, hown, hts⟩ hK hN hP hD (c_X3_cell l D cI cZ H.size AT_he_fl AT_he_fl_c 3 18 vT_he_fl_n fT_he_fl_c p1 2 r_31 hc_31) mb_X3_cell mv_X3_cell wl_X7_138 [2, 3] rfl rfl rfl (Nat.le_of_ble_eq_true rfl) (Nat.le_of_ble_eq_true rfl) rfl hl.1 rfl (Nat.le_of_ble_eq_true rfl) ⟨Nat.le_refl 0, Nat.le_refl 0⟩ dX7_sends_31) hP hD hS hA [2, 3] rfl rfl (fun H locs hP hD hS => ?_)
      have hP : va_P D vwCl (wd_X7_sends cI cZ AT AT_he AT_iz AT_io AT_tx AT_rd AT_fo AT_fi AT_he_sl AT_he_fl AT_he_ro AT_he_nt AT_he_mk AT_he_mo AT_he_fl_c AT_he_mo_c AT_he_sl_c vT_ab vT_be vT_bo vT_no vT_fu vT_he_ng vT_he_fl_n fT_he_fl_c vT_he_mo_n fT_he_mo_c vT_he_sl_n fT_he_sl_c) H := hP
      have hD : va_D A (wd_X7_sends cI cZ AT AT_he AT_iz AT_io AT_tx AT_rd AT_fo AT_fi AT_he_sl AT_he_fl AT_he_ro AT_he_nt AT_he_mk AT_he_mo AT_he_fl_c AT_he_mo_c AT_he_sl_c vT_ab vT_be vT_bo vT_no vT_fu vT_he_ng vT_he_fl_n fT_he_fl_c vT_he_mo_n fT_he_mo_c vT_he_sl_n fT_he_sl_c) := hD
      refine lv_istore_n (lv' := [(3, .int r_31), (0, .ref AT), (1, .int p1), (2, .int p2)]) hx hb dX7_sends_34 rfl hl (by decide) rfl (fun ls hl => ?_)
      refine lv_iload_n hx hb dX7_sends_35 rfl (lv_at hl 0 rfl) ?_
      refine lv_iload_n hx hb dX7_sends_36 rfl (lv_at hl 3 rfl) ?_
      refine lv_icmp_ne (tgt := 47) hx hb dX7_sends_37 (by decide) (fun c_37 => ?_) (fun c_37 => ?_)
      · have hm := it_n c_37 hm
        refine lv_aload_n hx hb dX7_sends_47 rfl (lv_at hl 1 rfl) ?_
        refine gf_X7_17 (v := .ref AT_he) hx hb hts hown hK hN hP 0 rfl rfl dX7_sends_48 ?_
        obtain ⟨r_51, hc_51, hm⟩ := ob_s hm
        refine q_cv (q_rv (rest := []) ⟨hx, hb, hml, hown, hts⟩ hK hN hP hD (c_X4_remember l D cI cZ H.size AT_he AT_he_sl AT_he_fl AT_he_ro AT_he_nt AT_he_mk AT_he_mo AT_he_mo_c AT_he_sl_c AT_he_fl_c vT_he_ng vT_he_mo_n fT_he_mo_c vT_he_sl_n fT_he_sl_c vT_he_fl_n fT_he_fl_c r_51 hc_51) mb_X4_remember mv_X4_remember wl_X7_119 [1, 4, 5, 6, 7, 2, 3] rfl rfl rfl (Nat.le_of_ble_eq_true rfl) (Nat.le_of_ble_eq_true rfl) rfl hl.1 rfl (Nat.le_of_ble_eq_true rfl) ⟨Nat.le_refl 0, Nat.le_refl 0⟩ dX7_sends_51) hP hD hS hA [1, 4, 5, 6, 7, 2, 3] rfl rfl (fun H locs hP hD hS => ?_)
        have hP : va_P D vwCl (wd_X7_sends cI cZ AT AT_he AT_iz AT_io AT_tx AT_rd AT_fo AT_fi AT_he_sl AT_he_fl AT_he_ro AT_he_nt AT_he_mk AT_he_mo AT_he_fl_c AT_he_mo_c AT_he_sl_c vT_ab vT_be vT_bo vT_no vT_fu vT_he_ng vT_he_fl_n fT_he_fl_c r_51.1 r_51.2 vT_he_sl_n fT_he_sl_c) H := hP
        have hD : va_D A (wd_X7_sends cI cZ AT AT_he AT_iz AT_io AT_tx AT_rd AT_fo AT_fi AT_he_sl AT_he_fl AT_he_ro AT_he_nt AT_he_mk AT_he_mo AT_he_fl_c AT_he_mo_c AT_he_sl_c vT_ab vT_be vT_bo vT_no vT_fu vT_he_ng vT_he_fl_n fT_he_fl_c r_51.1 r_51.2 vT_he_sl_n fT_he_sl_c) := hD
        refine lv_aload_n hx hb dX7_sends_54 rfl (lv_at hl 1 rfl) ?_
        refine gf_X7_17 (v := .ref AT_he) hx hb hts hown hK hN hP 0 rfl rfl dX7_sends_55 ?_
        refine gf_X7_96 (v := .ref AT_he_fl) hx hb hts hown hK hN hP 1 rfl rfl dX7_sends_58 ?_
        refine lv_iload_n hx hb dX7_sends_61 rfl (lv_at hl 2 rfl) ?_
        refine lv_iconst (v := 2) hx hb dX7_sends_62 (by decide) ?_
        refine lv_iload_n hx hb dX7_sends_63 rfl (lv_at hl 3 rfl) ?_
        obtain ⟨r_64, hc_64, hm⟩ := ob_s hm
        refine q_cv (q_rv (rest := []) ⟨hx, hb, hml, hown, hts⟩ hK hN hP hD (c_X3_write l D cI cZ H.size AT_he_fl AT_he_fl_c 3 18 vT_he_fl_n fT_he_fl_c p1 2 p2 r_64 hc_64) mb_X3_write mv_X3_write wl_X7_142 [2, 3] rfl rfl rfl (Nat.le_of_ble_eq_true rfl) (Nat.le_of_ble_eq_true rfl) rfl hl.1 rfl (Nat.le_of_ble_eq_true rfl) ⟨Nat.le_refl 0, Nat.le_refl 0⟩ dX7_sends_64) hP hD hS hA [2, 3] rfl rfl (fun H locs hP hD hS => ?_)
        have hP : va_P D vwCl (wd_X7_sends cI cZ AT AT_he AT_iz AT_io AT_tx AT_rd AT_fo AT_fi AT_he_sl AT_he_fl AT_he_ro AT_he_nt AT_he_mk AT_he_mo AT_he_fl_c AT_he_mo_c AT_he_sl_c vT_ab vT_be vT_bo vT_no vT_fu vT_he_ng vT_he_fl_n r_64 r_51.1 r_51.2 vT_he_sl_n fT_he_sl_c) H := hP
        have hD : va_D A (wd_X7_sends cI cZ AT AT_he AT_iz AT_io AT_tx AT_rd AT_fo AT_fi AT_he_sl AT_he_fl AT_he_ro AT_he_nt AT_he_mk AT_he_mo AT_he_fl_c AT_he_mo_c AT_he_sl_c vT_ab vT_be vT_bo vT_no vT_fu vT_he_ng vT_he_fl_n r_64 r_51.1 r_51.2 vT_he_sl_n fT_he_sl_c) := hD
        refine lv_iload_n hx hb dX7_sends_67 rfl (lv_at hl 0 rfl) ?_
        have hm := Option.some.inj hm
        subst hm
        exact q_iret (v := r_31) hx hb hr hlocks hP hS dX7_sends_68
      · have hm := it_s c_37 hm
        refine lv_aload_n hx hb dX7_sends_40 rfl (lv_at hl 1 rfl) ?_
        refine lv_bipush (v := (-3)) hx hb dX7_sends_41 (by decide) ?_
        obtain ⟨r_43, hc_43, hm⟩ := ob_s hm
        refine q_ci (q_rv (rest := []) ⟨hx, hb, hml, hown, hts⟩ hK hN hP hD (c_X7_refused l D cI cZ H.size AT AT_he AT_iz AT_io AT_tx AT_rd AT_fo AT_fi vT_ab vT_be vT_bo vT_no vT_fu (-3) r_43 hc_43) mb_X7_refused mv_X7_refused wl_X7_81 [0] rfl rfl rfl (Nat.le_of_ble_eq_true rfl) (Nat.le_of_ble_eq_true rfl) rfl hl.1 rfl (Nat.le_of_ble_eq_true rfl) ⟨Nat.le_refl 0, Nat.le_refl 0⟩ dX7_sends_43) hP hD hS hA [0] rfl rfl (fun H locs hP hD hS => ?_)
        have hP : va_P D vwCl (wd_X7_sends cI cZ AT AT_he AT_iz AT_io AT_tx AT_rd AT_fo AT_fi AT_he_sl AT_he_fl AT_he_ro AT_he_nt AT_he_mk AT_he_mo AT_he_fl_c AT_he_mo_c AT_he_sl_c vT_ab vT_be r_43.2.1 r_43.2.2.1 r_43.2.2.2 vT_he_ng vT_he_fl_n fT_he_fl_c vT_he_mo_n fT_he_mo_c vT_he_sl_n fT_he_sl_c) H := hP
        have hD : va_D A (wd_X7_sends cI cZ AT AT_he AT_iz AT_io AT_tx AT_rd AT_fo AT_fi AT_he_sl AT_he_fl AT_he_ro AT_he_nt AT_he_mk AT_he_mo AT_he_fl_c AT_he_mo_c AT_he_sl_c vT_ab vT_be r_43.2.1 r_43.2.2.1 r_43.2.2.2 vT_he_ng vT_he_fl_n fT_he_fl_c vT_he_mo_n fT_he_mo_c vT_he_sl_n fT_he_sl_c) := hD
        have hm := Option.some.inj hm
        subst hm
        exact q_iret (v := r_43.1) hx hb hr hlocks hP hS dX7_sends_46
    · have hm := it_s c_12 hm
      refine lv_aload_n hx hb dX7_sends_15 rfl (lv_at hl 0 rfl) ?_
      refine lv_bipush (v := (-2)) hx hb dX7_sends_16 (by decide) ?_
      obtain ⟨r_18, hc_18, hm⟩ := ob_s hm
      refine q_ci (q_rv (rest := []) ⟨hx, hb, hml, hown, hts⟩ hK hN hP hD (c_X7_refused l D cI cZ H.size AT AT_he AT_iz AT_io AT_tx AT_rd AT_fo AT_fi vT_ab vT_be vT_bo vT_no vT_fu (-2) r_18 hc_18) mb_X7_refused mv_X7_refused wl_X7_81 [0] rfl rfl rfl (Nat.le_of_ble_eq_true rfl) (Nat.le_of_ble_eq_true rfl) rfl hl.1 rfl (Nat.le_of_ble_eq_true rfl) ⟨Nat.le_refl 0, Nat.le_refl 0⟩ dX7_sends_18) hP hD hS hA [0] rfl rfl (fun H locs hP hD hS => ?_)
      have hP : va_P D vwCl (wd_X7_sends cI cZ AT AT_he AT_iz AT_io AT_tx AT_rd AT_fo AT_fi AT_he_sl AT_he_fl AT_he_ro AT_he_nt AT_he_mk AT_he_mo AT_he_fl_c AT_he_mo_c AT_he_sl_c vT_ab vT_be r_18.2.1 r_18.2.2.1 r_18.2.2.2 vT_he_ng vT_he_fl_n fT_he_fl_c vT_he_mo_n fT_he_mo_c vT_he_sl_n fT_he_sl_c) H := hP
      have hD : va_D A (wd_X7_sends cI cZ AT AT_he AT_iz AT_io AT_tx AT_rd AT_fo AT_fi AT_he_sl AT_he_fl AT_he_ro AT_he_nt AT_he_mk AT_he_mo AT_he_fl_c AT_he_mo_c AT_he_sl_c vT_ab vT_be r_18.2.1 r_18.2.2.1 r_18.2.2.2 vT_he_ng vT_he_fl_n fT_he_fl_c vT_he_mo_n fT_he_mo_c vT_he_sl_n fT_he_sl_c) := hD
      have hm := Option.some.inj hm
      subst hm
      exact q_iret (v := r_18.1) hx hb hr hlocks hP hS dX7_sends_21
theorem gf_X7_148 {p : Program} {l : Launch} {e : Env} {R : Room} {s : State} {m : MethodId} {args : Array Value} {below : List Frame} {meth : Method} {c : Code} {H : Heap} {locs : List Loc} {cells slots : Nat} {Q : State → Prop} {pc : Nat} {ls : Array Slot} {cc : ByteArray} {D : va_G} {cI cZ : ClassId} {ws : va_W} {a : Nat} {rest fs : List Value} (hx : p.tables.exec = Jvm.exec) (hb : c.code = cc) (hts : ∀ w ∈ bg, w.before args s = true) (hown : s.vm.findClass RX7 = some m.cls) (hK : va_K D vwCl (q_tys cI cZ) s) (hN : q_N s) (hP : va_P D vwCl ws H) (q0 : Nat) (he : ws[q0]? = some (a, .inr (4, fs))) {v : Value} (hv : fs[5]? = some v) (hdg : decode cc pc = .ok (.getfield 148, 3)) (kk : W p l e R s m args below meth c H locs cells slots Q (F0 m (pc + 3) ls (v :: rest))) : W p l e R s m args below meth c H locs cells slots Q (F0 m pc ls (.ref a :: rest)) :=
  va_getN (C := RX4) (T := TX4) (N := 7) hx hb hts wu_X4 hown hK hP q0 he rfl 5 (by decide) ((ng_X7_148 hN).use rfl) (fun _ h9 => h9) hv hdg kk
theorem gf_X7_154 {p : Program} {l : Launch} {e : Env} {R : Room} {s : State} {m : MethodId} {args : Array Value} {below : List Frame} {meth : Method} {c : Code} {H : Heap} {locs : List Loc} {cells slots : Nat} {Q : State → Prop} {pc : Nat} {ls : Array Slot} {cc : ByteArray} {D : va_G} {cI cZ : ClassId} {ws : va_W} {a : Nat} {rest fs : List Value} (hx : p.tables.exec = Jvm.exec) (hb : c.code = cc) (hts : ∀ w ∈ bg, w.before args s = true) (hown : s.vm.findClass RX7 = some m.cls) (hK : va_K D vwCl (q_tys cI cZ) s) (hN : q_N s) (hP : va_P D vwCl ws H) (q0 : Nat) (he : ws[q0]? = some (a, .inr (4, fs))) {v : Value} (hv : fs[6]? = some v) (hdg : decode cc pc = .ok (.getfield 154, 3)) (kk : W p l e R s m args below meth c H locs cells slots Q (F0 m (pc + 3) ls (v :: rest))) : W p l e R s m args below meth c H locs cells slots Q (F0 m pc ls (.ref a :: rest)) :=
  va_getN (C := RX4) (T := TX4) (N := 7) hx hb hts wu_X4 hown hK hP q0 he rfl 6 (by decide) ((ng_X7_154 hN).use rfl) (fun _ h9 => h9) hv hdg kk
theorem mb_X7_undo : q_mb yX7_undo cX7_undo 1 (some .int) 0 := ⟨wc_X7_undo, wn_X7, by decide, by decide, by decide +kernel⟩
theorem mv_X7_undo : q_mv yX7_undo 7 := ⟨wi_X7_undo, ws_X7_undo, _, rfl, rfl⟩
def wd_X7_undo (cI cZ : ClassId) (AT AT_he AT_iz AT_io AT_tx AT_rd AT_fo AT_fi AT_he_sl AT_he_fl AT_he_ro AT_he_nt AT_he_mk AT_he_mo AT_he_mo_c AT_he_sl_c AT_he_fl_c : Nat) (vT_ab : Int32) (vT_be : Int32) (vT_bo : Int32) (vT_no : Int32) (vT_fu : Int32) (vT_he_ng : Int32) (vT_he_mo_n : Int32) (vT_he_sl_n : Int32) (fT_he_mo_c : Nat → Int32) (fT_he_sl_c : Nat → Int32) (vT_he_fl_n : Int32) (fT_he_fl_c : Nat → Int32) : va_W := [(AT, .inr (7, [.ref AT_he, .ref AT_iz, .ref AT_io, .ref AT_tx, .ref AT_rd, .ref AT_fo, .ref AT_fi, .int vT_ab, .int vT_be, .int vT_bo, .int vT_no, .int vT_fu])), (AT_he, .inr (4, [.ref AT_he_sl, .ref AT_he_fl, .ref AT_he_ro, .ref AT_he_nt, .ref AT_he_mk, .ref AT_he_mo, .int vT_he_ng])), (AT_he_mo, .inr (3, [.int 25, .ref AT_he_mo_c, .int vT_he_mo_n])), (AT_he_sl, .inr (3, [.int 4, .ref AT_he_sl_c, .int vT_he_sl_n])), (AT_he_mo_c, .inl (cI, 200, .inl fT_he_mo_c)), (AT_he_sl_c, .inl (cI, 24, .inl fT_he_sl_c)), (AT_he_fl, .inr (3, [.int 3, .ref AT_he_fl_c, .int vT_he_fl_n])), (AT_he_fl_c, .inl (cI, 18, .inl fT_he_fl_c))]
def fm_X7_undo (vT_bo : Int32) (vT_no : Int32) (vT_fu : Int32) (vT_he_ng : Int32) (vT_he_mo_n : Int32) (vT_he_sl_n : Int32) (fT_he_mo_c : Nat → Int32) (fT_he_sl_c : Nat → Int32) (vT_he_fl_n : Int32) (fT_he_fl_c : Nat → Int32) : Option (Int32 × Int32 × Int32 × Int32 × Int32 × Int32 × (Nat → Int32) × (Nat → Int32)) := Option.bind (fm_X3_size vT_he_mo_n) (fun r_7 => if r_7 = 0 then (Option.bind (fm_X7_refused (-3) vT_bo vT_no vT_fu) (fun r_16 => some (r_16.1, r_16.2.1, r_16.2.2.1, r_16.2.2.2, vT_he_ng, vT_he_mo_n, fT_he_sl_c, fT_he_fl_c))) else (Option.bind (fm_X4_goBack vT_he_ng vT_he_mo_n vT_he_sl_n fT_he_mo_c fT_he_sl_c vT_he_fl_n fT_he_fl_c) (fun r_24 => some (r_24.1, vT_bo, vT_no, vT_fu, r_24.1, r_24.2.1, r_24.2.2.1, r_24.2.2.2))))
set_option maxHeartbeats 4000000 in
set_option maxRecDepth 100000 in
theorem c_X7_undo (l : Launch) (D : va_G) (cI cZ : ClassId) (sz : Nat) (AT AT_he AT_iz AT_io AT_tx AT_rd AT_fo AT_fi AT_he_sl AT_he_fl AT_he_ro AT_he_nt AT_he_mk AT_he_mo AT_he_mo_c AT_he_sl_c AT_he_fl_c : Nat) (vT_ab : Int32) (vT_be : Int32) (vT_bo : Int32) (vT_no : Int32) (vT_fu : Int32) (vT_he_ng : Int32) (vT_he_mo_n : Int32) (vT_he_sl_n : Int32) (fT_he_mo_c : Nat → Int32) (fT_he_sl_c : Nat → Int32) (vT_he_fl_n : Int32) (fT_he_fl_c : Nat → Int32) (out : (Int32 × Int32 × Int32 × Int32 × Int32 × Int32 × (Nat → Int32) × (Nat → Int32))) (hm : fm_X7_undo vT_bo vT_no vT_fu vT_he_ng vT_he_mo_n vT_he_sl_n fT_he_mo_c fT_he_sl_c vT_he_fl_n fT_he_fl_c = some out) : Met l yX7_undo (Cond.code yX7_undo cX7_undo 1 (some .int) :: bg) { frames := 2, cells := 0, slots := 0, locals := 47 } (va_Pc [.ref AT] (q_pre D cI cZ sz (wd_X7_undo cI cZ AT AT_he AT_iz AT_io AT_tx AT_rd AT_fo AT_fi AT_he_sl AT_he_fl AT_he_ro AT_he_nt AT_he_mk AT_he_mo AT_he_mo_c AT_he_sl_c AT_he_fl_c vT_ab vT_be vT_bo vT_no vT_fu vT_he_ng vT_he_mo_n vT_he_sl_n fT_he_mo_c fT_he_sl_c vT_he_fl_n fT_he_fl_c))) (q_Qi D (wd_X7_undo cI cZ AT AT_he AT_iz AT_io AT_tx AT_rd AT_fo AT_fi AT_he_sl AT_he_fl AT_he_ro AT_he_nt AT_he_mk AT_he_mo AT_he_mo_c AT_he_sl_c AT_he_fl_c vT_ab vT_be out.2.1 out.2.2.1 out.2.2.2.1 out.2.2.2.2.1 out.2.2.2.2.2.1 vT_he_sl_n fT_he_mo_c out.2.2.2.2.2.2.1 vT_he_fl_n out.2.2.2.2.2.2.2) out.1 (va_A (wd_X7_undo cI cZ AT AT_he AT_iz AT_io AT_tx AT_rd AT_fo AT_fi AT_he_sl AT_he_fl AT_he_ro AT_he_nt AT_he_mk AT_he_mo AT_he_mo_c AT_he_sl_c AT_he_fl_c vT_ab vT_be vT_bo vT_no vT_fu vT_he_ng vT_he_mo_n vT_he_sl_n fT_he_mo_c fT_he_sl_c vT_he_fl_n fT_he_fl_c) sz)) 0 0 (va_A (wd_X7_undo cI cZ AT AT_he AT_iz AT_io AT_tx AT_rd AT_fo AT_fi AT_he_sl AT_he_fl AT_he_ro AT_he_nt AT_he_mk AT_he_mo AT_he_mo_c AT_he_sl_c AT_he_fl_c vT_ab vT_be vT_bo vT_no vT_fu vT_he_ng vT_he_mo_n vT_he_sl_n fT_he_mo_c fT_he_sl_c vT_he_fl_n fT_he_fl_c) sz) := by
  refine q_met (fun A => q_Qi D (wd_X7_undo cI cZ AT AT_he AT_iz AT_io AT_tx AT_rd AT_fo AT_fi AT_he_sl AT_he_fl AT_he_ro AT_he_nt AT_he_mk AT_he_mo AT_he_mo_c AT_he_sl_c AT_he_fl_c vT_ab vT_be out.2.1 out.2.2.1 out.2.2.2.1 out.2.2.2.2.1 out.2.2.2.2.2.1 vT_he_sl_n fT_he_mo_c out.2.2.2.2.2.2.1 vT_he_fl_n out.2.2.2.2.2.2.2) out.1 A) (by decide) (Nat.le_of_ble_eq_true rfl) ?_
  intro p e s m below meth c ls A hx hb hr hml hown hts hlocks _ hA hS hP hD hK hN hl
  have hown : s.vm.findClass RX7 = some m.cls := hown
  have hl : lv_has ls 1 [(0, .ref AT)] := hl
  unfold fm_X7_undo at hm
  refine q_gen hS hP ?_
  intro H locs hP hS
  refine lv_aload_n hx hb dX7_undo_0 rfl (lv_at hl 0 rfl) ?_
  refine gf_X7_17 (v := .ref AT_he) hx hb hts hown hK hN hP 0 rfl rfl dX7_undo_1 ?_
  refine gf_X7_148 (v := .ref AT_he_mo) hx hb hts hown hK hN hP 1 rfl rfl dX7_undo_4 ?_
  obtain ⟨r_7, hc_7, hm⟩ := ob_s hm
  refine q_ci (q_rv (rest := []) ⟨hx, hb, hml, hown, hts⟩ hK hN hP hD (c_X3_size l D cI cZ H.size AT_he_mo AT_he_mo_c 25 vT_he_mo_n r_7 hc_7) mb_X3_size mv_X3_size wl_X7_70 [2] rfl rfl rfl (Nat.le_of_ble_eq_true rfl) (Nat.le_of_ble_eq_true rfl) rfl hl.1 rfl (Nat.le_of_ble_eq_true rfl) ⟨Nat.le_refl 0, Nat.le_refl 0⟩ dX7_undo_7) hP hD hS hA [2] rfl rfl (fun H locs hP hD hS => ?_)
  have hP : va_P D vwCl (wd_X7_undo cI cZ AT AT_he AT_iz AT_io AT_tx AT_rd AT_fo AT_fi AT_he_sl AT_he_fl AT_he_ro AT_he_nt AT_he_mk AT_he_mo AT_he_mo_c AT_he_sl_c AT_he_fl_c vT_ab vT_be vT_bo vT_no vT_fu vT_he_ng vT_he_mo_n vT_he_sl_n fT_he_mo_c fT_he_sl_c vT_he_fl_n fT_he_fl_c) H := hP
  have hD : va_D A (wd_X7_undo cI cZ AT AT_he AT_iz AT_io AT_tx AT_rd AT_fo AT_fi AT_he_sl AT_he_fl AT_he_ro AT_he_nt AT_he_mk AT_he_mo AT_he_mo_c AT_he_sl_c AT_he_fl_c vT_ab vT_be vT_bo vT_no vT_fu vT_he_ng vT_he_mo_n vT_he_sl_n fT_he_mo_c fT_he_sl_c vT_he_fl_n fT_he_fl_c) := hD
  refine lv_if_ne (tgt := 20) hx hb dX7_undo_10 (by decide) (fun c_10 => ?_) (fun c_10 => ?_)
  · have hm := it_n c_10 hm
    refine lv_aload_n hx hb dX7_undo_20 rfl (lv_at hl 0 rfl) ?_
    refine gf_X7_17 (v := .ref AT_he) hx hb hts hown hK hN hP 0 rfl rfl dX7_undo_21 ?_
    obtain ⟨r_24, hc_24, hm⟩ := ob_s hm
    refine q_cv (q_rv (rest := []) ⟨hx, hb, hml, hown, hts⟩ hK hN hP hD (c_X4_goBack l D cI cZ H.size AT_he AT_he_sl AT_he_fl AT_he_ro AT_he_nt AT_he_mk AT_he_mo AT_he_mo_c AT_he_sl_c AT_he_fl_c vT_he_ng vT_he_mo_n vT_he_sl_n fT_he_mo_c fT_he_sl_c vT_he_fl_n fT_he_fl_c r_24 hc_24) mb_X4_goBack mv_X4_goBack wl_X7_151 [1, 2, 3, 4, 5, 6, 7] rfl rfl rfl (Nat.le_of_ble_eq_true rfl) (Nat.le_of_ble_eq_true rfl) rfl hl.1 rfl (Nat.le_of_ble_eq_true rfl) ⟨Nat.le_refl 0, Nat.le_refl 0⟩ dX7_undo_24) hP hD hS hA [1, 2, 3, 4, 5, 6, 7] rfl rfl (fun H locs hP hD hS => ?_)
    have hP : va_P D vwCl (wd_X7_undo cI cZ AT AT_he AT_iz AT_io AT_tx AT_rd AT_fo AT_fi AT_he_sl AT_he_fl AT_he_ro AT_he_nt AT_he_mk AT_he_mo AT_he_mo_c AT_he_sl_c AT_he_fl_c vT_ab vT_be vT_bo vT_no vT_fu r_24.1 r_24.2.1 vT_he_sl_n fT_he_mo_c r_24.2.2.1 vT_he_fl_n r_24.2.2.2) H := hP
    have hD : va_D A (wd_X7_undo cI cZ AT AT_he AT_iz AT_io AT_tx AT_rd AT_fo AT_fi AT_he_sl AT_he_fl AT_he_ro AT_he_nt AT_he_mk AT_he_mo AT_he_mo_c AT_he_sl_c AT_he_fl_c vT_ab vT_be vT_bo vT_no vT_fu r_24.1 r_24.2.1 vT_he_sl_n fT_he_mo_c r_24.2.2.1 vT_he_fl_n r_24.2.2.2) := hD
    refine lv_aload_n hx hb dX7_undo_27 rfl (lv_at hl 0 rfl) ?_
    refine gf_X7_17 (v := .ref AT_he) hx hb hts hown hK hN hP 0 rfl rfl dX7_undo_28 ?_
    refine gf_X7_154 (v := .int r_24.1) hx hb hts hown hK hN hP 1 rfl rfl dX7_undo_31 ?_
    have hm := Option.some.inj hm
    subst hm
    exact q_iret (v := r_24.1) hx hb hr hlocks hP hS dX7_undo_34
  · have hm := it_s c_10 hm
    refine lv_aload_n hx hb dX7_undo_13 rfl (lv_at hl 0 rfl) ?_
    refine lv_bipush (v := (-3)) hx hb dX7_undo_14 (by decide) ?_
    obtain ⟨r_16, hc_16, hm⟩ := ob_s hm
    refine q_ci (q_rv (rest := []) ⟨hx, hb, hml, hown, hts⟩ hK hN hP hD (c_X7_refused l D cI cZ H.size AT AT_he AT_iz AT_io AT_tx AT_rd AT_fo AT_fi vT_ab vT_be vT_bo vT_no vT_fu (-3) r_16 hc_16) mb_X7_refused mv_X7_refused wl_X7_81 [0] rfl rfl rfl (Nat.le_of_ble_eq_true rfl) (Nat.le_of_ble_eq_true rfl) rfl hl.1 rfl (Nat.le_of_ble_eq_true rfl) ⟨Nat.le_refl 0, Nat.le_refl 0⟩ dX7_undo_16) hP hD hS hA [0] rfl rfl (fun H locs hP hD hS => ?_)
    have hP : va_P D vwCl (wd_X7_undo cI cZ AT AT_he AT_iz AT_io AT_tx AT_rd AT_fo AT_fi AT_he_sl AT_he_fl AT_he_ro AT_he_nt AT_he_mk AT_he_mo AT_he_mo_c AT_he_sl_c AT_he_fl_c vT_ab vT_be r_16.2.1 r_16.2.2.1 r_16.2.2.2 vT_he_ng vT_he_mo_n vT_he_sl_n fT_he_mo_c fT_he_sl_c vT_he_fl_n fT_he_fl_c) H := hP
    have hD : va_D A (wd_X7_undo cI cZ AT AT_he AT_iz AT_io AT_tx AT_rd AT_fo AT_fi AT_he_sl AT_he_fl AT_he_ro AT_he_nt AT_he_mk AT_he_mo AT_he_mo_c AT_he_sl_c AT_he_fl_c vT_ab vT_be r_16.2.1 r_16.2.2.1 r_16.2.2.2 vT_he_ng vT_he_mo_n vT_he_sl_n fT_he_mo_c fT_he_sl_c vT_he_fl_n fT_he_fl_c) := hD
    have hm := Option.some.inj hm
    subst hm
    exact q_iret (v := r_16.1) hx hb hr hlocks hP hS dX7_undo_19
theorem gf_X7_49 {p : Program} {l : Launch} {e : Env} {R : Room} {s : State} {m : MethodId} {args : Array Value} {below : List Frame} {meth : Method} {c : Code} {H : Heap} {locs : List Loc} {cells slots : Nat} {Q : State → Prop} {pc : Nat} {ls : Array Slot} {cc : ByteArray} {D : va_G} {cI cZ : ClassId} {ws : va_W} {a : Nat} {rest fs : List Value} (hx : p.tables.exec = Jvm.exec) (hb : c.code = cc) (hts : ∀ w ∈ bg, w.before args s = true) (hown : s.vm.findClass RX7 = some m.cls) (hK : va_K D vwCl (q_tys cI cZ) s) (hN : q_N s) (hP : va_P D vwCl ws H) (q0 : Nat) (he : ws[q0]? = some (a, .inr (7, fs))) {v : Value} (hv : fs[5]? = some v) (hdg : decode cc pc = .ok (.getfield 49, 3)) (kk : W p l e R s m args below meth c H locs cells slots Q (F0 m (pc + 3) ls (v :: rest))) : W p l e R s m args below meth c H locs cells slots Q (F0 m pc ls (.ref a :: rest)) :=
  va_get (C := RX7) (T := TX7) (N := 12) hx hb hts wu_X7 hown hK hP q0 he rfl 5 (by decide) (hts _ wf_X7_49) (fun _ h9 => h9) hv hdg kk
theorem mb_X7_of : q_mb yX7_of cX7_of 3 (some .int) 2 := ⟨wc_X7_of, wn_X7, by decide, by decide, by decide +kernel⟩
theorem mv_X7_of : q_mv yX7_of 7 := ⟨wi_X7_of, ws_X7_of, _, rfl, rfl⟩
def wd_X7_of (cI cZ : ClassId) (AT AT_he AT_iz AT_io AT_tx AT_rd AT_fo AT_fi AT_he_sl AT_he_fl AT_he_ro AT_he_nt AT_he_mk AT_he_mo AT_he_sl_c AT_fo_tr AT_fo_ga AT_fo_bb AT_fo_fg AT_fo_sg AT_he_fl_c : Nat) (vT_ab : Int32) (vT_be : Int32) (vT_bo : Int32) (vT_no : Int32) (vT_fu : Int32) (vT_he_ng : Int32) (vT_he_sl_n : Int32) (fT_he_sl_c : Nat → Int32) (vT_he_fl_n : Int32) (fT_he_fl_c : Nat → Int32) : va_W := [(AT, .inr (7, [.ref AT_he, .ref AT_iz, .ref AT_io, .ref AT_tx, .ref AT_rd, .ref AT_fo, .ref AT_fi, .int vT_ab, .int vT_be, .int vT_bo, .int vT_no, .int vT_fu])), (AT_he, .inr (4, [.ref AT_he_sl, .ref AT_he_fl, .ref AT_he_ro, .ref AT_he_nt, .ref AT_he_mk, .ref AT_he_mo, .int vT_he_ng])), (AT_he_sl, .inr (3, [.int 4, .ref AT_he_sl_c, .int vT_he_sl_n])), (AT_fo, .inr (1, [.ref AT_he, .ref AT_fo_tr, .ref AT_fo_ga, .ref AT_fo_bb, .ref AT_fo_fg, .ref AT_fo_sg])), (AT_he_sl_c, .inl (cI, 24, .inl fT_he_sl_c)), (AT_he_fl, .inr (3, [.int 3, .ref AT_he_fl_c, .int vT_he_fl_n])), (AT_he_fl_c, .inl (cI, 18, .inl fT_he_fl_c))]
def fm_X7_of (p1 : Int32) (p2 : Int32) (vT_bo : Int32) (vT_no : Int32) (vT_fu : Int32) (vT_he_ng : Int32) (vT_he_sl_n : Int32) (fT_he_sl_c : Nat → Int32) (vT_he_fl_n : Int32) (fT_he_fl_c : Nat → Int32) : Option (Int32 × Int32 × Int32 × Int32) := Option.bind (fm_X7_isSleeper p1 vT_he_sl_n) (fun r_2 => if r_2 = 0 then (Option.bind (fm_X7_refused (-2) vT_bo vT_no vT_fu) (fun r_20 => some (r_20.1, r_20.2.1, r_20.2.2.1, r_20.2.2.2))) else (Option.bind (fm_X7_within p2 0 4) (fun r_11 => if r_11 = 0 then (Option.bind (fm_X7_refused (-2) vT_bo vT_no vT_fu) (fun r_20 => some (r_20.1, r_20.2.1, r_20.2.2.1, r_20.2.2.2))) else (if 3 < p2 then (Option.bind (fm_X1_believedTonight p1 vT_he_ng vT_he_sl_n fT_he_sl_c vT_he_fl_n fT_he_fl_c) (fun r_49 => some (r_49, vT_bo, vT_no, vT_fu))) else (Option.bind (fm_X3_cell 4 24 p1 p2 vT_he_sl_n fT_he_sl_c) (fun r_38 => some (r_38, vT_bo, vT_no, vT_fu)))))))
set_option maxHeartbeats 4000000 in
set_option maxRecDepth 100000 in
theorem c_X7_of (l : Launch) (D : va_G) (cI cZ : ClassId) (sz : Nat) (AT AT_he AT_iz AT_io AT_tx AT_rd AT_fo AT_fi AT_he_sl AT_he_fl AT_he_ro AT_he_nt AT_he_mk AT_he_mo AT_he_sl_c AT_fo_tr AT_fo_ga AT_fo_bb AT_fo_fg AT_fo_sg AT_he_fl_c : Nat) (vT_ab : Int32) (vT_be : Int32) (vT_bo : Int32) (vT_no : Int32) (vT_fu : Int32) (vT_he_ng : Int32) (vT_he_sl_n : Int32) (fT_he_sl_c : Nat → Int32) (vT_he_fl_n : Int32) (fT_he_fl_c : Nat → Int32) (p1 : Int32) (p2 : Int32) (out : (Int32 × Int32 × Int32 × Int32)) (hm : fm_X7_of p1 p2 vT_bo vT_no vT_fu vT_he_ng vT_he_sl_n fT_he_sl_c vT_he_fl_n fT_he_fl_c = some out) : Met l yX7_of (Cond.code yX7_of cX7_of 3 (some .int) :: bg) { frames := 4, cells := 0, slots := 0, locals := 96 } (va_Pc [.ref AT, .int p1, .int p2] (q_pre D cI cZ sz (wd_X7_of cI cZ AT AT_he AT_iz AT_io AT_tx AT_rd AT_fo AT_fi AT_he_sl AT_he_fl AT_he_ro AT_he_nt AT_he_mk AT_he_mo AT_he_sl_c AT_fo_tr AT_fo_ga AT_fo_bb AT_fo_fg AT_fo_sg AT_he_fl_c vT_ab vT_be vT_bo vT_no vT_fu vT_he_ng vT_he_sl_n fT_he_sl_c vT_he_fl_n fT_he_fl_c))) (q_Qi D (wd_X7_of cI cZ AT AT_he AT_iz AT_io AT_tx AT_rd AT_fo AT_fi AT_he_sl AT_he_fl AT_he_ro AT_he_nt AT_he_mk AT_he_mo AT_he_sl_c AT_fo_tr AT_fo_ga AT_fo_bb AT_fo_fg AT_fo_sg AT_he_fl_c vT_ab vT_be out.2.1 out.2.2.1 out.2.2.2 vT_he_ng vT_he_sl_n fT_he_sl_c vT_he_fl_n fT_he_fl_c) out.1 (va_A (wd_X7_of cI cZ AT AT_he AT_iz AT_io AT_tx AT_rd AT_fo AT_fi AT_he_sl AT_he_fl AT_he_ro AT_he_nt AT_he_mk AT_he_mo AT_he_sl_c AT_fo_tr AT_fo_ga AT_fo_bb AT_fo_fg AT_fo_sg AT_he_fl_c vT_ab vT_be vT_bo vT_no vT_fu vT_he_ng vT_he_sl_n fT_he_sl_c vT_he_fl_n fT_he_fl_c) sz)) 0 0 (va_A (wd_X7_of cI cZ AT AT_he AT_iz AT_io AT_tx AT_rd AT_fo AT_fi AT_he_sl AT_he_fl AT_he_ro AT_he_nt AT_he_mk AT_he_mo AT_he_sl_c AT_fo_tr AT_fo_ga AT_fo_bb AT_fo_fg AT_fo_sg AT_he_fl_c vT_ab vT_be vT_bo vT_no vT_fu vT_he_ng vT_he_sl_n fT_he_sl_c vT_he_fl_n fT_he_fl_c) sz) := by
  refine q_met (fun A => q_Qi D (wd_X7_of cI cZ AT AT_he AT_iz AT_io AT_tx AT_rd AT_fo AT_fi AT_he_sl AT_he_fl AT_he_ro AT_he_nt AT_he_mk AT_he_mo AT_he_sl_c AT_fo_tr AT_fo_ga AT_fo_bb AT_fo_fg AT_fo_sg AT_he_fl_c vT_ab vT_be out.2.1 out.2.2.1 out.2.2.2 vT_he_ng vT_he_sl_n fT_he_sl_c vT_he_fl_n fT_he_fl_c) out.1 A) (by decide) (Nat.le_of_ble_eq_true rfl) ?_
  intro p e s m below meth c ls A hx hb hr hml hown hts hlocks _ hA hS hP hD hK hN hl
  have hown : s.vm.findClass RX7 = some m.cls := hown
  have hl : lv_has ls 3 [(0, .ref AT), (1, .int p1), (2, .int p2)] := hl
  unfold fm_X7_of at hm
  refine q_gen hS hP ?_
  intro H locs hP hS
  refine lv_aload_n hx hb dX7_of_0 rfl (lv_at hl 0 rfl) ?_
  refine lv_iload_n hx hb dX7_of_1 rfl (lv_at hl 1 rfl) ?_
  obtain ⟨r_2, hc_2, hm⟩ := ob_s hm
  refine q_ci (q_rv (rest := []) ⟨hx, hb, hml, hown, hts⟩ hK hN hP hD (c_X7_isSleeper l D cI cZ H.size AT AT_he AT_iz AT_io AT_tx AT_rd AT_fo AT_fi AT_he_sl AT_he_fl AT_he_ro AT_he_nt AT_he_mk AT_he_mo AT_he_sl_c vT_ab vT_be vT_bo vT_no vT_fu vT_he_ng vT_he_sl_n p1 r_2 hc_2) mb_X7_isSleeper mv_X7_isSleeper wl_X7_135 [0, 1, 2] rfl rfl rfl (Nat.le_of_ble_eq_true rfl) (Nat.le_of_ble_eq_true rfl) rfl hl.1 rfl (Nat.le_of_ble_eq_true rfl) ⟨Nat.le_refl 0, Nat.le_refl 0⟩ dX7_of_2) hP hD hS hA [0, 1, 2] rfl rfl (fun H locs hP hD hS => ?_)
  have hP : va_P D vwCl (wd_X7_of cI cZ AT AT_he AT_iz AT_io AT_tx AT_rd AT_fo AT_fi AT_he_sl AT_he_fl AT_he_ro AT_he_nt AT_he_mk AT_he_mo AT_he_sl_c AT_fo_tr AT_fo_ga AT_fo_bb AT_fo_fg AT_fo_sg AT_he_fl_c vT_ab vT_be vT_bo vT_no vT_fu vT_he_ng vT_he_sl_n fT_he_sl_c vT_he_fl_n fT_he_fl_c) H := hP
  have hD : va_D A (wd_X7_of cI cZ AT AT_he AT_iz AT_io AT_tx AT_rd AT_fo AT_fi AT_he_sl AT_he_fl AT_he_ro AT_he_nt AT_he_mk AT_he_mo AT_he_sl_c AT_fo_tr AT_fo_ga AT_fo_bb AT_fo_fg AT_fo_sg AT_he_fl_c vT_ab vT_be vT_bo vT_no vT_fu vT_he_ng vT_he_sl_n fT_he_sl_c vT_he_fl_n fT_he_fl_c) := hD
  refine lv_if_eq (tgt := 17) hx hb dX7_of_5 (by decide) (fun c_5 => ?_) (fun c_5 => ?_)
  · have hm := it_s c_5 hm
    refine lv_aload_n hx hb dX7_of_17 rfl (lv_at hl 0 rfl) ?_
    refine lv_bipush (v := (-2)) hx hb dX7_of_18 (by decide) ?_
    obtain ⟨r_20, hc_20, hm⟩ := ob_s hm
    refine q_ci (q_rv (rest := []) ⟨hx, hb, hml, hown, hts⟩ hK hN hP hD (c_X7_refused l D cI cZ H.size AT AT_he AT_iz AT_io AT_tx AT_rd AT_fo AT_fi vT_ab vT_be vT_bo vT_no vT_fu (-2) r_20 hc_20) mb_X7_refused mv_X7_refused wl_X7_81 [0] rfl rfl rfl (Nat.le_of_ble_eq_true rfl) (Nat.le_of_ble_eq_true rfl) rfl hl.1 rfl (Nat.le_of_ble_eq_true rfl) ⟨Nat.le_refl 0, Nat.le_refl 0⟩ dX7_of_20) hP hD hS hA [0] rfl rfl (fun H locs hP hD hS => ?_)
    have hP : va_P D vwCl (wd_X7_of cI cZ AT AT_he AT_iz AT_io AT_tx AT_rd AT_fo AT_fi AT_he_sl AT_he_fl AT_he_ro AT_he_nt AT_he_mk AT_he_mo AT_he_sl_c AT_fo_tr AT_fo_ga AT_fo_bb AT_fo_fg AT_fo_sg AT_he_fl_c vT_ab vT_be r_20.2.1 r_20.2.2.1 r_20.2.2.2 vT_he_ng vT_he_sl_n fT_he_sl_c vT_he_fl_n fT_he_fl_c) H := hP
    have hD : va_D A (wd_X7_of cI cZ AT AT_he AT_iz AT_io AT_tx AT_rd AT_fo AT_fi AT_he_sl AT_he_fl AT_he_ro AT_he_nt AT_he_mk AT_he_mo AT_he_sl_c AT_fo_tr AT_fo_ga AT_fo_bb AT_fo_fg AT_fo_sg AT_he_fl_c vT_ab vT_be r_20.2.1 r_20.2.2.1 r_20.2.2.2 vT_he_ng vT_he_sl_n fT_he_sl_c vT_he_fl_n fT_he_fl_c) := hD
    have hm := Option.some.inj hm
    subst hm
    exact q_iret (v := r_20.1) hx hb hr hlocks hP hS dX7_of_23
  · have hm := it_n c_5 hm
    refine lv_iload_n hx hb dX7_of_8 rfl (lv_at hl 2 rfl) ?_
    refine lv_iconst (v := 0) hx hb dX7_of_9 (by decide) ?_
    refine lv_iconst (v := 4) hx hb dX7_of_10 (by decide) ?_
    obtain ⟨r_11, hc_11, hm⟩ := ob_s hm
    refine q_ci (q_rs (rest := []) ⟨hx, hb, hml, hown, hts⟩ hK hN hP hD (c_X7_within l D cI cZ H.size p2 0 4 r_11 hc_11) mb_X7_within wt_X7_within wl_X7_77 [] rfl rfl (Nat.le_of_ble_eq_true rfl) (Nat.le_of_ble_eq_true rfl) rfl hl.1 rfl (Nat.le_of_ble_eq_true rfl) ⟨Nat.le_refl 0, Nat.le_refl 0⟩ dX7_of_11) hP hD hS hA [] rfl rfl (fun H locs hP hD hS => ?_)
    have hP : va_P D vwCl (wd_X7_of cI cZ AT AT_he AT_iz AT_io AT_tx AT_rd AT_fo AT_fi AT_he_sl AT_he_fl AT_he_ro AT_he_nt AT_he_mk AT_he_mo AT_he_sl_c AT_fo_tr AT_fo_ga AT_fo_bb AT_fo_fg AT_fo_sg AT_he_fl_c vT_ab vT_be vT_bo vT_no vT_fu vT_he_ng vT_he_sl_n fT_he_sl_c vT_he_fl_n fT_he_fl_c) H := hP
    have hD : va_D A (wd_X7_of cI cZ AT AT_he AT_iz AT_io AT_tx AT_rd AT_fo AT_fi AT_he_sl AT_he_fl AT_he_ro AT_he_nt AT_he_mk AT_he_mo AT_he_sl_c AT_fo_tr AT_fo_ga AT_fo_bb AT_fo_fg AT_fo_sg AT_he_fl_c vT_ab vT_be vT_bo vT_no vT_fu vT_he_ng vT_he_sl_n fT_he_sl_c vT_he_fl_n fT_he_fl_c) := hD
    refine lv_if_ne (tgt := 24) hx hb dX7_of_14 (by decide) (fun c_14 => ?_) (fun c_14 => ?_)
    · have hm := it_n c_14 hm
      refine lv_iload_n hx hb dX7_of_24 rfl (lv_at hl 2 rfl) ?_
      refine lv_iconst (v := 3) hx hb dX7_of_25 (by decide) ?_
      refine lv_icmp_gt (tgt := 44) hx hb dX7_of_26 (by decide) (fun c_26 => ?_) (fun c_26 => ?_)
      · have hm := it_s c_26 hm
        refine lv_aload_n hx hb dX7_of_44 rfl (lv_at hl 0 rfl) ?_
        refine gf_X7_49 (v := .ref AT_fo) hx hb hts hown hK hN hP 0 rfl rfl dX7_of_45 ?_
        refine lv_iload_n hx hb dX7_of_48 rfl (lv_at hl 1 rfl) ?_
        obtain ⟨r_49, hc_49, hm⟩ := ob_s hm
        refine q_ci (q_rv (rest := []) ⟨hx, hb, hml, hown, hts⟩ hK hN hP hD (c_X1_believedTonight l D cI cZ H.size AT_fo AT_he AT_fo_tr AT_fo_ga AT_fo_bb AT_fo_fg AT_fo_sg AT_he_sl AT_he_fl AT_he_ro AT_he_nt AT_he_mk AT_he_mo AT_he_sl_c AT_he_fl_c vT_he_ng vT_he_sl_n fT_he_sl_c vT_he_fl_n fT_he_fl_c p1 r_49 hc_49) mb_X1_believedTonight mv_X1_believedTonight wl_X7_157 [3, 1, 2, 4, 5, 6] rfl rfl rfl (Nat.le_of_ble_eq_true rfl) (Nat.le_of_ble_eq_true rfl) rfl hl.1 rfl (Nat.le_of_ble_eq_true rfl) ⟨Nat.le_refl 0, Nat.le_refl 0⟩ dX7_of_49) hP hD hS hA [3, 1, 2, 4, 5, 6] rfl rfl (fun H locs hP hD hS => ?_)
        have hP : va_P D vwCl (wd_X7_of cI cZ AT AT_he AT_iz AT_io AT_tx AT_rd AT_fo AT_fi AT_he_sl AT_he_fl AT_he_ro AT_he_nt AT_he_mk AT_he_mo AT_he_sl_c AT_fo_tr AT_fo_ga AT_fo_bb AT_fo_fg AT_fo_sg AT_he_fl_c vT_ab vT_be vT_bo vT_no vT_fu vT_he_ng vT_he_sl_n fT_he_sl_c vT_he_fl_n fT_he_fl_c) H := hP
        have hD : va_D A (wd_X7_of cI cZ AT AT_he AT_iz AT_io AT_tx AT_rd AT_fo AT_fi AT_he_sl AT_he_fl AT_he_ro AT_he_nt AT_he_mk AT_he_mo AT_he_sl_c AT_fo_tr AT_fo_ga AT_fo_bb AT_fo_fg AT_fo_sg AT_he_fl_c vT_ab vT_be vT_bo vT_no vT_fu vT_he_ng vT_he_sl_n fT_he_sl_c vT_he_fl_n fT_he_fl_c) := hD
        have hm := Option.some.inj hm
        subst hm
        exact q_iret (v := r_49) hx hb hr hlocks hP hS dX7_of_52
      · have hm := it_n c_26 hm
        refine lv_aload_n hx hb dX7_of_29 rfl (lv_at hl 0 rfl) ?_
        refine gf_X7_17 (v := .ref AT_he) hx hb hts hown hK hN hP 0 rfl rfl dX7_of_30 ?_
        refine gf_X7_67 (v := .ref AT_he_sl) hx hb hts hown hK hN hP 1 rfl rfl dX7_of_33 ?_
        refine lv_iload_n hx hb dX7_of_36 rfl (lv_at hl 1 rfl) ?_
        refine lv_iload_n hx hb dX7_of_37 rfl (lv_at hl 2 rfl) ?_
        obtain ⟨r_38, hc_38, hm⟩ := ob_s hm
        refine q_ci (q_rv (rest := []) ⟨hx, hb, hml, hown, hts⟩ hK hN hP hD (c_X3_cell l D cI cZ H.size AT_he_sl AT_he_sl_c 4 24 vT_he_sl_n fT_he_sl_c p1 p2 r_38 hc_38) mb_X3_cell mv_X3_cell wl_X7_138 [2, 4] rfl rfl rfl (Nat.le_of_ble_eq_true rfl) (Nat.le_of_ble_eq_true rfl) rfl hl.1 rfl (Nat.le_of_ble_eq_true rfl) ⟨Nat.le_refl 0, Nat.le_refl 0⟩ dX7_of_38) hP hD hS hA [2, 4] rfl rfl (fun H locs hP hD hS => ?_)
        have hP : va_P D vwCl (wd_X7_of cI cZ AT AT_he AT_iz AT_io AT_tx AT_rd AT_fo AT_fi AT_he_sl AT_he_fl AT_he_ro AT_he_nt AT_he_mk AT_he_mo AT_he_sl_c AT_fo_tr AT_fo_ga AT_fo_bb AT_fo_fg AT_fo_sg AT_he_fl_c vT_ab vT_be vT_bo vT_no vT_fu vT_he_ng vT_he_sl_n fT_he_sl_c vT_he_fl_n fT_he_fl_c) H := hP
        have hD : va_D A (wd_X7_of cI cZ AT AT_he AT_iz AT_io AT_tx AT_rd AT_fo AT_fi AT_he_sl AT_he_fl AT_he_ro AT_he_nt AT_he_mk AT_he_mo AT_he_sl_c AT_fo_tr AT_fo_ga AT_fo_bb AT_fo_fg AT_fo_sg AT_he_fl_c vT_ab vT_be vT_bo vT_no vT_fu vT_he_ng vT_he_sl_n fT_he_sl_c vT_he_fl_n fT_he_fl_c) := hD
        refine lv_goto (tgt := 52) hx hb dX7_of_41 (by decide) ?_
        have hm := Option.some.inj hm
        subst hm
        exact q_iret (v := r_38) hx hb hr hlocks hP hS dX7_of_52
    · have hm := it_s c_14 hm
      refine lv_aload_n hx hb dX7_of_17 rfl (lv_at hl 0 rfl) ?_
      refine lv_bipush (v := (-2)) hx hb dX7_of_18 (by decide) ?_
      obtain ⟨r_20, hc_20, hm⟩ := ob_s hm
      refine q_ci (q_rv (rest := []) ⟨hx, hb, hml, hown, hts⟩ hK hN hP hD (c_X7_refused l D cI cZ H.size AT AT_he AT_iz AT_io AT_tx AT_rd AT_fo AT_fi vT_ab vT_be vT_bo vT_no vT_fu (-2) r_20 hc_20) mb_X7_refused mv_X7_refused wl_X7_81 [0] rfl rfl rfl (Nat.le_of_ble_eq_true rfl) (Nat.le_of_ble_eq_true rfl) rfl hl.1 rfl (Nat.le_of_ble_eq_true rfl) ⟨Nat.le_refl 0, Nat.le_refl 0⟩ dX7_of_20) hP hD hS hA [0] rfl rfl (fun H locs hP hD hS => ?_)
      have hP : va_P D vwCl (wd_X7_of cI cZ AT AT_he AT_iz AT_io AT_tx AT_rd AT_fo AT_fi AT_he_sl AT_he_fl AT_he_ro AT_he_nt AT_he_mk AT_he_mo AT_he_sl_c AT_fo_tr AT_fo_ga AT_fo_bb AT_fo_fg AT_fo_sg AT_he_fl_c vT_ab vT_be r_20.2.1 r_20.2.2.1 r_20.2.2.2 vT_he_ng vT_he_sl_n fT_he_sl_c vT_he_fl_n fT_he_fl_c) H := hP
      have hD : va_D A (wd_X7_of cI cZ AT AT_he AT_iz AT_io AT_tx AT_rd AT_fo AT_fi AT_he_sl AT_he_fl AT_he_ro AT_he_nt AT_he_mk AT_he_mo AT_he_sl_c AT_fo_tr AT_fo_ga AT_fo_bb AT_fo_fg AT_fo_sg AT_he_fl_c vT_ab vT_be r_20.2.1 r_20.2.2.1 r_20.2.2.2 vT_he_ng vT_he_sl_n fT_he_sl_c vT_he_fl_n fT_he_fl_c) := hD
      have hm := Option.some.inj hm
      subst hm
      exact q_iret (v := r_20.1) hx hb hr hlocks hP hS dX7_of_23
theorem mb_X7_about : q_mb yX7_about cX7_about 3 (some .int) 2 := ⟨wc_X7_about, wn_X7, by decide, by decide, by decide +kernel⟩
theorem mv_X7_about : q_mv yX7_about 7 := ⟨wi_X7_about, ws_X7_about, _, rfl, rfl⟩
def wd_X7_about (cI cZ : ClassId) (AT AT_he AT_iz AT_io AT_tx AT_rd AT_fo AT_fi AT_he_sl AT_he_fl AT_he_ro AT_he_nt AT_he_mk AT_he_mo AT_he_fl_c : Nat) (vT_ab : Int32) (vT_be : Int32) (vT_bo : Int32) (vT_no : Int32) (vT_fu : Int32) (vT_he_ng : Int32) (vT_he_fl_n : Int32) (fT_he_fl_c : Nat → Int32) : va_W := [(AT, .inr (7, [.ref AT_he, .ref AT_iz, .ref AT_io, .ref AT_tx, .ref AT_rd, .ref AT_fo, .ref AT_fi, .int vT_ab, .int vT_be, .int vT_bo, .int vT_no, .int vT_fu])), (AT_he, .inr (4, [.ref AT_he_sl, .ref AT_he_fl, .ref AT_he_ro, .ref AT_he_nt, .ref AT_he_mk, .ref AT_he_mo, .int vT_he_ng])), (AT_he_fl, .inr (3, [.int 3, .ref AT_he_fl_c, .int vT_he_fl_n])), (AT_he_fl_c, .inl (cI, 18, .inl fT_he_fl_c))]
def fm_X7_about (p1 : Int32) (p2 : Int32) (vT_bo : Int32) (vT_no : Int32) (vT_fu : Int32) (vT_he_ng : Int32) (vT_he_fl_n : Int32) (fT_he_fl_c : Nat → Int32) : Option (Int32 × Int32 × Int32 × Int32) := Option.bind (fm_X7_isFlower p1 vT_he_fl_n) (fun r_2 => if r_2 = 0 then (Option.bind (fm_X7_refused (-2) vT_bo vT_no vT_fu) (fun r_20 => some (r_20.1, r_20.2.1, r_20.2.2.1, r_20.2.2.2))) else (Option.bind (fm_X7_within p2 0 3) (fun r_11 => if r_11 = 0 then (Option.bind (fm_X7_refused (-2) vT_bo vT_no vT_fu) (fun r_20 => some (r_20.1, r_20.2.1, r_20.2.2.1, r_20.2.2.2))) else (if 2 < p2 then (Option.bind (fm_X4_toldBy p1 vT_he_ng vT_he_fl_n fT_he_fl_c) (fun r_56 => some (r_56, vT_bo, vT_no, vT_fu))) else (Option.bind (fm_X3_cell 3 18 p1 p2 vT_he_fl_n fT_he_fl_c) (fun r_38 => some (r_38, vT_bo, vT_no, vT_fu)))))))
set_option maxHeartbeats 4000000 in
set_option maxRecDepth 100000 in
theorem c_X7_about (l : Launch) (D : va_G) (cI cZ : ClassId) (sz : Nat) (AT AT_he AT_iz AT_io AT_tx AT_rd AT_fo AT_fi AT_he_sl AT_he_fl AT_he_ro AT_he_nt AT_he_mk AT_he_mo AT_he_fl_c : Nat) (vT_ab : Int32) (vT_be : Int32) (vT_bo : Int32) (vT_no : Int32) (vT_fu : Int32) (vT_he_ng : Int32) (vT_he_fl_n : Int32) (fT_he_fl_c : Nat → Int32) (p1 : Int32) (p2 : Int32) (out : (Int32 × Int32 × Int32 × Int32)) (hm : fm_X7_about p1 p2 vT_bo vT_no vT_fu vT_he_ng vT_he_fl_n fT_he_fl_c = some out) : Met l yX7_about (Cond.code yX7_about cX7_about 3 (some .int) :: bg) { frames := 2, cells := 0, slots := 0, locals := 47 } (va_Pc [.ref AT, .int p1, .int p2] (q_pre D cI cZ sz (wd_X7_about cI cZ AT AT_he AT_iz AT_io AT_tx AT_rd AT_fo AT_fi AT_he_sl AT_he_fl AT_he_ro AT_he_nt AT_he_mk AT_he_mo AT_he_fl_c vT_ab vT_be vT_bo vT_no vT_fu vT_he_ng vT_he_fl_n fT_he_fl_c))) (q_Qi D (wd_X7_about cI cZ AT AT_he AT_iz AT_io AT_tx AT_rd AT_fo AT_fi AT_he_sl AT_he_fl AT_he_ro AT_he_nt AT_he_mk AT_he_mo AT_he_fl_c vT_ab vT_be out.2.1 out.2.2.1 out.2.2.2 vT_he_ng vT_he_fl_n fT_he_fl_c) out.1 (va_A (wd_X7_about cI cZ AT AT_he AT_iz AT_io AT_tx AT_rd AT_fo AT_fi AT_he_sl AT_he_fl AT_he_ro AT_he_nt AT_he_mk AT_he_mo AT_he_fl_c vT_ab vT_be vT_bo vT_no vT_fu vT_he_ng vT_he_fl_n fT_he_fl_c) sz)) 0 0 (va_A (wd_X7_about cI cZ AT AT_he AT_iz AT_io AT_tx AT_rd AT_fo AT_fi AT_he_sl AT_he_fl AT_he_ro AT_he_nt AT_he_mk AT_he_mo AT_he_fl_c vT_ab vT_be vT_bo vT_no vT_fu vT_he_ng vT_he_fl_n fT_he_fl_c) sz) := by
  refine q_met (fun A => q_Qi D (wd_X7_about cI cZ AT AT_he AT_iz AT_io AT_tx AT_rd AT_fo AT_fi AT_he_sl AT_he_fl AT_he_ro AT_he_nt AT_he_mk AT_he_mo AT_he_fl_c vT_ab vT_be out.2.1 out.2.2.1 out.2.2.2 vT_he_ng vT_he_fl_n fT_he_fl_c) out.1 A) (by decide) (Nat.le_of_ble_eq_true rfl) ?_
  intro p e s m below meth c ls A hx hb hr hml hown hts hlocks _ hA hS hP hD hK hN hl
  have hown : s.vm.findClass RX7 = some m.cls := hown
  have hl : lv_has ls 3 [(0, .ref AT), (1, .int p1), (2, .int p2)] := hl
  unfold fm_X7_about at hm
  refine q_gen hS hP ?_
  intro H locs hP hS
  refine lv_aload_n hx hb dX7_about_0 rfl (lv_at hl 0 rfl) ?_
  refine lv_iload_n hx hb dX7_about_1 rfl (lv_at hl 1 rfl) ?_
  obtain ⟨r_2, hc_2, hm⟩ := ob_s hm
  refine q_ci (q_rv (rest := []) ⟨hx, hb, hml, hown, hts⟩ hK hN hP hD (c_X7_isFlower l D cI cZ H.size AT AT_he AT_iz AT_io AT_tx AT_rd AT_fo AT_fi AT_he_sl AT_he_fl AT_he_ro AT_he_nt AT_he_mk AT_he_mo AT_he_fl_c vT_ab vT_be vT_bo vT_no vT_fu vT_he_ng vT_he_fl_n p1 r_2 hc_2) mb_X7_isFlower mv_X7_isFlower wl_X7_145 [0, 1, 2] rfl rfl rfl (Nat.le_of_ble_eq_true rfl) (Nat.le_of_ble_eq_true rfl) rfl hl.1 rfl (Nat.le_of_ble_eq_true rfl) ⟨Nat.le_refl 0, Nat.le_refl 0⟩ dX7_about_2) hP hD hS hA [0, 1, 2] rfl rfl (fun H locs hP hD hS => ?_)
  have hP : va_P D vwCl (wd_X7_about cI cZ AT AT_he AT_iz AT_io AT_tx AT_rd AT_fo AT_fi AT_he_sl AT_he_fl AT_he_ro AT_he_nt AT_he_mk AT_he_mo AT_he_fl_c vT_ab vT_be vT_bo vT_no vT_fu vT_he_ng vT_he_fl_n fT_he_fl_c) H := hP
  have hD : va_D A (wd_X7_about cI cZ AT AT_he AT_iz AT_io AT_tx AT_rd AT_fo AT_fi AT_he_sl AT_he_fl AT_he_ro AT_he_nt AT_he_mk AT_he_mo AT_he_fl_c vT_ab vT_be vT_bo vT_no vT_fu vT_he_ng vT_he_fl_n fT_he_fl_c) := hD
  refine lv_if_eq (tgt := 17) hx hb dX7_about_5 (by decide) (fun c_5 => ?_) (fun c_5 => ?_)
  · have hm := it_s c_5 hm
    refine lv_aload_n hx hb dX7_about_17 rfl (lv_at hl 0 rfl) ?_
    refine lv_bipush (v := (-2)) hx hb dX7_about_18 (by decide) ?_
    obtain ⟨r_20, hc_20, hm⟩ := ob_s hm
    refine q_ci (q_rv (rest := []) ⟨hx, hb, hml, hown, hts⟩ hK hN hP hD (c_X7_refused l D cI cZ H.size AT AT_he AT_iz AT_io AT_tx AT_rd AT_fo AT_fi vT_ab vT_be vT_bo vT_no vT_fu (-2) r_20 hc_20) mb_X7_refused mv_X7_refused wl_X7_81 [0] rfl rfl rfl (Nat.le_of_ble_eq_true rfl) (Nat.le_of_ble_eq_true rfl) rfl hl.1 rfl (Nat.le_of_ble_eq_true rfl) ⟨Nat.le_refl 0, Nat.le_refl 0⟩ dX7_about_20) hP hD hS hA [0] rfl rfl (fun H locs hP hD hS => ?_)
    have hP : va_P D vwCl (wd_X7_about cI cZ AT AT_he AT_iz AT_io AT_tx AT_rd AT_fo AT_fi AT_he_sl AT_he_fl AT_he_ro AT_he_nt AT_he_mk AT_he_mo AT_he_fl_c vT_ab vT_be r_20.2.1 r_20.2.2.1 r_20.2.2.2 vT_he_ng vT_he_fl_n fT_he_fl_c) H := hP
    have hD : va_D A (wd_X7_about cI cZ AT AT_he AT_iz AT_io AT_tx AT_rd AT_fo AT_fi AT_he_sl AT_he_fl AT_he_ro AT_he_nt AT_he_mk AT_he_mo AT_he_fl_c vT_ab vT_be r_20.2.1 r_20.2.2.1 r_20.2.2.2 vT_he_ng vT_he_fl_n fT_he_fl_c) := hD
    have hm := Option.some.inj hm
    subst hm
    exact q_iret (v := r_20.1) hx hb hr hlocks hP hS dX7_about_23
  · have hm := it_n c_5 hm
    refine lv_iload_n hx hb dX7_about_8 rfl (lv_at hl 2 rfl) ?_
    refine lv_iconst (v := 0) hx hb dX7_about_9 (by decide) ?_
    refine lv_iconst (v := 3) hx hb dX7_about_10 (by decide) ?_
    obtain ⟨r_11, hc_11, hm⟩ := ob_s hm
    refine q_ci (q_rs (rest := []) ⟨hx, hb, hml, hown, hts⟩ hK hN hP hD (c_X7_within l D cI cZ H.size p2 0 3 r_11 hc_11) mb_X7_within wt_X7_within wl_X7_77 [] rfl rfl (Nat.le_of_ble_eq_true rfl) (Nat.le_of_ble_eq_true rfl) rfl hl.1 rfl (Nat.le_of_ble_eq_true rfl) ⟨Nat.le_refl 0, Nat.le_refl 0⟩ dX7_about_11) hP hD hS hA [] rfl rfl (fun H locs hP hD hS => ?_)
    have hP : va_P D vwCl (wd_X7_about cI cZ AT AT_he AT_iz AT_io AT_tx AT_rd AT_fo AT_fi AT_he_sl AT_he_fl AT_he_ro AT_he_nt AT_he_mk AT_he_mo AT_he_fl_c vT_ab vT_be vT_bo vT_no vT_fu vT_he_ng vT_he_fl_n fT_he_fl_c) H := hP
    have hD : va_D A (wd_X7_about cI cZ AT AT_he AT_iz AT_io AT_tx AT_rd AT_fo AT_fi AT_he_sl AT_he_fl AT_he_ro AT_he_nt AT_he_mk AT_he_mo AT_he_fl_c vT_ab vT_be vT_bo vT_no vT_fu vT_he_ng vT_he_fl_n fT_he_fl_c) := hD
    refine lv_if_ne (tgt := 24) hx hb dX7_about_14 (by decide) (fun c_14 => ?_) (fun c_14 => ?_)
    · have hm := it_n c_14 hm
      refine lv_iload_n hx hb dX7_about_24 rfl (lv_at hl 2 rfl) ?_
      refine lv_iconst (v := 2) hx hb dX7_about_25 (by decide) ?_
      refine lv_icmp_gt (tgt := 44) hx hb dX7_about_26 (by decide) (fun c_26 => ?_) (fun c_26 => ?_)
      · have hm := it_s c_26 hm
        refine lv_aload_n hx hb dX7_about_44 rfl (lv_at hl 0 rfl) ?_
        refine gf_X7_17 (v := .ref AT_he) hx hb hts hown hK hN hP 0 rfl rfl dX7_about_45 ?_
        refine lv_iload_n hx hb dX7_about_48 rfl (lv_at hl 1 rfl) ?_
        refine lv_aload_n hx hb dX7_about_49 rfl (lv_at hl 0 rfl) ?_
        refine gf_X7_17 (v := .ref AT_he) hx hb hts hown hK hN hP 0 rfl rfl dX7_about_50 ?_
        refine gf_X7_154 (v := .int vT_he_ng) hx hb hts hown hK hN hP 1 rfl rfl dX7_about_53 ?_
        obtain ⟨r_56, hc_56, hm⟩ := ob_s hm
        refine q_ci (q_rv (rest := []) ⟨hx, hb, hml, hown, hts⟩ hK hN hP hD (c_X4_toldBy l D cI cZ H.size AT_he AT_he_sl AT_he_fl AT_he_ro AT_he_nt AT_he_mk AT_he_mo AT_he_fl_c vT_he_ng vT_he_fl_n fT_he_fl_c p1 vT_he_ng r_56 hc_56) mb_X4_toldBy mv_X4_toldBy wl_X7_160 [1, 2, 3] rfl rfl rfl (Nat.le_of_ble_eq_true rfl) (Nat.le_of_ble_eq_true rfl) rfl hl.1 rfl (Nat.le_of_ble_eq_true rfl) ⟨Nat.le_refl 0, Nat.le_refl 0⟩ dX7_about_56) hP hD hS hA [1, 2, 3] rfl rfl (fun H locs hP hD hS => ?_)
        have hP : va_P D vwCl (wd_X7_about cI cZ AT AT_he AT_iz AT_io AT_tx AT_rd AT_fo AT_fi AT_he_sl AT_he_fl AT_he_ro AT_he_nt AT_he_mk AT_he_mo AT_he_fl_c vT_ab vT_be vT_bo vT_no vT_fu vT_he_ng vT_he_fl_n fT_he_fl_c) H := hP
        have hD : va_D A (wd_X7_about cI cZ AT AT_he AT_iz AT_io AT_tx AT_rd AT_fo AT_fi AT_he_sl AT_he_fl AT_he_ro AT_he_nt AT_he_mk AT_he_mo AT_he_fl_c vT_ab vT_be vT_bo vT_no vT_fu vT_he_ng vT_he_fl_n fT_he_fl_c) := hD
        have hm := Option.some.inj hm
        subst hm
        exact q_iret (v := r_56) hx hb hr hlocks hP hS dX7_about_59
      · have hm := it_n c_26 hm
        refine lv_aload_n hx hb dX7_about_29 rfl (lv_at hl 0 rfl) ?_
        refine gf_X7_17 (v := .ref AT_he) hx hb hts hown hK hN hP 0 rfl rfl dX7_about_30 ?_
        refine gf_X7_96 (v := .ref AT_he_fl) hx hb hts hown hK hN hP 1 rfl rfl dX7_about_33 ?_
        refine lv_iload_n hx hb dX7_about_36 rfl (lv_at hl 1 rfl) ?_
        refine lv_iload_n hx hb dX7_about_37 rfl (lv_at hl 2 rfl) ?_
        obtain ⟨r_38, hc_38, hm⟩ := ob_s hm
        refine q_ci (q_rv (rest := []) ⟨hx, hb, hml, hown, hts⟩ hK hN hP hD (c_X3_cell l D cI cZ H.size AT_he_fl AT_he_fl_c 3 18 vT_he_fl_n fT_he_fl_c p1 p2 r_38 hc_38) mb_X3_cell mv_X3_cell wl_X7_138 [2, 3] rfl rfl rfl (Nat.le_of_ble_eq_true rfl) (Nat.le_of_ble_eq_true rfl) rfl hl.1 rfl (Nat.le_of_ble_eq_true rfl) ⟨Nat.le_refl 0, Nat.le_refl 0⟩ dX7_about_38) hP hD hS hA [2, 3] rfl rfl (fun H locs hP hD hS => ?_)
        have hP : va_P D vwCl (wd_X7_about cI cZ AT AT_he AT_iz AT_io AT_tx AT_rd AT_fo AT_fi AT_he_sl AT_he_fl AT_he_ro AT_he_nt AT_he_mk AT_he_mo AT_he_fl_c vT_ab vT_be vT_bo vT_no vT_fu vT_he_ng vT_he_fl_n fT_he_fl_c) H := hP
        have hD : va_D A (wd_X7_about cI cZ AT AT_he AT_iz AT_io AT_tx AT_rd AT_fo AT_fi AT_he_sl AT_he_fl AT_he_ro AT_he_nt AT_he_mk AT_he_mo AT_he_fl_c vT_ab vT_be vT_bo vT_no vT_fu vT_he_ng vT_he_fl_n fT_he_fl_c) := hD
        refine lv_goto (tgt := 59) hx hb dX7_about_41 (by decide) ?_
        have hm := Option.some.inj hm
        subst hm
        exact q_iret (v := r_38) hx hb hr hlocks hP hS dX7_about_59
    · have hm := it_s c_14 hm
      refine lv_aload_n hx hb dX7_about_17 rfl (lv_at hl 0 rfl) ?_
      refine lv_bipush (v := (-2)) hx hb dX7_about_18 (by decide) ?_
      obtain ⟨r_20, hc_20, hm⟩ := ob_s hm
      refine q_ci (q_rv (rest := []) ⟨hx, hb, hml, hown, hts⟩ hK hN hP hD (c_X7_refused l D cI cZ H.size AT AT_he AT_iz AT_io AT_tx AT_rd AT_fo AT_fi vT_ab vT_be vT_bo vT_no vT_fu (-2) r_20 hc_20) mb_X7_refused mv_X7_refused wl_X7_81 [0] rfl rfl rfl (Nat.le_of_ble_eq_true rfl) (Nat.le_of_ble_eq_true rfl) rfl hl.1 rfl (Nat.le_of_ble_eq_true rfl) ⟨Nat.le_refl 0, Nat.le_refl 0⟩ dX7_about_20) hP hD hS hA [0] rfl rfl (fun H locs hP hD hS => ?_)
      have hP : va_P D vwCl (wd_X7_about cI cZ AT AT_he AT_iz AT_io AT_tx AT_rd AT_fo AT_fi AT_he_sl AT_he_fl AT_he_ro AT_he_nt AT_he_mk AT_he_mo AT_he_fl_c vT_ab vT_be r_20.2.1 r_20.2.2.1 r_20.2.2.2 vT_he_ng vT_he_fl_n fT_he_fl_c) H := hP
      have hD : va_D A (wd_X7_about cI cZ AT AT_he AT_iz AT_io AT_tx AT_rd AT_fo AT_fi AT_he_sl AT_he_fl AT_he_ro AT_he_nt AT_he_mk AT_he_mo AT_he_fl_c vT_ab vT_be r_20.2.1 r_20.2.2.1 r_20.2.2.2 vT_he_ng vT_he_fl_n fT_he_fl_c) := hD
      have hm := Option.some.inj hm
      subst hm
      exact q_iret (v := r_20.1) hx hb hr hlocks hP hS dX7_about_23
theorem mb_X7_believes : q_mb yX7_believes cX7_believes 3 (some .int) 2 := ⟨wc_X7_believes, wn_X7, by decide, by decide, by decide +kernel⟩
theorem mv_X7_believes : q_mv yX7_believes 7 := ⟨wi_X7_believes, ws_X7_believes, _, rfl, rfl⟩
def wd_X7_believes (cI cZ : ClassId) (AT AT_he AT_iz AT_io AT_tx AT_rd AT_fo AT_fi AT_he_sl AT_he_fl AT_he_ro AT_he_nt AT_he_mk AT_he_mo AT_he_sl_c AT_he_fl_c : Nat) (vT_ab : Int32) (vT_be : Int32) (vT_bo : Int32) (vT_no : Int32) (vT_fu : Int32) (vT_he_ng : Int32) (vT_he_sl_n : Int32) (vT_he_fl_n : Int32) (fT_he_sl_c : Nat → Int32) (fT_he_fl_c : Nat → Int32) : va_W := [(AT, .inr (7, [.ref AT_he, .ref AT_iz, .ref AT_io, .ref AT_tx, .ref AT_rd, .ref AT_fo, .ref AT_fi, .int vT_ab, .int vT_be, .int vT_bo, .int vT_no, .int vT_fu])), (AT_he, .inr (4, [.ref AT_he_sl, .ref AT_he_fl, .ref AT_he_ro, .ref AT_he_nt, .ref AT_he_mk, .ref AT_he_mo, .int vT_he_ng])), (AT_he_sl, .inr (3, [.int 4, .ref AT_he_sl_c, .int vT_he_sl_n])), (AT_he_fl, .inr (3, [.int 3, .ref AT_he_fl_c, .int vT_he_fl_n])), (AT_he_sl_c, .inl (cI, 24, .inl fT_he_sl_c)), (AT_he_fl_c, .inl (cI, 18, .inl fT_he_fl_c))]
def fm_X7_believes (p1 : Int32) (p2 : Int32) (vT_bo : Int32) (vT_no : Int32) (vT_fu : Int32) (vT_he_ng : Int32) (vT_he_sl_n : Int32) (vT_he_fl_n : Int32) (fT_he_sl_c : Nat → Int32) (fT_he_fl_c : Nat → Int32) : Option (Int32 × Int32 × Int32 × Int32) := Option.bind (fm_X7_isSleeper p1 vT_he_sl_n) (fun r_2 => if r_2 = 0 then (Option.bind (fm_X7_refused (-2) vT_bo vT_no vT_fu) (fun r_19 => some (r_19.1, r_19.2.1, r_19.2.2.1, r_19.2.2.2))) else (Option.bind (fm_X7_isFlower p2 vT_he_fl_n) (fun r_10 => if r_10 = 0 then (Option.bind (fm_X7_refused (-2) vT_bo vT_no vT_fu) (fun r_19 => some (r_19.1, r_19.2.1, r_19.2.2.1, r_19.2.2.2))) else (Option.bind (fm_X4_believedOf p1 p2 vT_he_ng vT_he_sl_n fT_he_sl_c vT_he_fl_n fT_he_fl_c) (fun r_36 => some (r_36, vT_bo, vT_no, vT_fu))))))
set_option maxHeartbeats 4000000 in
set_option maxRecDepth 100000 in
theorem c_X7_believes (l : Launch) (D : va_G) (cI cZ : ClassId) (sz : Nat) (AT AT_he AT_iz AT_io AT_tx AT_rd AT_fo AT_fi AT_he_sl AT_he_fl AT_he_ro AT_he_nt AT_he_mk AT_he_mo AT_he_sl_c AT_he_fl_c : Nat) (vT_ab : Int32) (vT_be : Int32) (vT_bo : Int32) (vT_no : Int32) (vT_fu : Int32) (vT_he_ng : Int32) (vT_he_sl_n : Int32) (vT_he_fl_n : Int32) (fT_he_sl_c : Nat → Int32) (fT_he_fl_c : Nat → Int32) (p1 : Int32) (p2 : Int32) (out : (Int32 × Int32 × Int32 × Int32)) (hm : fm_X7_believes p1 p2 vT_bo vT_no vT_fu vT_he_ng vT_he_sl_n vT_he_fl_n fT_he_sl_c fT_he_fl_c = some out) : Met l yX7_believes (Cond.code yX7_believes cX7_believes 3 (some .int) :: bg) { frames := 3, cells := 0, slots := 0, locals := 70 } (va_Pc [.ref AT, .int p1, .int p2] (q_pre D cI cZ sz (wd_X7_believes cI cZ AT AT_he AT_iz AT_io AT_tx AT_rd AT_fo AT_fi AT_he_sl AT_he_fl AT_he_ro AT_he_nt AT_he_mk AT_he_mo AT_he_sl_c AT_he_fl_c vT_ab vT_be vT_bo vT_no vT_fu vT_he_ng vT_he_sl_n vT_he_fl_n fT_he_sl_c fT_he_fl_c))) (q_Qi D (wd_X7_believes cI cZ AT AT_he AT_iz AT_io AT_tx AT_rd AT_fo AT_fi AT_he_sl AT_he_fl AT_he_ro AT_he_nt AT_he_mk AT_he_mo AT_he_sl_c AT_he_fl_c vT_ab vT_be out.2.1 out.2.2.1 out.2.2.2 vT_he_ng vT_he_sl_n vT_he_fl_n fT_he_sl_c fT_he_fl_c) out.1 (va_A (wd_X7_believes cI cZ AT AT_he AT_iz AT_io AT_tx AT_rd AT_fo AT_fi AT_he_sl AT_he_fl AT_he_ro AT_he_nt AT_he_mk AT_he_mo AT_he_sl_c AT_he_fl_c vT_ab vT_be vT_bo vT_no vT_fu vT_he_ng vT_he_sl_n vT_he_fl_n fT_he_sl_c fT_he_fl_c) sz)) 0 0 (va_A (wd_X7_believes cI cZ AT AT_he AT_iz AT_io AT_tx AT_rd AT_fo AT_fi AT_he_sl AT_he_fl AT_he_ro AT_he_nt AT_he_mk AT_he_mo AT_he_sl_c AT_he_fl_c vT_ab vT_be vT_bo vT_no vT_fu vT_he_ng vT_he_sl_n vT_he_fl_n fT_he_sl_c fT_he_fl_c) sz) := by
  refine q_met (fun A => q_Qi D (wd_X7_believes cI cZ AT AT_he AT_iz AT_io AT_tx AT_rd AT_fo AT_fi AT_he_sl AT_he_fl AT_he_ro AT_he_nt AT_he_mk AT_he_mo AT_he_sl_c AT_he_fl_c vT_ab vT_be out.2.1 out.2.2.1 out.2.2.2 vT_he_ng vT_he_sl_n vT_he_fl_n fT_he_sl_c fT_he_fl_c) out.1 A) (by decide) (Nat.le_of_ble_eq_true rfl) ?_
  intro p e s m below meth c ls A hx hb hr hml hown hts hlocks _ hA hS hP hD hK hN hl
  have hown : s.vm.findClass RX7 = some m.cls := hown
  have hl : lv_has ls 3 [(0, .ref AT), (1, .int p1), (2, .int p2)] := hl
  unfold fm_X7_believes at hm
  refine q_gen hS hP ?_
  intro H locs hP hS
  refine lv_aload_n hx hb dX7_believes_0 rfl (lv_at hl 0 rfl) ?_
  refine lv_iload_n hx hb dX7_believes_1 rfl (lv_at hl 1 rfl) ?_
  obtain ⟨r_2, hc_2, hm⟩ := ob_s hm
  refine q_ci (q_rv (rest := []) ⟨hx, hb, hml, hown, hts⟩ hK hN hP hD (c_X7_isSleeper l D cI cZ H.size AT AT_he AT_iz AT_io AT_tx AT_rd AT_fo AT_fi AT_he_sl AT_he_fl AT_he_ro AT_he_nt AT_he_mk AT_he_mo AT_he_sl_c vT_ab vT_be vT_bo vT_no vT_fu vT_he_ng vT_he_sl_n p1 r_2 hc_2) mb_X7_isSleeper mv_X7_isSleeper wl_X7_135 [0, 1, 2] rfl rfl rfl (Nat.le_of_ble_eq_true rfl) (Nat.le_of_ble_eq_true rfl) rfl hl.1 rfl (Nat.le_of_ble_eq_true rfl) ⟨Nat.le_refl 0, Nat.le_refl 0⟩ dX7_believes_2) hP hD hS hA [0, 1, 2] rfl rfl (fun H locs hP hD hS => ?_)
  have hP : va_P D vwCl (wd_X7_believes cI cZ AT AT_he AT_iz AT_io AT_tx AT_rd AT_fo AT_fi AT_he_sl AT_he_fl AT_he_ro AT_he_nt AT_he_mk AT_he_mo AT_he_sl_c AT_he_fl_c vT_ab vT_be vT_bo vT_no vT_fu vT_he_ng vT_he_sl_n vT_he_fl_n fT_he_sl_c fT_he_fl_c) H := hP
  have hD : va_D A (wd_X7_believes cI cZ AT AT_he AT_iz AT_io AT_tx AT_rd AT_fo AT_fi AT_he_sl AT_he_fl AT_he_ro AT_he_nt AT_he_mk AT_he_mo AT_he_sl_c AT_he_fl_c vT_ab vT_be vT_bo vT_no vT_fu vT_he_ng vT_he_sl_n vT_he_fl_n fT_he_sl_c fT_he_fl_c) := hD
  refine lv_if_eq (tgt := 16) hx hb dX7_believes_5 (by decide) (fun c_5 => ?_) (fun c_5 => ?_)
  · have hm := it_s c_5 hm
    refine lv_aload_n hx hb dX7_believes_16 rfl (lv_at hl 0 rfl) ?_
    refine lv_bipush (v := (-2)) hx hb dX7_believes_17 (by decide) ?_
    obtain ⟨r_19, hc_19, hm⟩ := ob_s hm
    refine q_ci (q_rv (rest := []) ⟨hx, hb, hml, hown, hts⟩ hK hN hP hD (c_X7_refused l D cI cZ H.size AT AT_he AT_iz AT_io AT_tx AT_rd AT_fo AT_fi vT_ab vT_be vT_bo vT_no vT_fu (-2) r_19 hc_19) mb_X7_refused mv_X7_refused wl_X7_81 [0] rfl rfl rfl (Nat.le_of_ble_eq_true rfl) (Nat.le_of_ble_eq_true rfl) rfl hl.1 rfl (Nat.le_of_ble_eq_true rfl) ⟨Nat.le_refl 0, Nat.le_refl 0⟩ dX7_believes_19) hP hD hS hA [0] rfl rfl (fun H locs hP hD hS => ?_)
    have hP : va_P D vwCl (wd_X7_believes cI cZ AT AT_he AT_iz AT_io AT_tx AT_rd AT_fo AT_fi AT_he_sl AT_he_fl AT_he_ro AT_he_nt AT_he_mk AT_he_mo AT_he_sl_c AT_he_fl_c vT_ab vT_be r_19.2.1 r_19.2.2.1 r_19.2.2.2 vT_he_ng vT_he_sl_n vT_he_fl_n fT_he_sl_c fT_he_fl_c) H := hP
    have hD : va_D A (wd_X7_believes cI cZ AT AT_he AT_iz AT_io AT_tx AT_rd AT_fo AT_fi AT_he_sl AT_he_fl AT_he_ro AT_he_nt AT_he_mk AT_he_mo AT_he_sl_c AT_he_fl_c vT_ab vT_be r_19.2.1 r_19.2.2.1 r_19.2.2.2 vT_he_ng vT_he_sl_n vT_he_fl_n fT_he_sl_c fT_he_fl_c) := hD
    have hm := Option.some.inj hm
    subst hm
    exact q_iret (v := r_19.1) hx hb hr hlocks hP hS dX7_believes_22
  · have hm := it_n c_5 hm
    refine lv_aload_n hx hb dX7_believes_8 rfl (lv_at hl 0 rfl) ?_
    refine lv_iload_n hx hb dX7_believes_9 rfl (lv_at hl 2 rfl) ?_
    obtain ⟨r_10, hc_10, hm⟩ := ob_s hm
    refine q_ci (q_rv (rest := []) ⟨hx, hb, hml, hown, hts⟩ hK hN hP hD (c_X7_isFlower l D cI cZ H.size AT AT_he AT_iz AT_io AT_tx AT_rd AT_fo AT_fi AT_he_sl AT_he_fl AT_he_ro AT_he_nt AT_he_mk AT_he_mo AT_he_fl_c vT_ab vT_be vT_bo vT_no vT_fu vT_he_ng vT_he_fl_n p2 r_10 hc_10) mb_X7_isFlower mv_X7_isFlower wl_X7_145 [0, 1, 3] rfl rfl rfl (Nat.le_of_ble_eq_true rfl) (Nat.le_of_ble_eq_true rfl) rfl hl.1 rfl (Nat.le_of_ble_eq_true rfl) ⟨Nat.le_refl 0, Nat.le_refl 0⟩ dX7_believes_10) hP hD hS hA [0, 1, 3] rfl rfl (fun H locs hP hD hS => ?_)
    have hP : va_P D vwCl (wd_X7_believes cI cZ AT AT_he AT_iz AT_io AT_tx AT_rd AT_fo AT_fi AT_he_sl AT_he_fl AT_he_ro AT_he_nt AT_he_mk AT_he_mo AT_he_sl_c AT_he_fl_c vT_ab vT_be vT_bo vT_no vT_fu vT_he_ng vT_he_sl_n vT_he_fl_n fT_he_sl_c fT_he_fl_c) H := hP
    have hD : va_D A (wd_X7_believes cI cZ AT AT_he AT_iz AT_io AT_tx AT_rd AT_fo AT_fi AT_he_sl AT_he_fl AT_he_ro AT_he_nt AT_he_mk AT_he_mo AT_he_sl_c AT_he_fl_c vT_ab vT_be vT_bo vT_no vT_fu vT_he_ng vT_he_sl_n vT_he_fl_n fT_he_sl_c fT_he_fl_c) := hD
    refine lv_if_ne (tgt := 23) hx hb dX7_believes_13 (by decide) (fun c_13 => ?_) (fun c_13 => ?_)
    · have hm := it_n c_13 hm
      refine lv_aload_n hx hb dX7_believes_23 rfl (lv_at hl 0 rfl) ?_
      refine gf_X7_17 (v := .ref AT_he) hx hb hts hown hK hN hP 0 rfl rfl dX7_believes_24 ?_
      refine lv_iload_n hx hb dX7_believes_27 rfl (lv_at hl 1 rfl) ?_
      refine lv_iload_n hx hb dX7_believes_28 rfl (lv_at hl 2 rfl) ?_
      refine lv_aload_n hx hb dX7_believes_29 rfl (lv_at hl 0 rfl) ?_
      refine gf_X7_17 (v := .ref AT_he) hx hb hts hown hK hN hP 0 rfl rfl dX7_believes_30 ?_
      refine gf_X7_154 (v := .int vT_he_ng) hx hb hts hown hK hN hP 1 rfl rfl dX7_believes_33 ?_
      obtain ⟨r_36, hc_36, hm⟩ := ob_s hm
      refine q_ci (q_rv (rest := []) ⟨hx, hb, hml, hown, hts⟩ hK hN hP hD (c_X4_believedOf l D cI cZ H.size AT_he AT_he_sl AT_he_fl AT_he_ro AT_he_nt AT_he_mk AT_he_mo AT_he_sl_c AT_he_fl_c vT_he_ng vT_he_sl_n fT_he_sl_c vT_he_fl_n fT_he_fl_c p1 p2 vT_he_ng r_36 hc_36) mb_X4_believedOf mv_X4_believedOf wl_X7_163 [1, 2, 4, 3, 5] rfl rfl rfl (Nat.le_of_ble_eq_true rfl) (Nat.le_of_ble_eq_true rfl) rfl hl.1 rfl (Nat.le_of_ble_eq_true rfl) ⟨Nat.le_refl 0, Nat.le_refl 0⟩ dX7_believes_36) hP hD hS hA [1, 2, 4, 3, 5] rfl rfl (fun H locs hP hD hS => ?_)
      have hP : va_P D vwCl (wd_X7_believes cI cZ AT AT_he AT_iz AT_io AT_tx AT_rd AT_fo AT_fi AT_he_sl AT_he_fl AT_he_ro AT_he_nt AT_he_mk AT_he_mo AT_he_sl_c AT_he_fl_c vT_ab vT_be vT_bo vT_no vT_fu vT_he_ng vT_he_sl_n vT_he_fl_n fT_he_sl_c fT_he_fl_c) H := hP
      have hD : va_D A (wd_X7_believes cI cZ AT AT_he AT_iz AT_io AT_tx AT_rd AT_fo AT_fi AT_he_sl AT_he_fl AT_he_ro AT_he_nt AT_he_mk AT_he_mo AT_he_sl_c AT_he_fl_c vT_ab vT_be vT_bo vT_no vT_fu vT_he_ng vT_he_sl_n vT_he_fl_n fT_he_sl_c fT_he_fl_c) := hD
      have hm := Option.some.inj hm
      subst hm
      exact q_iret (v := r_36) hx hb hr hlocks hP hS dX7_believes_39
    · have hm := it_s c_13 hm
      refine lv_aload_n hx hb dX7_believes_16 rfl (lv_at hl 0 rfl) ?_
      refine lv_bipush (v := (-2)) hx hb dX7_believes_17 (by decide) ?_
      obtain ⟨r_19, hc_19, hm⟩ := ob_s hm
      refine q_ci (q_rv (rest := []) ⟨hx, hb, hml, hown, hts⟩ hK hN hP hD (c_X7_refused l D cI cZ H.size AT AT_he AT_iz AT_io AT_tx AT_rd AT_fo AT_fi vT_ab vT_be vT_bo vT_no vT_fu (-2) r_19 hc_19) mb_X7_refused mv_X7_refused wl_X7_81 [0] rfl rfl rfl (Nat.le_of_ble_eq_true rfl) (Nat.le_of_ble_eq_true rfl) rfl hl.1 rfl (Nat.le_of_ble_eq_true rfl) ⟨Nat.le_refl 0, Nat.le_refl 0⟩ dX7_believes_19) hP hD hS hA [0] rfl rfl (fun H locs hP hD hS => ?_)
      have hP : va_P D vwCl (wd_X7_believes cI cZ AT AT_he AT_iz AT_io AT_tx AT_rd AT_fo AT_fi AT_he_sl AT_he_fl AT_he_ro AT_he_nt AT_he_mk AT_he_mo AT_he_sl_c AT_he_fl_c vT_ab vT_be r_19.2.1 r_19.2.2.1 r_19.2.2.2 vT_he_ng vT_he_sl_n vT_he_fl_n fT_he_sl_c fT_he_fl_c) H := hP
      have hD : va_D A (wd_X7_believes cI cZ AT AT_he AT_iz AT_io AT_tx AT_rd AT_fo AT_fi AT_he_sl AT_he_fl AT_he_ro AT_he_nt AT_he_mk AT_he_mo AT_he_sl_c AT_he_fl_c vT_ab vT_be r_19.2.1 r_19.2.2.1 r_19.2.2.2 vT_he_ng vT_he_sl_n vT_he_fl_n fT_he_sl_c fT_he_fl_c) := hD
      have hm := Option.some.inj hm
      subst hm
      exact q_iret (v := r_19.1) hx hb hr hlocks hP hS dX7_believes_22
theorem mb_X7_then : q_mb yX7_then cX7_then 3 (some .int) 2 := ⟨wc_X7_then, wn_X7, by decide, by decide, by decide +kernel⟩
theorem mv_X7_then : q_mv yX7_then 7 := ⟨wi_X7_then, ws_X7_then, _, rfl, rfl⟩
def wd_X7_then (cI cZ : ClassId) (AT AT_he AT_iz AT_io AT_tx AT_rd AT_fo AT_fi AT_he_sl AT_he_fl AT_he_ro AT_he_nt AT_he_mk AT_he_mo AT_he_sl_c AT_fo_tr AT_fo_ga AT_fo_bb AT_fo_fg AT_fo_sg AT_he_fl_c : Nat) (vT_ab : Int32) (vT_be : Int32) (vT_bo : Int32) (vT_no : Int32) (vT_fu : Int32) (vT_he_ng : Int32) (vT_he_sl_n : Int32) (fT_he_sl_c : Nat → Int32) (vT_he_fl_n : Int32) (fT_he_fl_c : Nat → Int32) : va_W := [(AT, .inr (7, [.ref AT_he, .ref AT_iz, .ref AT_io, .ref AT_tx, .ref AT_rd, .ref AT_fo, .ref AT_fi, .int vT_ab, .int vT_be, .int vT_bo, .int vT_no, .int vT_fu])), (AT_he, .inr (4, [.ref AT_he_sl, .ref AT_he_fl, .ref AT_he_ro, .ref AT_he_nt, .ref AT_he_mk, .ref AT_he_mo, .int vT_he_ng])), (AT_he_sl, .inr (3, [.int 4, .ref AT_he_sl_c, .int vT_he_sl_n])), (AT_fo, .inr (1, [.ref AT_he, .ref AT_fo_tr, .ref AT_fo_ga, .ref AT_fo_bb, .ref AT_fo_fg, .ref AT_fo_sg])), (AT_he_sl_c, .inl (cI, 24, .inl fT_he_sl_c)), (AT_he_fl, .inr (3, [.int 3, .ref AT_he_fl_c, .int vT_he_fl_n])), (AT_he_fl_c, .inl (cI, 18, .inl fT_he_fl_c))]
def fm_X7_then (p1 : Int32) (p2 : Int32) (vT_bo : Int32) (vT_no : Int32) (vT_fu : Int32) (vT_he_ng : Int32) (vT_he_sl_n : Int32) (fT_he_sl_c : Nat → Int32) (vT_he_fl_n : Int32) (fT_he_fl_c : Nat → Int32) : Option (Int32 × Int32 × Int32 × Int32) := Option.bind (fm_X7_isSleeper p1 vT_he_sl_n) (fun r_2 => if r_2 = 0 then (Option.bind (fm_X7_refused (-2) vT_bo vT_no vT_fu) (fun r_21 => some (r_21.1, r_21.2.1, r_21.2.2.1, r_21.2.2.2))) else (Option.bind (fm_X7_within p2 0 60) (fun r_12 => if r_12 = 0 then (Option.bind (fm_X7_refused (-2) vT_bo vT_no vT_fu) (fun r_21 => some (r_21.1, r_21.2.1, r_21.2.2.1, r_21.2.2.2))) else (Option.bind (fm_X1_mindBehind p1 p2 vT_he_ng vT_he_sl_n fT_he_sl_c vT_he_fl_n fT_he_fl_c) (fun r_31 => some (r_31, vT_bo, vT_no, vT_fu))))))
set_option maxHeartbeats 4000000 in
set_option maxRecDepth 100000 in
theorem c_X7_then (l : Launch) (D : va_G) (cI cZ : ClassId) (sz : Nat) (AT AT_he AT_iz AT_io AT_tx AT_rd AT_fo AT_fi AT_he_sl AT_he_fl AT_he_ro AT_he_nt AT_he_mk AT_he_mo AT_he_sl_c AT_fo_tr AT_fo_ga AT_fo_bb AT_fo_fg AT_fo_sg AT_he_fl_c : Nat) (vT_ab : Int32) (vT_be : Int32) (vT_bo : Int32) (vT_no : Int32) (vT_fu : Int32) (vT_he_ng : Int32) (vT_he_sl_n : Int32) (fT_he_sl_c : Nat → Int32) (vT_he_fl_n : Int32) (fT_he_fl_c : Nat → Int32) (p1 : Int32) (p2 : Int32) (out : (Int32 × Int32 × Int32 × Int32)) (hm : fm_X7_then p1 p2 vT_bo vT_no vT_fu vT_he_ng vT_he_sl_n fT_he_sl_c vT_he_fl_n fT_he_fl_c = some out) : Met l yX7_then (Cond.code yX7_then cX7_then 3 (some .int) :: bg) { frames := 4, cells := 0, slots := 0, locals := 99 } (va_Pc [.ref AT, .int p1, .int p2] (q_pre D cI cZ sz (wd_X7_then cI cZ AT AT_he AT_iz AT_io AT_tx AT_rd AT_fo AT_fi AT_he_sl AT_he_fl AT_he_ro AT_he_nt AT_he_mk AT_he_mo AT_he_sl_c AT_fo_tr AT_fo_ga AT_fo_bb AT_fo_fg AT_fo_sg AT_he_fl_c vT_ab vT_be vT_bo vT_no vT_fu vT_he_ng vT_he_sl_n fT_he_sl_c vT_he_fl_n fT_he_fl_c))) (q_Qi D (wd_X7_then cI cZ AT AT_he AT_iz AT_io AT_tx AT_rd AT_fo AT_fi AT_he_sl AT_he_fl AT_he_ro AT_he_nt AT_he_mk AT_he_mo AT_he_sl_c AT_fo_tr AT_fo_ga AT_fo_bb AT_fo_fg AT_fo_sg AT_he_fl_c vT_ab vT_be out.2.1 out.2.2.1 out.2.2.2 vT_he_ng vT_he_sl_n fT_he_sl_c vT_he_fl_n fT_he_fl_c) out.1 (va_A (wd_X7_then cI cZ AT AT_he AT_iz AT_io AT_tx AT_rd AT_fo AT_fi AT_he_sl AT_he_fl AT_he_ro AT_he_nt AT_he_mk AT_he_mo AT_he_sl_c AT_fo_tr AT_fo_ga AT_fo_bb AT_fo_fg AT_fo_sg AT_he_fl_c vT_ab vT_be vT_bo vT_no vT_fu vT_he_ng vT_he_sl_n fT_he_sl_c vT_he_fl_n fT_he_fl_c) sz)) 0 0 (va_A (wd_X7_then cI cZ AT AT_he AT_iz AT_io AT_tx AT_rd AT_fo AT_fi AT_he_sl AT_he_fl AT_he_ro AT_he_nt AT_he_mk AT_he_mo AT_he_sl_c AT_fo_tr AT_fo_ga AT_fo_bb AT_fo_fg AT_fo_sg AT_he_fl_c vT_ab vT_be vT_bo vT_no vT_fu vT_he_ng vT_he_sl_n fT_he_sl_c vT_he_fl_n fT_he_fl_c) sz) := by
  refine q_met (fun A => q_Qi D (wd_X7_then cI cZ AT AT_he AT_iz AT_io AT_tx AT_rd AT_fo AT_fi AT_he_sl AT_he_fl AT_he_ro AT_he_nt AT_he_mk AT_he_mo AT_he_sl_c AT_fo_tr AT_fo_ga AT_fo_bb AT_fo_fg AT_fo_sg AT_he_fl_c vT_ab vT_be out.2.1 out.2.2.1 out.2.2.2 vT_he_ng vT_he_sl_n fT_he_sl_c vT_he_fl_n fT_he_fl_c) out.1 A) (by decide) (Nat.le_of_ble_eq_true rfl) ?_
  intro p e s m below meth c ls A hx hb hr hml hown hts hlocks _ hA hS hP hD hK hN hl
  have hown : s.vm.findClass RX7 = some m.cls := hown
  have hl : lv_has ls 3 [(0, .ref AT), (1, .int p1), (2, .int p2)] := hl
  unfold fm_X7_then at hm
  refine q_gen hS hP ?_
  intro H locs hP hS
  refine lv_aload_n hx hb dX7_then_0 rfl (lv_at hl 0 rfl) ?_
  refine lv_iload_n hx hb dX7_then_1 rfl (lv_at hl 1 rfl) ?_
  obtain ⟨r_2, hc_2, hm⟩ := ob_s hm
  refine q_ci (q_rv (rest := []) ⟨hx, hb, hml, hown, hts⟩ hK hN hP hD (c_X7_isSleeper l D cI cZ H.size AT AT_he AT_iz AT_io AT_tx AT_rd AT_fo AT_fi AT_he_sl AT_he_fl AT_he_ro AT_he_nt AT_he_mk AT_he_mo AT_he_sl_c vT_ab vT_be vT_bo vT_no vT_fu vT_he_ng vT_he_sl_n p1 r_2 hc_2) mb_X7_isSleeper mv_X7_isSleeper wl_X7_135 [0, 1, 2] rfl rfl rfl (Nat.le_of_ble_eq_true rfl) (Nat.le_of_ble_eq_true rfl) rfl hl.1 rfl (Nat.le_of_ble_eq_true rfl) ⟨Nat.le_refl 0, Nat.le_refl 0⟩ dX7_then_2) hP hD hS hA [0, 1, 2] rfl rfl (fun H locs hP hD hS => ?_)
  have hP : va_P D vwCl (wd_X7_then cI cZ AT AT_he AT_iz AT_io AT_tx AT_rd AT_fo AT_fi AT_he_sl AT_he_fl AT_he_ro AT_he_nt AT_he_mk AT_he_mo AT_he_sl_c AT_fo_tr AT_fo_ga AT_fo_bb AT_fo_fg AT_fo_sg AT_he_fl_c vT_ab vT_be vT_bo vT_no vT_fu vT_he_ng vT_he_sl_n fT_he_sl_c vT_he_fl_n fT_he_fl_c) H := hP
  have hD : va_D A (wd_X7_then cI cZ AT AT_he AT_iz AT_io AT_tx AT_rd AT_fo AT_fi AT_he_sl AT_he_fl AT_he_ro AT_he_nt AT_he_mk AT_he_mo AT_he_sl_c AT_fo_tr AT_fo_ga AT_fo_bb AT_fo_fg AT_fo_sg AT_he_fl_c vT_ab vT_be vT_bo vT_no vT_fu vT_he_ng vT_he_sl_n fT_he_sl_c vT_he_fl_n fT_he_fl_c) := hD
  refine lv_if_eq (tgt := 18) hx hb dX7_then_5 (by decide) (fun c_5 => ?_) (fun c_5 => ?_)
  · have hm := it_s c_5 hm
    refine lv_aload_n hx hb dX7_then_18 rfl (lv_at hl 0 rfl) ?_
    refine lv_bipush (v := (-2)) hx hb dX7_then_19 (by decide) ?_
    obtain ⟨r_21, hc_21, hm⟩ := ob_s hm
    refine q_ci (q_rv (rest := []) ⟨hx, hb, hml, hown, hts⟩ hK hN hP hD (c_X7_refused l D cI cZ H.size AT AT_he AT_iz AT_io AT_tx AT_rd AT_fo AT_fi vT_ab vT_be vT_bo vT_no vT_fu (-2) r_21 hc_21) mb_X7_refused mv_X7_refused wl_X7_81 [0] rfl rfl rfl (Nat.le_of_ble_eq_true rfl) (Nat.le_of_ble_eq_true rfl) rfl hl.1 rfl (Nat.le_of_ble_eq_true rfl) ⟨Nat.le_refl 0, Nat.le_refl 0⟩ dX7_then_21) hP hD hS hA [0] rfl rfl (fun H locs hP hD hS => ?_)
    have hP : va_P D vwCl (wd_X7_then cI cZ AT AT_he AT_iz AT_io AT_tx AT_rd AT_fo AT_fi AT_he_sl AT_he_fl AT_he_ro AT_he_nt AT_he_mk AT_he_mo AT_he_sl_c AT_fo_tr AT_fo_ga AT_fo_bb AT_fo_fg AT_fo_sg AT_he_fl_c vT_ab vT_be r_21.2.1 r_21.2.2.1 r_21.2.2.2 vT_he_ng vT_he_sl_n fT_he_sl_c vT_he_fl_n fT_he_fl_c) H := hP
    have hD : va_D A (wd_X7_then cI cZ AT AT_he AT_iz AT_io AT_tx AT_rd AT_fo AT_fi AT_he_sl AT_he_fl AT_he_ro AT_he_nt AT_he_mk AT_he_mo AT_he_sl_c AT_fo_tr AT_fo_ga AT_fo_bb AT_fo_fg AT_fo_sg AT_he_fl_c vT_ab vT_be r_21.2.1 r_21.2.2.1 r_21.2.2.2 vT_he_ng vT_he_sl_n fT_he_sl_c vT_he_fl_n fT_he_fl_c) := hD
    have hm := Option.some.inj hm
    subst hm
    exact q_iret (v := r_21.1) hx hb hr hlocks hP hS dX7_then_24
  · have hm := it_n c_5 hm
    refine lv_iload_n hx hb dX7_then_8 rfl (lv_at hl 2 rfl) ?_
    refine lv_iconst (v := 0) hx hb dX7_then_9 (by decide) ?_
    refine lv_bipush (v := 60) hx hb dX7_then_10 (by decide) ?_
    obtain ⟨r_12, hc_12, hm⟩ := ob_s hm
    refine q_ci (q_rs (rest := []) ⟨hx, hb, hml, hown, hts⟩ hK hN hP hD (c_X7_within l D cI cZ H.size p2 0 60 r_12 hc_12) mb_X7_within wt_X7_within wl_X7_77 [] rfl rfl (Nat.le_of_ble_eq_true rfl) (Nat.le_of_ble_eq_true rfl) rfl hl.1 rfl (Nat.le_of_ble_eq_true rfl) ⟨Nat.le_refl 0, Nat.le_refl 0⟩ dX7_then_12) hP hD hS hA [] rfl rfl (fun H locs hP hD hS => ?_)
    have hP : va_P D vwCl (wd_X7_then cI cZ AT AT_he AT_iz AT_io AT_tx AT_rd AT_fo AT_fi AT_he_sl AT_he_fl AT_he_ro AT_he_nt AT_he_mk AT_he_mo AT_he_sl_c AT_fo_tr AT_fo_ga AT_fo_bb AT_fo_fg AT_fo_sg AT_he_fl_c vT_ab vT_be vT_bo vT_no vT_fu vT_he_ng vT_he_sl_n fT_he_sl_c vT_he_fl_n fT_he_fl_c) H := hP
    have hD : va_D A (wd_X7_then cI cZ AT AT_he AT_iz AT_io AT_tx AT_rd AT_fo AT_fi AT_he_sl AT_he_fl AT_he_ro AT_he_nt AT_he_mk AT_he_mo AT_he_sl_c AT_fo_tr AT_fo_ga AT_fo_bb AT_fo_fg AT_fo_sg AT_he_fl_c vT_ab vT_be vT_bo vT_no vT_fu vT_he_ng vT_he_sl_n fT_he_sl_c vT_he_fl_n fT_he_fl_c) := hD
    refine lv_if_ne (tgt := 25) hx hb dX7_then_15 (by decide) (fun c_15 => ?_) (fun c_15 => ?_)
    · have hm := it_n c_15 hm
      refine lv_aload_n hx hb dX7_then_25 rfl (lv_at hl 0 rfl) ?_
      refine gf_X7_49 (v := .ref AT_fo) hx hb hts hown hK hN hP 0 rfl rfl dX7_then_26 ?_
      refine lv_iload_n hx hb dX7_then_29 rfl (lv_at hl 1 rfl) ?_
      refine lv_iload_n hx hb dX7_then_30 rfl (lv_at hl 2 rfl) ?_
      obtain ⟨r_31, hc_31, hm⟩ := ob_s hm
      refine q_ci (q_rv (rest := []) ⟨hx, hb, hml, hown, hts⟩ hK hN hP hD (c_X1_mindBehind l D cI cZ H.size AT_fo AT_he AT_fo_tr AT_fo_ga AT_fo_bb AT_fo_fg AT_fo_sg AT_he_sl AT_he_fl AT_he_ro AT_he_nt AT_he_mk AT_he_mo AT_he_sl_c AT_he_fl_c vT_he_ng vT_he_sl_n fT_he_sl_c vT_he_fl_n fT_he_fl_c p1 p2 r_31 hc_31) mb_X1_mindBehind mv_X1_mindBehind wl_X7_167 [3, 1, 2, 4, 5, 6] rfl rfl rfl (Nat.le_of_ble_eq_true rfl) (Nat.le_of_ble_eq_true rfl) rfl hl.1 rfl (Nat.le_of_ble_eq_true rfl) ⟨Nat.le_refl 0, Nat.le_refl 0⟩ dX7_then_31) hP hD hS hA [3, 1, 2, 4, 5, 6] rfl rfl (fun H locs hP hD hS => ?_)
      have hP : va_P D vwCl (wd_X7_then cI cZ AT AT_he AT_iz AT_io AT_tx AT_rd AT_fo AT_fi AT_he_sl AT_he_fl AT_he_ro AT_he_nt AT_he_mk AT_he_mo AT_he_sl_c AT_fo_tr AT_fo_ga AT_fo_bb AT_fo_fg AT_fo_sg AT_he_fl_c vT_ab vT_be vT_bo vT_no vT_fu vT_he_ng vT_he_sl_n fT_he_sl_c vT_he_fl_n fT_he_fl_c) H := hP
      have hD : va_D A (wd_X7_then cI cZ AT AT_he AT_iz AT_io AT_tx AT_rd AT_fo AT_fi AT_he_sl AT_he_fl AT_he_ro AT_he_nt AT_he_mk AT_he_mo AT_he_sl_c AT_fo_tr AT_fo_ga AT_fo_bb AT_fo_fg AT_fo_sg AT_he_fl_c vT_ab vT_be vT_bo vT_no vT_fu vT_he_ng vT_he_sl_n fT_he_sl_c vT_he_fl_n fT_he_fl_c) := hD
      have hm := Option.some.inj hm
      subst hm
      exact q_iret (v := r_31) hx hb hr hlocks hP hS dX7_then_34
    · have hm := it_s c_15 hm
      refine lv_aload_n hx hb dX7_then_18 rfl (lv_at hl 0 rfl) ?_
      refine lv_bipush (v := (-2)) hx hb dX7_then_19 (by decide) ?_
      obtain ⟨r_21, hc_21, hm⟩ := ob_s hm
      refine q_ci (q_rv (rest := []) ⟨hx, hb, hml, hown, hts⟩ hK hN hP hD (c_X7_refused l D cI cZ H.size AT AT_he AT_iz AT_io AT_tx AT_rd AT_fo AT_fi vT_ab vT_be vT_bo vT_no vT_fu (-2) r_21 hc_21) mb_X7_refused mv_X7_refused wl_X7_81 [0] rfl rfl rfl (Nat.le_of_ble_eq_true rfl) (Nat.le_of_ble_eq_true rfl) rfl hl.1 rfl (Nat.le_of_ble_eq_true rfl) ⟨Nat.le_refl 0, Nat.le_refl 0⟩ dX7_then_21) hP hD hS hA [0] rfl rfl (fun H locs hP hD hS => ?_)
      have hP : va_P D vwCl (wd_X7_then cI cZ AT AT_he AT_iz AT_io AT_tx AT_rd AT_fo AT_fi AT_he_sl AT_he_fl AT_he_ro AT_he_nt AT_he_mk AT_he_mo AT_he_sl_c AT_fo_tr AT_fo_ga AT_fo_bb AT_fo_fg AT_fo_sg AT_he_fl_c vT_ab vT_be r_21.2.1 r_21.2.2.1 r_21.2.2.2 vT_he_ng vT_he_sl_n fT_he_sl_c vT_he_fl_n fT_he_fl_c) H := hP
      have hD : va_D A (wd_X7_then cI cZ AT AT_he AT_iz AT_io AT_tx AT_rd AT_fo AT_fi AT_he_sl AT_he_fl AT_he_ro AT_he_nt AT_he_mk AT_he_mo AT_he_sl_c AT_fo_tr AT_fo_ga AT_fo_bb AT_fo_fg AT_fo_sg AT_he_fl_c vT_ab vT_be r_21.2.1 r_21.2.2.1 r_21.2.2.2 vT_he_ng vT_he_sl_n fT_he_sl_c vT_he_fl_n fT_he_fl_c) := hD
      have hm := Option.some.inj hm
      subst hm
      exact q_iret (v := r_21.1) hx hb hr hlocks hP hS dX7_then_24
theorem mb_X7_when : q_mb yX7_when cX7_when 2 (some .int) 1 := ⟨wc_X7_when, wn_X7, by decide, by decide, by decide +kernel⟩
theorem mv_X7_when : q_mv yX7_when 7 := ⟨wi_X7_when, ws_X7_when, _, rfl, rfl⟩
def wd_X7_when (cI cZ : ClassId) (AT AT_he AT_iz AT_io AT_tx AT_rd AT_fo AT_fi AT_he_sl AT_he_fl AT_he_ro AT_he_nt AT_he_mk AT_he_mo AT_he_sl_c AT_fo_tr AT_fo_ga AT_fo_bb AT_fo_fg AT_fo_sg AT_he_fl_c : Nat) (vT_ab : Int32) (vT_be : Int32) (vT_bo : Int32) (vT_no : Int32) (vT_fu : Int32) (vT_he_ng : Int32) (vT_he_sl_n : Int32) (fT_he_sl_c : Nat → Int32) (vT_he_fl_n : Int32) (fT_he_fl_c : Nat → Int32) : va_W := [(AT, .inr (7, [.ref AT_he, .ref AT_iz, .ref AT_io, .ref AT_tx, .ref AT_rd, .ref AT_fo, .ref AT_fi, .int vT_ab, .int vT_be, .int vT_bo, .int vT_no, .int vT_fu])), (AT_he, .inr (4, [.ref AT_he_sl, .ref AT_he_fl, .ref AT_he_ro, .ref AT_he_nt, .ref AT_he_mk, .ref AT_he_mo, .int vT_he_ng])), (AT_he_sl, .inr (3, [.int 4, .ref AT_he_sl_c, .int vT_he_sl_n])), (AT_fo, .inr (1, [.ref AT_he, .ref AT_fo_tr, .ref AT_fo_ga, .ref AT_fo_bb, .ref AT_fo_fg, .ref AT_fo_sg])), (AT_he_sl_c, .inl (cI, 24, .inl fT_he_sl_c)), (AT_he_fl, .inr (3, [.int 3, .ref AT_he_fl_c, .int vT_he_fl_n])), (AT_he_fl_c, .inl (cI, 18, .inl fT_he_fl_c))]
def fm_X7_when (p1 : Int32) (vT_bo : Int32) (vT_no : Int32) (vT_fu : Int32) (vT_he_ng : Int32) (vT_he_sl_n : Int32) (fT_he_sl_c : Nat → Int32) (vT_he_fl_n : Int32) (fT_he_fl_c : Nat → Int32) : Option (Int32 × Int32 × Int32 × Int32) := Option.bind (fm_X7_isSleeper p1 vT_he_sl_n) (fun r_2 => if r_2 = 0 then (Option.bind (fm_X7_refused (-2) vT_bo vT_no vT_fu) (fun r_11 => some (r_11.1, r_11.2.1, r_11.2.2.1, r_11.2.2.2))) else (Option.bind (fm_X1_nightsTillDone p1 (-1) vT_he_ng vT_he_sl_n fT_he_sl_c vT_he_fl_n fT_he_fl_c) (fun r_21 => some (r_21, vT_bo, vT_no, vT_fu))))
set_option maxHeartbeats 4000000 in
set_option maxRecDepth 100000 in
theorem c_X7_when (l : Launch) (D : va_G) (cI cZ : ClassId) (sz : Nat) (AT AT_he AT_iz AT_io AT_tx AT_rd AT_fo AT_fi AT_he_sl AT_he_fl AT_he_ro AT_he_nt AT_he_mk AT_he_mo AT_he_sl_c AT_fo_tr AT_fo_ga AT_fo_bb AT_fo_fg AT_fo_sg AT_he_fl_c : Nat) (vT_ab : Int32) (vT_be : Int32) (vT_bo : Int32) (vT_no : Int32) (vT_fu : Int32) (vT_he_ng : Int32) (vT_he_sl_n : Int32) (fT_he_sl_c : Nat → Int32) (vT_he_fl_n : Int32) (fT_he_fl_c : Nat → Int32) (p1 : Int32) (out : (Int32 × Int32 × Int32 × Int32)) (hm : fm_X7_when p1 vT_bo vT_no vT_fu vT_he_ng vT_he_sl_n fT_he_sl_c vT_he_fl_n fT_he_fl_c = some out) : Met l yX7_when (Cond.code yX7_when cX7_when 2 (some .int) :: bg) { frames := 4, cells := 0, slots := 0, locals := 99 } (va_Pc [.ref AT, .int p1] (q_pre D cI cZ sz (wd_X7_when cI cZ AT AT_he AT_iz AT_io AT_tx AT_rd AT_fo AT_fi AT_he_sl AT_he_fl AT_he_ro AT_he_nt AT_he_mk AT_he_mo AT_he_sl_c AT_fo_tr AT_fo_ga AT_fo_bb AT_fo_fg AT_fo_sg AT_he_fl_c vT_ab vT_be vT_bo vT_no vT_fu vT_he_ng vT_he_sl_n fT_he_sl_c vT_he_fl_n fT_he_fl_c))) (q_Qi D (wd_X7_when cI cZ AT AT_he AT_iz AT_io AT_tx AT_rd AT_fo AT_fi AT_he_sl AT_he_fl AT_he_ro AT_he_nt AT_he_mk AT_he_mo AT_he_sl_c AT_fo_tr AT_fo_ga AT_fo_bb AT_fo_fg AT_fo_sg AT_he_fl_c vT_ab vT_be out.2.1 out.2.2.1 out.2.2.2 vT_he_ng vT_he_sl_n fT_he_sl_c vT_he_fl_n fT_he_fl_c) out.1 (va_A (wd_X7_when cI cZ AT AT_he AT_iz AT_io AT_tx AT_rd AT_fo AT_fi AT_he_sl AT_he_fl AT_he_ro AT_he_nt AT_he_mk AT_he_mo AT_he_sl_c AT_fo_tr AT_fo_ga AT_fo_bb AT_fo_fg AT_fo_sg AT_he_fl_c vT_ab vT_be vT_bo vT_no vT_fu vT_he_ng vT_he_sl_n fT_he_sl_c vT_he_fl_n fT_he_fl_c) sz)) 0 0 (va_A (wd_X7_when cI cZ AT AT_he AT_iz AT_io AT_tx AT_rd AT_fo AT_fi AT_he_sl AT_he_fl AT_he_ro AT_he_nt AT_he_mk AT_he_mo AT_he_sl_c AT_fo_tr AT_fo_ga AT_fo_bb AT_fo_fg AT_fo_sg AT_he_fl_c vT_ab vT_be vT_bo vT_no vT_fu vT_he_ng vT_he_sl_n fT_he_sl_c vT_he_fl_n fT_he_fl_c) sz) := by
  refine q_met (fun A => q_Qi D (wd_X7_when cI cZ AT AT_he AT_iz AT_io AT_tx AT_rd AT_fo AT_fi AT_he_sl AT_he_fl AT_he_ro AT_he_nt AT_he_mk AT_he_mo AT_he_sl_c AT_fo_tr AT_fo_ga AT_fo_bb AT_fo_fg AT_fo_sg AT_he_fl_c vT_ab vT_be out.2.1 out.2.2.1 out.2.2.2 vT_he_ng vT_he_sl_n fT_he_sl_c vT_he_fl_n fT_he_fl_c) out.1 A) (by decide) (Nat.le_of_ble_eq_true rfl) ?_
  intro p e s m below meth c ls A hx hb hr hml hown hts hlocks _ hA hS hP hD hK hN hl
  have hown : s.vm.findClass RX7 = some m.cls := hown
  have hl : lv_has ls 2 [(0, .ref AT), (1, .int p1)] := hl
  unfold fm_X7_when at hm
  refine q_gen hS hP ?_
  intro H locs hP hS
  refine lv_aload_n hx hb dX7_when_0 rfl (lv_at hl 0 rfl) ?_
  refine lv_iload_n hx hb dX7_when_1 rfl (lv_at hl 1 rfl) ?_
  obtain ⟨r_2, hc_2, hm⟩ := ob_s hm
  refine q_ci (q_rv (rest := []) ⟨hx, hb, hml, hown, hts⟩ hK hN hP hD (c_X7_isSleeper l D cI cZ H.size AT AT_he AT_iz AT_io AT_tx AT_rd AT_fo AT_fi AT_he_sl AT_he_fl AT_he_ro AT_he_nt AT_he_mk AT_he_mo AT_he_sl_c vT_ab vT_be vT_bo vT_no vT_fu vT_he_ng vT_he_sl_n p1 r_2 hc_2) mb_X7_isSleeper mv_X7_isSleeper wl_X7_135 [0, 1, 2] rfl rfl rfl (Nat.le_of_ble_eq_true rfl) (Nat.le_of_ble_eq_true rfl) rfl hl.1 rfl (Nat.le_of_ble_eq_true rfl) ⟨Nat.le_refl 0, Nat.le_refl 0⟩ dX7_when_2) hP hD hS hA [0, 1, 2] rfl rfl (fun H locs hP hD hS => ?_)
  have hP : va_P D vwCl (wd_X7_when cI cZ AT AT_he AT_iz AT_io AT_tx AT_rd AT_fo AT_fi AT_he_sl AT_he_fl AT_he_ro AT_he_nt AT_he_mk AT_he_mo AT_he_sl_c AT_fo_tr AT_fo_ga AT_fo_bb AT_fo_fg AT_fo_sg AT_he_fl_c vT_ab vT_be vT_bo vT_no vT_fu vT_he_ng vT_he_sl_n fT_he_sl_c vT_he_fl_n fT_he_fl_c) H := hP
  have hD : va_D A (wd_X7_when cI cZ AT AT_he AT_iz AT_io AT_tx AT_rd AT_fo AT_fi AT_he_sl AT_he_fl AT_he_ro AT_he_nt AT_he_mk AT_he_mo AT_he_sl_c AT_fo_tr AT_fo_ga AT_fo_bb AT_fo_fg AT_fo_sg AT_he_fl_c vT_ab vT_be vT_bo vT_no vT_fu vT_he_ng vT_he_sl_n fT_he_sl_c vT_he_fl_n fT_he_fl_c) := hD
  refine lv_if_ne (tgt := 15) hx hb dX7_when_5 (by decide) (fun c_5 => ?_) (fun c_5 => ?_)
  · have hm := it_n c_5 hm
    refine lv_aload_n hx hb dX7_when_15 rfl (lv_at hl 0 rfl) ?_
    refine gf_X7_49 (v := .ref AT_fo) hx hb hts hown hK hN hP 0 rfl rfl dX7_when_16 ?_
    refine lv_iload_n hx hb dX7_when_19 rfl (lv_at hl 1 rfl) ?_
    refine lv_iconst (v := (-1)) hx hb dX7_when_20 (by decide) ?_
    obtain ⟨r_21, hc_21, hm⟩ := ob_s hm
    refine q_ci (q_rv (rest := []) ⟨hx, hb, hml, hown, hts⟩ hK hN hP hD (c_X1_nightsTillDone l D cI cZ H.size AT_fo AT_he AT_fo_tr AT_fo_ga AT_fo_bb AT_fo_fg AT_fo_sg AT_he_sl AT_he_fl AT_he_ro AT_he_nt AT_he_mk AT_he_mo AT_he_sl_c AT_he_fl_c vT_he_ng vT_he_sl_n fT_he_sl_c vT_he_fl_n fT_he_fl_c p1 (-1) r_21 hc_21) mb_X1_nightsTillDone mv_X1_nightsTillDone wl_X7_170 [3, 1, 2, 4, 5, 6] rfl rfl rfl (Nat.le_of_ble_eq_true rfl) (Nat.le_of_ble_eq_true rfl) rfl hl.1 rfl (Nat.le_of_ble_eq_true rfl) ⟨Nat.le_refl 0, Nat.le_refl 0⟩ dX7_when_21) hP hD hS hA [3, 1, 2, 4, 5, 6] rfl rfl (fun H locs hP hD hS => ?_)
    have hP : va_P D vwCl (wd_X7_when cI cZ AT AT_he AT_iz AT_io AT_tx AT_rd AT_fo AT_fi AT_he_sl AT_he_fl AT_he_ro AT_he_nt AT_he_mk AT_he_mo AT_he_sl_c AT_fo_tr AT_fo_ga AT_fo_bb AT_fo_fg AT_fo_sg AT_he_fl_c vT_ab vT_be vT_bo vT_no vT_fu vT_he_ng vT_he_sl_n fT_he_sl_c vT_he_fl_n fT_he_fl_c) H := hP
    have hD : va_D A (wd_X7_when cI cZ AT AT_he AT_iz AT_io AT_tx AT_rd AT_fo AT_fi AT_he_sl AT_he_fl AT_he_ro AT_he_nt AT_he_mk AT_he_mo AT_he_sl_c AT_fo_tr AT_fo_ga AT_fo_bb AT_fo_fg AT_fo_sg AT_he_fl_c vT_ab vT_be vT_bo vT_no vT_fu vT_he_ng vT_he_sl_n fT_he_sl_c vT_he_fl_n fT_he_fl_c) := hD
    have hm := Option.some.inj hm
    subst hm
    exact q_iret (v := r_21) hx hb hr hlocks hP hS dX7_when_24
  · have hm := it_s c_5 hm
    refine lv_aload_n hx hb dX7_when_8 rfl (lv_at hl 0 rfl) ?_
    refine lv_bipush (v := (-2)) hx hb dX7_when_9 (by decide) ?_
    obtain ⟨r_11, hc_11, hm⟩ := ob_s hm
    refine q_ci (q_rv (rest := []) ⟨hx, hb, hml, hown, hts⟩ hK hN hP hD (c_X7_refused l D cI cZ H.size AT AT_he AT_iz AT_io AT_tx AT_rd AT_fo AT_fi vT_ab vT_be vT_bo vT_no vT_fu (-2) r_11 hc_11) mb_X7_refused mv_X7_refused wl_X7_81 [0] rfl rfl rfl (Nat.le_of_ble_eq_true rfl) (Nat.le_of_ble_eq_true rfl) rfl hl.1 rfl (Nat.le_of_ble_eq_true rfl) ⟨Nat.le_refl 0, Nat.le_refl 0⟩ dX7_when_11) hP hD hS hA [0] rfl rfl (fun H locs hP hD hS => ?_)
    have hP : va_P D vwCl (wd_X7_when cI cZ AT AT_he AT_iz AT_io AT_tx AT_rd AT_fo AT_fi AT_he_sl AT_he_fl AT_he_ro AT_he_nt AT_he_mk AT_he_mo AT_he_sl_c AT_fo_tr AT_fo_ga AT_fo_bb AT_fo_fg AT_fo_sg AT_he_fl_c vT_ab vT_be r_11.2.1 r_11.2.2.1 r_11.2.2.2 vT_he_ng vT_he_sl_n fT_he_sl_c vT_he_fl_n fT_he_fl_c) H := hP
    have hD : va_D A (wd_X7_when cI cZ AT AT_he AT_iz AT_io AT_tx AT_rd AT_fo AT_fi AT_he_sl AT_he_fl AT_he_ro AT_he_nt AT_he_mk AT_he_mo AT_he_sl_c AT_fo_tr AT_fo_ga AT_fo_bb AT_fo_fg AT_fo_sg AT_he_fl_c vT_ab vT_be r_11.2.1 r_11.2.2.1 r_11.2.2.2 vT_he_ng vT_he_sl_n fT_he_sl_c vT_he_fl_n fT_he_fl_c) := hD
    have hm := Option.some.inj hm
    subst hm
    exact q_iret (v := r_11.1) hx hb hr hlocks hP hS dX7_when_14
theorem mb_X7_pillows : q_mb yX7_pillows cX7_pillows 3 (some .int) 2 := ⟨wc_X7_pillows, wn_X7, by decide, by decide, by decide +kernel⟩
theorem mv_X7_pillows : q_mv yX7_pillows 7 := ⟨wi_X7_pillows, ws_X7_pillows, _, rfl, rfl⟩
def wd_X7_pillows (cI cZ : ClassId) (AT AT_he AT_iz AT_io AT_tx AT_rd AT_fo AT_fi AT_fo_tr AT_fo_ga AT_fo_bb AT_fo_fg AT_fo_sg AT_he_sl AT_he_fl AT_he_ro AT_he_nt AT_he_mk AT_he_mo AT_he_sl_c AT_he_fl_c : Nat) (vT_ab : Int32) (vT_be : Int32) (vT_bo : Int32) (vT_no : Int32) (vT_fu : Int32) (vT_he_ng : Int32) (vT_he_sl_n : Int32) (fT_he_sl_c : Nat → Int32) (vT_he_fl_n : Int32) (fT_he_fl_c : Nat → Int32) (fT_fo_ga : Nat → Int32) (fT_fo_bb : Nat → Int32) : va_W := [(AT, .inr (7, [.ref AT_he, .ref AT_iz, .ref AT_io, .ref AT_tx, .ref AT_rd, .ref AT_fo, .ref AT_fi, .int vT_ab, .int vT_be, .int vT_bo, .int vT_no, .int vT_fu])), (AT_fo, .inr (1, [.ref AT_he, .ref AT_fo_tr, .ref AT_fo_ga, .ref AT_fo_bb, .ref AT_fo_fg, .ref AT_fo_sg])), (AT_he, .inr (4, [.ref AT_he_sl, .ref AT_he_fl, .ref AT_he_ro, .ref AT_he_nt, .ref AT_he_mk, .ref AT_he_mo, .int vT_he_ng])), (AT_he_sl, .inr (3, [.int 4, .ref AT_he_sl_c, .int vT_he_sl_n])), (AT_he_sl_c, .inl (cI, 24, .inl fT_he_sl_c)), (AT_he_fl, .inr (3, [.int 3, .ref AT_he_fl_c, .int vT_he_fl_n])), (AT_he_fl_c, .inl (cI, 18, .inl fT_he_fl_c)), (AT_fo_ga, .inl (cI, 36, .inl fT_fo_ga)), (AT_fo_bb, .inl (cI, 64, .inl fT_fo_bb))]
def fm_X7_pillows (p1 : Int32) (p2 : Int32) (vT_bo : Int32) (vT_no : Int32) (vT_fu : Int32) (vT_he_ng : Int32) (vT_he_sl_n : Int32) (fT_he_sl_c : Nat → Int32) (vT_he_fl_n : Int32) (fT_he_fl_c : Nat → Int32) (fT_fo_ga : Nat → Int32) (fT_fo_bb : Nat → Int32) : Option (Int32 × Int32 × Int32 × Int32 × (Nat → Int32) × (Nat → Int32)) := Option.bind (fm_X7_within p1 0 1) (fun r_3 => if r_3 = 0 then (Option.bind (fm_X7_refused (-2) vT_bo vT_no vT_fu) (fun r_25 => some ((-10), r_25.2.1, r_25.2.2.1, r_25.2.2.2, fT_fo_ga, fT_fo_bb))) else (if p2 = (-1) then (if p1 = 1 then (Option.bind (fm_X1_bestPlacing 1 p2 vT_he_ng vT_he_sl_n fT_he_sl_c vT_he_fl_n fT_he_fl_c fT_fo_ga fT_fo_bb) (fun r_47 => some (r_47.1, vT_bo, vT_no, vT_fu, r_47.2.1, r_47.2.2))) else (Option.bind (fm_X1_bestPlacing 0 p2 vT_he_ng vT_he_sl_n fT_he_sl_c vT_he_fl_n fT_he_fl_c fT_fo_ga fT_fo_bb) (fun r_47 => some (r_47.1, vT_bo, vT_no, vT_fu, r_47.2.1, r_47.2.2)))) else (Option.bind (fm_X7_isSleeper p2 vT_he_sl_n) (fun r_16 => if r_16 = 0 then (Option.bind (fm_X7_refused (-2) vT_bo vT_no vT_fu) (fun r_25 => some ((-10), r_25.2.1, r_25.2.2.1, r_25.2.2.2, fT_fo_ga, fT_fo_bb))) else (if p1 = 1 then (Option.bind (fm_X1_bestPlacing 1 p2 vT_he_ng vT_he_sl_n fT_he_sl_c vT_he_fl_n fT_he_fl_c fT_fo_ga fT_fo_bb) (fun r_47 => some (r_47.1, vT_bo, vT_no, vT_fu, r_47.2.1, r_47.2.2))) else (Option.bind (fm_X1_bestPlacing 0 p2 vT_he_ng vT_he_sl_n fT_he_sl_c vT_he_fl_n fT_he_fl_c fT_fo_ga fT_fo_bb) (fun r_47 => some (r_47.1, vT_bo, vT_no, vT_fu, r_47.2.1, r_47.2.2))))))))
set_option maxHeartbeats 4000000 in
set_option maxRecDepth 100000 in
theorem c_X7_pillows (l : Launch) (D : va_G) (cI cZ : ClassId) (sz : Nat) (AT AT_he AT_iz AT_io AT_tx AT_rd AT_fo AT_fi AT_fo_tr AT_fo_ga AT_fo_bb AT_fo_fg AT_fo_sg AT_he_sl AT_he_fl AT_he_ro AT_he_nt AT_he_mk AT_he_mo AT_he_sl_c AT_he_fl_c : Nat) (vT_ab : Int32) (vT_be : Int32) (vT_bo : Int32) (vT_no : Int32) (vT_fu : Int32) (vT_he_ng : Int32) (vT_he_sl_n : Int32) (fT_he_sl_c : Nat → Int32) (vT_he_fl_n : Int32) (fT_he_fl_c : Nat → Int32) (fT_fo_ga : Nat → Int32) (fT_fo_bb : Nat → Int32) (p1 : Int32) (p2 : Int32) (out : (Int32 × Int32 × Int32 × Int32 × (Nat → Int32) × (Nat → Int32))) (hm : fm_X7_pillows p1 p2 vT_bo vT_no vT_fu vT_he_ng vT_he_sl_n fT_he_sl_c vT_he_fl_n fT_he_fl_c fT_fo_ga fT_fo_bb = some out) : Met l yX7_pillows (Cond.code yX7_pillows cX7_pillows 3 (some .int) :: bg) { frames := 5, cells := 0, slots := 0, locals := 120 } (va_Pc [.ref AT, .int p1, .int p2] (q_pre D cI cZ sz (wd_X7_pillows cI cZ AT AT_he AT_iz AT_io AT_tx AT_rd AT_fo AT_fi AT_fo_tr AT_fo_ga AT_fo_bb AT_fo_fg AT_fo_sg AT_he_sl AT_he_fl AT_he_ro AT_he_nt AT_he_mk AT_he_mo AT_he_sl_c AT_he_fl_c vT_ab vT_be vT_bo vT_no vT_fu vT_he_ng vT_he_sl_n fT_he_sl_c vT_he_fl_n fT_he_fl_c fT_fo_ga fT_fo_bb))) (q_Qi D (wd_X7_pillows cI cZ AT AT_he AT_iz AT_io AT_tx AT_rd AT_fo AT_fi AT_fo_tr AT_fo_ga AT_fo_bb AT_fo_fg AT_fo_sg AT_he_sl AT_he_fl AT_he_ro AT_he_nt AT_he_mk AT_he_mo AT_he_sl_c AT_he_fl_c vT_ab vT_be out.2.1 out.2.2.1 out.2.2.2.1 vT_he_ng vT_he_sl_n fT_he_sl_c vT_he_fl_n fT_he_fl_c out.2.2.2.2.1 out.2.2.2.2.2) out.1 (va_A (wd_X7_pillows cI cZ AT AT_he AT_iz AT_io AT_tx AT_rd AT_fo AT_fi AT_fo_tr AT_fo_ga AT_fo_bb AT_fo_fg AT_fo_sg AT_he_sl AT_he_fl AT_he_ro AT_he_nt AT_he_mk AT_he_mo AT_he_sl_c AT_he_fl_c vT_ab vT_be vT_bo vT_no vT_fu vT_he_ng vT_he_sl_n fT_he_sl_c vT_he_fl_n fT_he_fl_c fT_fo_ga fT_fo_bb) sz)) 0 0 (va_A (wd_X7_pillows cI cZ AT AT_he AT_iz AT_io AT_tx AT_rd AT_fo AT_fi AT_fo_tr AT_fo_ga AT_fo_bb AT_fo_fg AT_fo_sg AT_he_sl AT_he_fl AT_he_ro AT_he_nt AT_he_mk AT_he_mo AT_he_sl_c AT_he_fl_c vT_ab vT_be vT_bo vT_no vT_fu vT_he_ng vT_he_sl_n fT_he_sl_c vT_he_fl_n fT_he_fl_c fT_fo_ga fT_fo_bb) sz) := by
  refine q_met (fun A => q_Qi D (wd_X7_pillows cI cZ AT AT_he AT_iz AT_io AT_tx AT_rd AT_fo AT_fi AT_fo_tr AT_fo_ga AT_fo_bb AT_fo_fg AT_fo_sg AT_he_sl AT_he_fl AT_he_ro AT_he_nt AT_he_mk AT_he_mo AT_he_sl_c AT_he_fl_c vT_ab vT_be out.2.1 out.2.2.1 out.2.2.2.1 vT_he_ng vT_he_sl_n fT_he_sl_c vT_he_fl_n fT_he_fl_c out.2.2.2.2.1 out.2.2.2.2.2) out.1 A) (by decide) (Nat.le_of_ble_eq_true rfl) ?_
  intro p e s m below meth c ls A hx hb hr hml hown hts hlocks _ hA hS hP hD hK hN hl
  have hown : s.vm.findClass RX7 = some m.cls := hown
  have hl : lv_has ls 3 [(0, .ref AT), (1, .int p1), (2, .int p2)] := hl
  unfold fm_X7_pillows at hm
  refine q_gen hS hP ?_
  intro H locs hP hS
  refine lv_iload_n hx hb dX7_pillows_0 rfl (lv_at hl 1 rfl) ?_
  refine lv_iconst (v := 0) hx hb dX7_pillows_1 (by decide) ?_
  refine lv_iconst (v := 1) hx hb dX7_pillows_2 (by decide) ?_
  obtain ⟨r_3, hc_3, hm⟩ := ob_s hm
  refine q_ci (q_rs (rest := []) ⟨hx, hb, hml, hown, hts⟩ hK hN hP hD (c_X7_within l D cI cZ H.size p1 0 1 r_3 hc_3) mb_X7_within wt_X7_within wl_X7_77 [] rfl rfl (Nat.le_of_ble_eq_true rfl) (Nat.le_of_ble_eq_true rfl) rfl hl.1 rfl (Nat.le_of_ble_eq_true rfl) ⟨Nat.le_refl 0, Nat.le_refl 0⟩ dX7_pillows_3) hP hD hS hA [] rfl rfl (fun H locs hP hD hS => ?_)
  have hP : va_P D vwCl (wd_X7_pillows cI cZ AT AT_he AT_iz AT_io AT_tx AT_rd AT_fo AT_fi AT_fo_tr AT_fo_ga AT_fo_bb AT_fo_fg AT_fo_sg AT_he_sl AT_he_fl AT_he_ro AT_he_nt AT_he_mk AT_he_mo AT_he_sl_c AT_he_fl_c vT_ab vT_be vT_bo vT_no vT_fu vT_he_ng vT_he_sl_n fT_he_sl_c vT_he_fl_n fT_he_fl_c fT_fo_ga fT_fo_bb) H := hP
  have hD : va_D A (wd_X7_pillows cI cZ AT AT_he AT_iz AT_io AT_tx AT_rd AT_fo AT_fi AT_fo_tr AT_fo_ga AT_fo_bb AT_fo_fg AT_fo_sg AT_he_sl AT_he_fl AT_he_ro AT_he_nt AT_he_mk AT_he_mo AT_he_sl_c AT_he_fl_c vT_ab vT_be vT_bo vT_no vT_fu vT_he_ng vT_he_sl_n fT_he_sl_c vT_he_fl_n fT_he_fl_c fT_fo_ga fT_fo_bb) := hD
  refine lv_if_eq (tgt := 22) hx hb dX7_pillows_6 (by decide) (fun c_6 => ?_) (fun c_6 => ?_)
  · have hm := it_s c_6 hm
    refine lv_aload_n hx hb dX7_pillows_22 rfl (lv_at hl 0 rfl) ?_
    refine lv_bipush (v := (-2)) hx hb dX7_pillows_23 (by decide) ?_
    obtain ⟨r_25, hc_25, hm⟩ := ob_s hm
    refine q_ci (q_rv (rest := []) ⟨hx, hb, hml, hown, hts⟩ hK hN hP hD (c_X7_refused l D cI cZ H.size AT AT_he AT_iz AT_io AT_tx AT_rd AT_fo AT_fi vT_ab vT_be vT_bo vT_no vT_fu (-2) r_25 hc_25) mb_X7_refused mv_X7_refused wl_X7_81 [0] rfl rfl rfl (Nat.le_of_ble_eq_true rfl) (Nat.le_of_ble_eq_true rfl) rfl hl.1 rfl (Nat.le_of_ble_eq_true rfl) ⟨Nat.le_refl 0, Nat.le_refl 0⟩ dX7_pillows_25) hP hD hS hA [0] rfl rfl (fun H locs hP hD hS => ?_)
    have hP : va_P D vwCl (wd_X7_pillows cI cZ AT AT_he AT_iz AT_io AT_tx AT_rd AT_fo AT_fi AT_fo_tr AT_fo_ga AT_fo_bb AT_fo_fg AT_fo_sg AT_he_sl AT_he_fl AT_he_ro AT_he_nt AT_he_mk AT_he_mo AT_he_sl_c AT_he_fl_c vT_ab vT_be r_25.2.1 r_25.2.2.1 r_25.2.2.2 vT_he_ng vT_he_sl_n fT_he_sl_c vT_he_fl_n fT_he_fl_c fT_fo_ga fT_fo_bb) H := hP
    have hD : va_D A (wd_X7_pillows cI cZ AT AT_he AT_iz AT_io AT_tx AT_rd AT_fo AT_fi AT_fo_tr AT_fo_ga AT_fo_bb AT_fo_fg AT_fo_sg AT_he_sl AT_he_fl AT_he_ro AT_he_nt AT_he_mk AT_he_mo AT_he_sl_c AT_he_fl_c vT_ab vT_be r_25.2.1 r_25.2.2.1 r_25.2.2.2 vT_he_ng vT_he_sl_n fT_he_sl_c vT_he_fl_n fT_he_fl_c fT_fo_ga fT_fo_bb) := hD
    refine lv_pop hx hb dX7_pillows_28 rfl ?_
    refine lv_bipush (v := (-10)) hx hb dX7_pillows_29 (by decide) ?_
    have hm := Option.some.inj hm
    subst hm
    exact q_iret (v := (-10)) hx hb hr hlocks hP hS dX7_pillows_31
  · have hm := it_n c_6 hm
    refine lv_iload_n hx hb dX7_pillows_9 rfl (lv_at hl 2 rfl) ?_
    refine lv_iconst (v := (-1)) hx hb dX7_pillows_10 (by decide) ?_
    refine lv_icmp_eq (tgt := 32) hx hb dX7_pillows_11 (by decide) (fun c_11 => ?_) (fun c_11 => ?_)
    · have hm := it_s c_11 hm
      refine lv_aload_n hx hb dX7_pillows_32 rfl (lv_at hl 0 rfl) ?_
      refine gf_X7_49 (v := .ref AT_fo) hx hb hts hown hK hN hP 0 rfl rfl dX7_pillows_33 ?_
      refine lv_iload_n hx hb dX7_pillows_36 rfl (lv_at hl 1 rfl) ?_
      refine lv_iconst (v := 1) hx hb dX7_pillows_37 (by decide) ?_
      refine lv_icmp_ne (tgt := 45) hx hb dX7_pillows_38 (by decide) (fun c_38 => ?_) (fun c_38 => ?_)
      · have hm := it_n c_38 hm
        refine lv_iconst (v := 0) hx hb dX7_pillows_45 (by decide) ?_
        refine lv_iload_n hx hb dX7_pillows_46 rfl (lv_at hl 2 rfl) ?_
        obtain ⟨r_47, hc_47, hm⟩ := ob_s hm
        refine q_ci (q_rv (rest := []) ⟨hx, hb, hml, hown, hts⟩ hK hN hP hD (c_X1_bestPlacing l D cI cZ H.size AT_fo AT_he AT_fo_tr AT_fo_ga AT_fo_bb AT_fo_fg AT_fo_sg AT_he_sl AT_he_fl AT_he_ro AT_he_nt AT_he_mk AT_he_mo AT_he_sl_c AT_he_fl_c vT_he_ng vT_he_sl_n fT_he_sl_c vT_he_fl_n fT_he_fl_c fT_fo_ga fT_fo_bb 0 p2 r_47 hc_47) mb_X1_bestPlacing mv_X1_bestPlacing wl_X7_173 [1, 2, 3, 4, 5, 6, 7, 8] rfl rfl rfl (Nat.le_of_ble_eq_true rfl) (Nat.le_of_ble_eq_true rfl) rfl hl.1 rfl (Nat.le_of_ble_eq_true rfl) ⟨Nat.le_refl 0, Nat.le_refl 0⟩ dX7_pillows_47) hP hD hS hA [1, 2, 3, 4, 5, 6, 7, 8] rfl rfl (fun H locs hP hD hS => ?_)
        have hP : va_P D vwCl (wd_X7_pillows cI cZ AT AT_he AT_iz AT_io AT_tx AT_rd AT_fo AT_fi AT_fo_tr AT_fo_ga AT_fo_bb AT_fo_fg AT_fo_sg AT_he_sl AT_he_fl AT_he_ro AT_he_nt AT_he_mk AT_he_mo AT_he_sl_c AT_he_fl_c vT_ab vT_be vT_bo vT_no vT_fu vT_he_ng vT_he_sl_n fT_he_sl_c vT_he_fl_n fT_he_fl_c r_47.2.1 r_47.2.2) H := hP
        have hD : va_D A (wd_X7_pillows cI cZ AT AT_he AT_iz AT_io AT_tx AT_rd AT_fo AT_fi AT_fo_tr AT_fo_ga AT_fo_bb AT_fo_fg AT_fo_sg AT_he_sl AT_he_fl AT_he_ro AT_he_nt AT_he_mk AT_he_mo AT_he_sl_c AT_he_fl_c vT_ab vT_be vT_bo vT_no vT_fu vT_he_ng vT_he_sl_n fT_he_sl_c vT_he_fl_n fT_he_fl_c r_47.2.1 r_47.2.2) := hD
        have hm := Option.some.inj hm
        subst hm
        exact q_iret (v := r_47.1) hx hb hr hlocks hP hS dX7_pillows_50
      · have hm := it_s c_38 hm
        refine lv_iconst (v := 1) hx hb dX7_pillows_41 (by decide) ?_
        refine lv_goto (tgt := 46) hx hb dX7_pillows_42 (by decide) ?_
        refine lv_iload_n hx hb dX7_pillows_46 rfl (lv_at hl 2 rfl) ?_
        obtain ⟨r_47, hc_47, hm⟩ := ob_s hm
        refine q_ci (q_rv (rest := []) ⟨hx, hb, hml, hown, hts⟩ hK hN hP hD (c_X1_bestPlacing l D cI cZ H.size AT_fo AT_he AT_fo_tr AT_fo_ga AT_fo_bb AT_fo_fg AT_fo_sg AT_he_sl AT_he_fl AT_he_ro AT_he_nt AT_he_mk AT_he_mo AT_he_sl_c AT_he_fl_c vT_he_ng vT_he_sl_n fT_he_sl_c vT_he_fl_n fT_he_fl_c fT_fo_ga fT_fo_bb 1 p2 r_47 hc_47) mb_X1_bestPlacing mv_X1_bestPlacing wl_X7_173 [1, 2, 3, 4, 5, 6, 7, 8] rfl rfl rfl (Nat.le_of_ble_eq_true rfl) (Nat.le_of_ble_eq_true rfl) rfl hl.1 rfl (Nat.le_of_ble_eq_true rfl) ⟨Nat.le_refl 0, Nat.le_refl 0⟩ dX7_pillows_47) hP hD hS hA [1, 2, 3, 4, 5, 6, 7, 8] rfl rfl (fun H locs hP hD hS => ?_)
        have hP : va_P D vwCl (wd_X7_pillows cI cZ AT AT_he AT_iz AT_io AT_tx AT_rd AT_fo AT_fi AT_fo_tr AT_fo_ga AT_fo_bb AT_fo_fg AT_fo_sg AT_he_sl AT_he_fl AT_he_ro AT_he_nt AT_he_mk AT_he_mo AT_he_sl_c AT_he_fl_c vT_ab vT_be vT_bo vT_no vT_fu vT_he_ng vT_he_sl_n fT_he_sl_c vT_he_fl_n fT_he_fl_c r_47.2.1 r_47.2.2) H := hP
        have hD : va_D A (wd_X7_pillows cI cZ AT AT_he AT_iz AT_io AT_tx AT_rd AT_fo AT_fi AT_fo_tr AT_fo_ga AT_fo_bb AT_fo_fg AT_fo_sg AT_he_sl AT_he_fl AT_he_ro AT_he_nt AT_he_mk AT_he_mo AT_he_sl_c AT_he_fl_c vT_ab vT_be vT_bo vT_no vT_fu vT_he_ng vT_he_sl_n fT_he_sl_c vT_he_fl_n fT_he_fl_c r_47.2.1 r_47.2.2) := hD
        have hm := Option.some.inj hm
        subst hm
        exact q_iret (v := r_47.1) hx hb hr hlocks hP hS dX7_pillows_50
    · have hm := it_n c_11 hm
      refine lv_aload_n hx hb dX7_pillows_14 rfl (lv_at hl 0 rfl) ?_
      refine lv_iload_n hx hb dX7_pillows_15 rfl (lv_at hl 2 rfl) ?_
      obtain ⟨r_16, hc_16, hm⟩ := ob_s hm
      refine q_ci (q_rv (rest := []) ⟨hx, hb, hml, hown, hts⟩ hK hN hP hD (c_X7_isSleeper l D cI cZ H.size AT AT_he AT_iz AT_io AT_tx AT_rd AT_fo AT_fi AT_he_sl AT_he_fl AT_he_ro AT_he_nt AT_he_mk AT_he_mo AT_he_sl_c vT_ab vT_be vT_bo vT_no vT_fu vT_he_ng vT_he_sl_n p2 r_16 hc_16) mb_X7_isSleeper mv_X7_isSleeper wl_X7_135 [0, 2, 3] rfl rfl rfl (Nat.le_of_ble_eq_true rfl) (Nat.le_of_ble_eq_true rfl) rfl hl.1 rfl (Nat.le_of_ble_eq_true rfl) ⟨Nat.le_refl 0, Nat.le_refl 0⟩ dX7_pillows_16) hP hD hS hA [0, 2, 3] rfl rfl (fun H locs hP hD hS => ?_)
      have hP : va_P D vwCl (wd_X7_pillows cI cZ AT AT_he AT_iz AT_io AT_tx AT_rd AT_fo AT_fi AT_fo_tr AT_fo_ga AT_fo_bb AT_fo_fg AT_fo_sg AT_he_sl AT_he_fl AT_he_ro AT_he_nt AT_he_mk AT_he_mo AT_he_sl_c AT_he_fl_c vT_ab vT_be vT_bo vT_no vT_fu vT_he_ng vT_he_sl_n fT_he_sl_c vT_he_fl_n fT_he_fl_c fT_fo_ga fT_fo_bb) H := hP
      have hD : va_D A (wd_X7_pillows cI cZ AT AT_he AT_iz AT_io AT_tx AT_rd AT_fo AT_fi AT_fo_tr AT_fo_ga AT_fo_bb AT_fo_fg AT_fo_sg AT_he_sl AT_he_fl AT_he_ro AT_he_nt AT_he_mk AT_he_mo AT_he_sl_c AT_he_fl_c vT_ab vT_be vT_bo vT_no vT_fu vT_he_ng vT_he_sl_n fT_he_sl_c vT_he_fl_n fT_he_fl_c fT_fo_ga fT_fo_bb) := hD
      refine lv_if_ne (tgt := 32) hx hb dX7_pillows_19 (by decide) (fun c_19 => ?_) (fun c_19 => ?_)
      · have hm := it_n c_19 hm
        refine lv_aload_n hx hb dX7_pillows_32 rfl (lv_at hl 0 rfl) ?_
        refine gf_X7_49 (v := .ref AT_fo) hx hb hts hown hK hN hP 0 rfl rfl dX7_pillows_33 ?_
        refine lv_iload_n hx hb dX7_pillows_36 rfl (lv_at hl 1 rfl) ?_
        refine lv_iconst (v := 1) hx hb dX7_pillows_37 (by decide) ?_
        refine lv_icmp_ne (tgt := 45) hx hb dX7_pillows_38 (by decide) (fun c_38 => ?_) (fun c_38 => ?_)
        · have hm := it_n c_38 hm
          refine lv_iconst (v := 0) hx hb dX7_pillows_45 (by decide) ?_
          refine lv_iload_n hx hb dX7_pillows_46 rfl (lv_at hl 2 rfl) ?_
          obtain ⟨r_47, hc_47, hm⟩ := ob_s hm
          refine q_ci (q_rv (rest := []) ⟨hx, hb, hml, hown, hts⟩ hK hN hP hD (c_X1_bestPlacing l D cI cZ H.size AT_fo AT_he AT_fo_tr AT_fo_ga AT_fo_bb AT_fo_fg AT_fo_sg AT_he_sl AT_he_fl AT_he_ro AT_he_nt AT_he_mk AT_he_mo AT_he_sl_c AT_he_fl_c vT_he_ng vT_he_sl_n fT_he_sl_c vT_he_fl_n fT_he_fl_c fT_fo_ga fT_fo_bb 0 p2 r_47 hc_47) mb_X1_bestPlacing mv_X1_bestPlacing wl_X7_173 [1, 2, 3, 4, 5, 6, 7, 8] rfl rfl rfl (Nat.le_of_ble_eq_true rfl) (Nat.le_of_ble_eq_true rfl) rfl hl.1 rfl (Nat.le_of_ble_eq_true rfl) ⟨Nat.le_refl 0, Nat.le_refl 0⟩ dX7_pillows_47) hP hD hS hA [1, 2, 3, 4, 5, 6, 7, 8] rfl rfl (fun H locs hP hD hS => ?_)
          have hP : va_P D vwCl (wd_X7_pillows cI cZ AT AT_he AT_iz AT_io AT_tx AT_rd AT_fo AT_fi AT_fo_tr AT_fo_ga AT_fo_bb AT_fo_fg AT_fo_sg AT_he_sl AT_he_fl AT_he_ro AT_he_nt AT_he_mk AT_he_mo AT_he_sl_c AT_he_fl_c vT_ab vT_be vT_bo vT_no vT_fu vT_he_ng vT_he_sl_n fT_he_sl_c vT_he_fl_n fT_he_fl_c r_47.2.1 r_47.2.2) H := hP
          have hD : va_D A (wd_X7_pillows cI cZ AT AT_he AT_iz AT_io AT_tx AT_rd AT_fo AT_fi AT_fo_tr AT_fo_ga AT_fo_bb AT_fo_fg AT_fo_sg AT_he_sl AT_he_fl AT_he_ro AT_he_nt AT_he_mk AT_he_mo AT_he_sl_c AT_he_fl_c vT_ab vT_be vT_bo vT_no vT_fu vT_he_ng vT_he_sl_n fT_he_sl_c vT_he_fl_n fT_he_fl_c r_47.2.1 r_47.2.2) := hD
          have hm := Option.some.inj hm
          subst hm
          exact q_iret (v := r_47.1) hx hb hr hlocks hP hS dX7_pillows_50
        · have hm := it_s c_38 hm
          refine lv_iconst (v := 1) hx hb dX7_pillows_41 (by decide) ?_
          refine lv_goto (tgt := 46) hx hb dX7_pillows_42 (by decide) ?_
          refine lv_iload_n hx hb dX7_pillows_46 rfl (lv_at hl 2 rfl) ?_
          obtain ⟨r_47, hc_47, hm⟩ := ob_s hm
          refine q_ci (q_rv (rest := []) ⟨hx, hb, hml, hown, hts⟩ hK hN hP hD (c_X1_bestPlacing l D cI cZ H.size AT_fo AT_he AT_fo_tr AT_fo_ga AT_fo_bb AT_fo_fg AT_fo_sg AT_he_sl AT_he_fl AT_he_ro AT_he_nt AT_he_mk AT_he_mo AT_he_sl_c AT_he_fl_c vT_he_ng vT_he_sl_n fT_he_sl_c vT_he_fl_n fT_he_fl_c fT_fo_ga fT_fo_bb 1 p2 r_47 hc_47) mb_X1_bestPlacing mv_X1_bestPlacing wl_X7_173 [1, 2, 3, 4, 5, 6, 7, 8] rfl rfl rfl (Nat.le_of_ble_eq_true rfl) (Nat.le_of_ble_eq_true rfl) rfl hl.1 rfl (Nat.le_of_ble_eq_true rfl) ⟨Nat.le_refl 0, Nat.le_refl 0⟩ dX7_pillows_47) hP hD hS hA [1, 2, 3, 4, 5, 6, 7, 8] rfl rfl (fun H locs hP hD hS => ?_)
          have hP : va_P D vwCl (wd_X7_pillows cI cZ AT AT_he AT_iz AT_io AT_tx AT_rd AT_fo AT_fi AT_fo_tr AT_fo_ga AT_fo_bb AT_fo_fg AT_fo_sg AT_he_sl AT_he_fl AT_he_ro AT_he_nt AT_he_mk AT_he_mo AT_he_sl_c AT_he_fl_c vT_ab vT_be vT_bo vT_no vT_fu vT_he_ng vT_he_sl_n fT_he_sl_c vT_he_fl_n fT_he_fl_c r_47.2.1 r_47.2.2) H := hP
          have hD : va_D A (wd_X7_pillows cI cZ AT AT_he AT_iz AT_io AT_tx AT_rd AT_fo AT_fi AT_fo_tr AT_fo_ga AT_fo_bb AT_fo_fg AT_fo_sg AT_he_sl AT_he_fl AT_he_ro AT_he_nt AT_he_mk AT_he_mo AT_he_sl_c AT_he_fl_c vT_ab vT_be vT_bo vT_no vT_fu vT_he_ng vT_he_sl_n fT_he_sl_c vT_he_fl_n fT_he_fl_c r_47.2.1 r_47.2.2) := hD
          have hm := Option.some.inj hm
          subst hm
          exact q_iret (v := r_47.1) hx hb hr hlocks hP hS dX7_pillows_50
      · have hm := it_s c_19 hm
        refine lv_aload_n hx hb dX7_pillows_22 rfl (lv_at hl 0 rfl) ?_
        refine lv_bipush (v := (-2)) hx hb dX7_pillows_23 (by decide) ?_
        obtain ⟨r_25, hc_25, hm⟩ := ob_s hm
        refine q_ci (q_rv (rest := []) ⟨hx, hb, hml, hown, hts⟩ hK hN hP hD (c_X7_refused l D cI cZ H.size AT AT_he AT_iz AT_io AT_tx AT_rd AT_fo AT_fi vT_ab vT_be vT_bo vT_no vT_fu (-2) r_25 hc_25) mb_X7_refused mv_X7_refused wl_X7_81 [0] rfl rfl rfl (Nat.le_of_ble_eq_true rfl) (Nat.le_of_ble_eq_true rfl) rfl hl.1 rfl (Nat.le_of_ble_eq_true rfl) ⟨Nat.le_refl 0, Nat.le_refl 0⟩ dX7_pillows_25) hP hD hS hA [0] rfl rfl (fun H locs hP hD hS => ?_)
        have hP : va_P D vwCl (wd_X7_pillows cI cZ AT AT_he AT_iz AT_io AT_tx AT_rd AT_fo AT_fi AT_fo_tr AT_fo_ga AT_fo_bb AT_fo_fg AT_fo_sg AT_he_sl AT_he_fl AT_he_ro AT_he_nt AT_he_mk AT_he_mo AT_he_sl_c AT_he_fl_c vT_ab vT_be r_25.2.1 r_25.2.2.1 r_25.2.2.2 vT_he_ng vT_he_sl_n fT_he_sl_c vT_he_fl_n fT_he_fl_c fT_fo_ga fT_fo_bb) H := hP
        have hD : va_D A (wd_X7_pillows cI cZ AT AT_he AT_iz AT_io AT_tx AT_rd AT_fo AT_fi AT_fo_tr AT_fo_ga AT_fo_bb AT_fo_fg AT_fo_sg AT_he_sl AT_he_fl AT_he_ro AT_he_nt AT_he_mk AT_he_mo AT_he_sl_c AT_he_fl_c vT_ab vT_be r_25.2.1 r_25.2.2.1 r_25.2.2.2 vT_he_ng vT_he_sl_n fT_he_sl_c vT_he_fl_n fT_he_fl_c fT_fo_ga fT_fo_bb) := hD
        refine lv_pop hx hb dX7_pillows_28 rfl ?_
        refine lv_bipush (v := (-10)) hx hb dX7_pillows_29 (by decide) ?_
        have hm := Option.some.inj hm
        subst hm
        exact q_iret (v := (-10)) hx hb hr hlocks hP hS dX7_pillows_31
theorem mb_X7_least : q_mb yX7_least cX7_least 2 (some .int) 1 := ⟨wc_X7_least, wn_X7, by decide, by decide, by decide +kernel⟩
theorem mv_X7_least : q_mv yX7_least 7 := ⟨wi_X7_least, ws_X7_least, _, rfl, rfl⟩
def wd_X7_least (cI cZ : ClassId) (AT AT_he AT_iz AT_io AT_tx AT_rd AT_fo AT_fi AT_he_sl AT_he_fl AT_he_ro AT_he_nt AT_he_mk AT_he_mo AT_he_sl_c AT_fo_tr AT_fo_ga AT_fo_bb AT_fo_fg AT_fo_sg AT_he_fl_c : Nat) (vT_ab : Int32) (vT_be : Int32) (vT_bo : Int32) (vT_no : Int32) (vT_fu : Int32) (vT_he_ng : Int32) (vT_he_sl_n : Int32) (fT_he_sl_c : Nat → Int32) (vT_he_fl_n : Int32) (fT_he_fl_c : Nat → Int32) : va_W := [(AT, .inr (7, [.ref AT_he, .ref AT_iz, .ref AT_io, .ref AT_tx, .ref AT_rd, .ref AT_fo, .ref AT_fi, .int vT_ab, .int vT_be, .int vT_bo, .int vT_no, .int vT_fu])), (AT_he, .inr (4, [.ref AT_he_sl, .ref AT_he_fl, .ref AT_he_ro, .ref AT_he_nt, .ref AT_he_mk, .ref AT_he_mo, .int vT_he_ng])), (AT_he_sl, .inr (3, [.int 4, .ref AT_he_sl_c, .int vT_he_sl_n])), (AT_fo, .inr (1, [.ref AT_he, .ref AT_fo_tr, .ref AT_fo_ga, .ref AT_fo_bb, .ref AT_fo_fg, .ref AT_fo_sg])), (AT_he_sl_c, .inl (cI, 24, .inl fT_he_sl_c)), (AT_he_fl, .inr (3, [.int 3, .ref AT_he_fl_c, .int vT_he_fl_n])), (AT_he_fl_c, .inl (cI, 18, .inl fT_he_fl_c))]
def fm_X7_least (p1 : Int32) (vT_bo : Int32) (vT_no : Int32) (vT_fu : Int32) (vT_he_ng : Int32) (vT_he_sl_n : Int32) (fT_he_sl_c : Nat → Int32) (vT_he_fl_n : Int32) (fT_he_fl_c : Nat → Int32) : Option (Int32 × Int32 × Int32 × Int32) := Option.bind (fm_X7_isSleeper p1 vT_he_sl_n) (fun r_2 => if r_2 = 0 then (Option.bind (fm_X7_refused (-2) vT_bo vT_no vT_fu) (fun r_11 => some (r_11.1, r_11.2.1, r_11.2.2.1, r_11.2.2.2))) else (Option.bind (fm_X1_leastWool p1 vT_he_ng vT_he_sl_n fT_he_sl_c vT_he_fl_n fT_he_fl_c) (fun r_20 => some (r_20, vT_bo, vT_no, vT_fu))))
set_option maxHeartbeats 4000000 in
set_option maxRecDepth 100000 in
theorem c_X7_least (l : Launch) (D : va_G) (cI cZ : ClassId) (sz : Nat) (AT AT_he AT_iz AT_io AT_tx AT_rd AT_fo AT_fi AT_he_sl AT_he_fl AT_he_ro AT_he_nt AT_he_mk AT_he_mo AT_he_sl_c AT_fo_tr AT_fo_ga AT_fo_bb AT_fo_fg AT_fo_sg AT_he_fl_c : Nat) (vT_ab : Int32) (vT_be : Int32) (vT_bo : Int32) (vT_no : Int32) (vT_fu : Int32) (vT_he_ng : Int32) (vT_he_sl_n : Int32) (fT_he_sl_c : Nat → Int32) (vT_he_fl_n : Int32) (fT_he_fl_c : Nat → Int32) (p1 : Int32) (out : (Int32 × Int32 × Int32 × Int32)) (hm : fm_X7_least p1 vT_bo vT_no vT_fu vT_he_ng vT_he_sl_n fT_he_sl_c vT_he_fl_n fT_he_fl_c = some out) : Met l yX7_least (Cond.code yX7_least cX7_least 2 (some .int) :: bg) { frames := 4, cells := 0, slots := 0, locals := 94 } (va_Pc [.ref AT, .int p1] (q_pre D cI cZ sz (wd_X7_least cI cZ AT AT_he AT_iz AT_io AT_tx AT_rd AT_fo AT_fi AT_he_sl AT_he_fl AT_he_ro AT_he_nt AT_he_mk AT_he_mo AT_he_sl_c AT_fo_tr AT_fo_ga AT_fo_bb AT_fo_fg AT_fo_sg AT_he_fl_c vT_ab vT_be vT_bo vT_no vT_fu vT_he_ng vT_he_sl_n fT_he_sl_c vT_he_fl_n fT_he_fl_c))) (q_Qi D (wd_X7_least cI cZ AT AT_he AT_iz AT_io AT_tx AT_rd AT_fo AT_fi AT_he_sl AT_he_fl AT_he_ro AT_he_nt AT_he_mk AT_he_mo AT_he_sl_c AT_fo_tr AT_fo_ga AT_fo_bb AT_fo_fg AT_fo_sg AT_he_fl_c vT_ab vT_be out.2.1 out.2.2.1 out.2.2.2 vT_he_ng vT_he_sl_n fT_he_sl_c vT_he_fl_n fT_he_fl_c) out.1 (va_A (wd_X7_least cI cZ AT AT_he AT_iz AT_io AT_tx AT_rd AT_fo AT_fi AT_he_sl AT_he_fl AT_he_ro AT_he_nt AT_he_mk AT_he_mo AT_he_sl_c AT_fo_tr AT_fo_ga AT_fo_bb AT_fo_fg AT_fo_sg AT_he_fl_c vT_ab vT_be vT_bo vT_no vT_fu vT_he_ng vT_he_sl_n fT_he_sl_c vT_he_fl_n fT_he_fl_c) sz)) 0 0 (va_A (wd_X7_least cI cZ AT AT_he AT_iz AT_io AT_tx AT_rd AT_fo AT_fi AT_he_sl AT_he_fl AT_he_ro AT_he_nt AT_he_mk AT_he_mo AT_he_sl_c AT_fo_tr AT_fo_ga AT_fo_bb AT_fo_fg AT_fo_sg AT_he_fl_c vT_ab vT_be vT_bo vT_no vT_fu vT_he_ng vT_he_sl_n fT_he_sl_c vT_he_fl_n fT_he_fl_c) sz) := by
  refine q_met (fun A => q_Qi D (wd_X7_least cI cZ AT AT_he AT_iz AT_io AT_tx AT_rd AT_fo AT_fi AT_he_sl AT_he_fl AT_he_ro AT_he_nt AT_he_mk AT_he_mo AT_he_sl_c AT_fo_tr AT_fo_ga AT_fo_bb AT_fo_fg AT_fo_sg AT_he_fl_c vT_ab vT_be out.2.1 out.2.2.1 out.2.2.2 vT_he_ng vT_he_sl_n fT_he_sl_c vT_he_fl_n fT_he_fl_c) out.1 A) (by decide) (Nat.le_of_ble_eq_true rfl) ?_
  intro p e s m below meth c ls A hx hb hr hml hown hts hlocks _ hA hS hP hD hK hN hl
  have hown : s.vm.findClass RX7 = some m.cls := hown
  have hl : lv_has ls 2 [(0, .ref AT), (1, .int p1)] := hl
  unfold fm_X7_least at hm
  refine q_gen hS hP ?_
  intro H locs hP hS
  refine lv_aload_n hx hb dX7_least_0 rfl (lv_at hl 0 rfl) ?_
  refine lv_iload_n hx hb dX7_least_1 rfl (lv_at hl 1 rfl) ?_
  obtain ⟨r_2, hc_2, hm⟩ := ob_s hm
  refine q_ci (q_rv (rest := []) ⟨hx, hb, hml, hown, hts⟩ hK hN hP hD (c_X7_isSleeper l D cI cZ H.size AT AT_he AT_iz AT_io AT_tx AT_rd AT_fo AT_fi AT_he_sl AT_he_fl AT_he_ro AT_he_nt AT_he_mk AT_he_mo AT_he_sl_c vT_ab vT_be vT_bo vT_no vT_fu vT_he_ng vT_he_sl_n p1 r_2 hc_2) mb_X7_isSleeper mv_X7_isSleeper wl_X7_135 [0, 1, 2] rfl rfl rfl (Nat.le_of_ble_eq_true rfl) (Nat.le_of_ble_eq_true rfl) rfl hl.1 rfl (Nat.le_of_ble_eq_true rfl) ⟨Nat.le_refl 0, Nat.le_refl 0⟩ dX7_least_2) hP hD hS hA [0, 1, 2] rfl rfl (fun H locs hP hD hS => ?_)
  have hP : va_P D vwCl (wd_X7_least cI cZ AT AT_he AT_iz AT_io AT_tx AT_rd AT_fo AT_fi AT_he_sl AT_he_fl AT_he_ro AT_he_nt AT_he_mk AT_he_mo AT_he_sl_c AT_fo_tr AT_fo_ga AT_fo_bb AT_fo_fg AT_fo_sg AT_he_fl_c vT_ab vT_be vT_bo vT_no vT_fu vT_he_ng vT_he_sl_n fT_he_sl_c vT_he_fl_n fT_he_fl_c) H := hP
  have hD : va_D A (wd_X7_least cI cZ AT AT_he AT_iz AT_io AT_tx AT_rd AT_fo AT_fi AT_he_sl AT_he_fl AT_he_ro AT_he_nt AT_he_mk AT_he_mo AT_he_sl_c AT_fo_tr AT_fo_ga AT_fo_bb AT_fo_fg AT_fo_sg AT_he_fl_c vT_ab vT_be vT_bo vT_no vT_fu vT_he_ng vT_he_sl_n fT_he_sl_c vT_he_fl_n fT_he_fl_c) := hD
  refine lv_if_ne (tgt := 15) hx hb dX7_least_5 (by decide) (fun c_5 => ?_) (fun c_5 => ?_)
  · have hm := it_n c_5 hm
    refine lv_aload_n hx hb dX7_least_15 rfl (lv_at hl 0 rfl) ?_
    refine gf_X7_49 (v := .ref AT_fo) hx hb hts hown hK hN hP 0 rfl rfl dX7_least_16 ?_
    refine lv_iload_n hx hb dX7_least_19 rfl (lv_at hl 1 rfl) ?_
    obtain ⟨r_20, hc_20, hm⟩ := ob_s hm
    refine q_ci (q_rv (rest := []) ⟨hx, hb, hml, hown, hts⟩ hK hN hP hD (c_X1_leastWool l D cI cZ H.size AT_fo AT_he AT_fo_tr AT_fo_ga AT_fo_bb AT_fo_fg AT_fo_sg AT_he_sl AT_he_fl AT_he_ro AT_he_nt AT_he_mk AT_he_mo AT_he_sl_c AT_he_fl_c vT_he_ng vT_he_sl_n fT_he_sl_c vT_he_fl_n fT_he_fl_c p1 r_20 hc_20) mb_X1_leastWool mv_X1_leastWool wl_X7_177 [3, 1, 2, 4, 5, 6] rfl rfl rfl (Nat.le_of_ble_eq_true rfl) (Nat.le_of_ble_eq_true rfl) rfl hl.1 rfl (Nat.le_of_ble_eq_true rfl) ⟨Nat.le_refl 0, Nat.le_refl 0⟩ dX7_least_20) hP hD hS hA [3, 1, 2, 4, 5, 6] rfl rfl (fun H locs hP hD hS => ?_)
    have hP : va_P D vwCl (wd_X7_least cI cZ AT AT_he AT_iz AT_io AT_tx AT_rd AT_fo AT_fi AT_he_sl AT_he_fl AT_he_ro AT_he_nt AT_he_mk AT_he_mo AT_he_sl_c AT_fo_tr AT_fo_ga AT_fo_bb AT_fo_fg AT_fo_sg AT_he_fl_c vT_ab vT_be vT_bo vT_no vT_fu vT_he_ng vT_he_sl_n fT_he_sl_c vT_he_fl_n fT_he_fl_c) H := hP
    have hD : va_D A (wd_X7_least cI cZ AT AT_he AT_iz AT_io AT_tx AT_rd AT_fo AT_fi AT_he_sl AT_he_fl AT_he_ro AT_he_nt AT_he_mk AT_he_mo AT_he_sl_c AT_fo_tr AT_fo_ga AT_fo_bb AT_fo_fg AT_fo_sg AT_he_fl_c vT_ab vT_be vT_bo vT_no vT_fu vT_he_ng vT_he_sl_n fT_he_sl_c vT_he_fl_n fT_he_fl_c) := hD
    have hm := Option.some.inj hm
    subst hm
    exact q_iret (v := r_20) hx hb hr hlocks hP hS dX7_least_23
  · have hm := it_s c_5 hm
    refine lv_aload_n hx hb dX7_least_8 rfl (lv_at hl 0 rfl) ?_
    refine lv_bipush (v := (-2)) hx hb dX7_least_9 (by decide) ?_
    obtain ⟨r_11, hc_11, hm⟩ := ob_s hm
    refine q_ci (q_rv (rest := []) ⟨hx, hb, hml, hown, hts⟩ hK hN hP hD (c_X7_refused l D cI cZ H.size AT AT_he AT_iz AT_io AT_tx AT_rd AT_fo AT_fi vT_ab vT_be vT_bo vT_no vT_fu (-2) r_11 hc_11) mb_X7_refused mv_X7_refused wl_X7_81 [0] rfl rfl rfl (Nat.le_of_ble_eq_true rfl) (Nat.le_of_ble_eq_true rfl) rfl hl.1 rfl (Nat.le_of_ble_eq_true rfl) ⟨Nat.le_refl 0, Nat.le_refl 0⟩ dX7_least_11) hP hD hS hA [0] rfl rfl (fun H locs hP hD hS => ?_)
    have hP : va_P D vwCl (wd_X7_least cI cZ AT AT_he AT_iz AT_io AT_tx AT_rd AT_fo AT_fi AT_he_sl AT_he_fl AT_he_ro AT_he_nt AT_he_mk AT_he_mo AT_he_sl_c AT_fo_tr AT_fo_ga AT_fo_bb AT_fo_fg AT_fo_sg AT_he_fl_c vT_ab vT_be r_11.2.1 r_11.2.2.1 r_11.2.2.2 vT_he_ng vT_he_sl_n fT_he_sl_c vT_he_fl_n fT_he_fl_c) H := hP
    have hD : va_D A (wd_X7_least cI cZ AT AT_he AT_iz AT_io AT_tx AT_rd AT_fo AT_fi AT_he_sl AT_he_fl AT_he_ro AT_he_nt AT_he_mk AT_he_mo AT_he_sl_c AT_fo_tr AT_fo_ga AT_fo_bb AT_fo_fg AT_fo_sg AT_he_fl_c vT_ab vT_be r_11.2.1 r_11.2.2.1 r_11.2.2.2 vT_he_ng vT_he_sl_n fT_he_sl_c vT_he_fl_n fT_he_fl_c) := hD
    have hm := Option.some.inj hm
    subst hm
    exact q_iret (v := r_11.1) hx hb hr hlocks hP hS dX7_least_14
theorem mb_X7_send : q_mb yX7_send cX7_send 4 (some .int) 2 := ⟨wc_X7_send, wn_X7, by decide, by decide, by decide +kernel⟩
theorem mv_X7_send : q_mv yX7_send 7 := ⟨wi_X7_send, ws_X7_send, _, rfl, rfl⟩
def wd_X7_send (cI cZ : ClassId) (AT AT_he AT_iz AT_io AT_tx AT_rd AT_fo AT_fi AT_he_sl AT_he_fl AT_he_ro AT_he_nt AT_he_mk AT_he_mo AT_he_sl_c AT_fo_tr AT_fo_ga AT_fo_bb AT_fo_fg AT_fo_sg AT_he_fl_c : Nat) (vT_ab : Int32) (vT_be : Int32) (vT_bo : Int32) (vT_no : Int32) (vT_fu : Int32) (vT_he_ng : Int32) (vT_he_sl_n : Int32) (vT_he_fl_n : Int32) (fT_he_sl_c : Nat → Int32) (fT_he_fl_c : Nat → Int32) : va_W := [(AT, .inr (7, [.ref AT_he, .ref AT_iz, .ref AT_io, .ref AT_tx, .ref AT_rd, .ref AT_fo, .ref AT_fi, .int vT_ab, .int vT_be, .int vT_bo, .int vT_no, .int vT_fu])), (AT_he, .inr (4, [.ref AT_he_sl, .ref AT_he_fl, .ref AT_he_ro, .ref AT_he_nt, .ref AT_he_mk, .ref AT_he_mo, .int vT_he_ng])), (AT_he_sl, .inr (3, [.int 4, .ref AT_he_sl_c, .int vT_he_sl_n])), (AT_fo, .inr (1, [.ref AT_he, .ref AT_fo_tr, .ref AT_fo_ga, .ref AT_fo_bb, .ref AT_fo_fg, .ref AT_fo_sg])), (AT_he_fl, .inr (3, [.int 3, .ref AT_he_fl_c, .int vT_he_fl_n])), (AT_he_sl_c, .inl (cI, 24, .inl fT_he_sl_c)), (AT_he_fl_c, .inl (cI, 18, .inl fT_he_fl_c))]
def fm_X7_send (p1 : Int32) (p2 : Int32) (vT_bo : Int32) (vT_no : Int32) (vT_fu : Int32) (vT_he_ng : Int32) (vT_he_sl_n : Int32) (vT_he_fl_n : Int32) (fT_he_sl_c : Nat → Int32) (fT_he_fl_c : Nat → Int32) : Option (Int32 × Int32 × Int32 × Int32) := Option.bind (fm_X7_isSleeper p1 vT_he_sl_n) (fun r_2 => if r_2 = 0 then (Option.bind (fm_X7_refused (-2) vT_bo vT_no vT_fu) (fun r_20 => some (r_20.1, r_20.2.1, r_20.2.2.1, r_20.2.2.2))) else (Option.bind (fm_X7_within p2 0 1) (fun r_11 => if r_11 = 0 then (Option.bind (fm_X7_refused (-2) vT_bo vT_no vT_fu) (fun r_20 => some (r_20.1, r_20.2.1, r_20.2.2.1, r_20.2.2.2))) else (Option.bind (fm_X1_soonestFlower p1 vT_he_ng vT_he_fl_n vT_he_sl_n fT_he_sl_c fT_he_fl_c) (fun r_29 => if r_29 = (-1) then (some (r_29, vT_bo, vT_no, vT_fu)) else (if p2 = 1 then (some (r_29, vT_bo, vT_no, vT_fu)) else (Option.bind (fm_X1_nightsTillDone p1 r_29 vT_he_ng vT_he_sl_n fT_he_sl_c vT_he_fl_n fT_he_fl_c) (fun r_51 => some (r_51, vT_bo, vT_no, vT_fu)))))))))
set_option maxHeartbeats 4000000 in
set_option maxRecDepth 100000 in
theorem c_X7_send (l : Launch) (D : va_G) (cI cZ : ClassId) (sz : Nat) (AT AT_he AT_iz AT_io AT_tx AT_rd AT_fo AT_fi AT_he_sl AT_he_fl AT_he_ro AT_he_nt AT_he_mk AT_he_mo AT_he_sl_c AT_fo_tr AT_fo_ga AT_fo_bb AT_fo_fg AT_fo_sg AT_he_fl_c : Nat) (vT_ab : Int32) (vT_be : Int32) (vT_bo : Int32) (vT_no : Int32) (vT_fu : Int32) (vT_he_ng : Int32) (vT_he_sl_n : Int32) (vT_he_fl_n : Int32) (fT_he_sl_c : Nat → Int32) (fT_he_fl_c : Nat → Int32) (p1 : Int32) (p2 : Int32) (out : (Int32 × Int32 × Int32 × Int32)) (hm : fm_X7_send p1 p2 vT_bo vT_no vT_fu vT_he_ng vT_he_sl_n vT_he_fl_n fT_he_sl_c fT_he_fl_c = some out) : Met l yX7_send (Cond.code yX7_send cX7_send 4 (some .int) :: bg) { frames := 5, cells := 0, slots := 0, locals := 124 } (va_Pc [.ref AT, .int p1, .int p2] (q_pre D cI cZ sz (wd_X7_send cI cZ AT AT_he AT_iz AT_io AT_tx AT_rd AT_fo AT_fi AT_he_sl AT_he_fl AT_he_ro AT_he_nt AT_he_mk AT_he_mo AT_he_sl_c AT_fo_tr AT_fo_ga AT_fo_bb AT_fo_fg AT_fo_sg AT_he_fl_c vT_ab vT_be vT_bo vT_no vT_fu vT_he_ng vT_he_sl_n vT_he_fl_n fT_he_sl_c fT_he_fl_c))) (q_Qi D (wd_X7_send cI cZ AT AT_he AT_iz AT_io AT_tx AT_rd AT_fo AT_fi AT_he_sl AT_he_fl AT_he_ro AT_he_nt AT_he_mk AT_he_mo AT_he_sl_c AT_fo_tr AT_fo_ga AT_fo_bb AT_fo_fg AT_fo_sg AT_he_fl_c vT_ab vT_be out.2.1 out.2.2.1 out.2.2.2 vT_he_ng vT_he_sl_n vT_he_fl_n fT_he_sl_c fT_he_fl_c) out.1 (va_A (wd_X7_send cI cZ AT AT_he AT_iz AT_io AT_tx AT_rd AT_fo AT_fi AT_he_sl AT_he_fl AT_he_ro AT_he_nt AT_he_mk AT_he_mo AT_he_sl_c AT_fo_tr AT_fo_ga AT_fo_bb AT_fo_fg AT_fo_sg AT_he_fl_c vT_ab vT_be vT_bo vT_no vT_fu vT_he_ng vT_he_sl_n vT_he_fl_n fT_he_sl_c fT_he_fl_c) sz)) 0 0 (va_A (wd_X7_send cI cZ AT AT_he AT_iz AT_io AT_tx AT_rd AT_fo AT_fi AT_he_sl AT_he_fl AT_he_ro AT_he_nt AT_he_mk AT_he_mo AT_he_sl_c AT_fo_tr AT_fo_ga AT_fo_bb AT_fo_fg AT_fo_sg AT_he_fl_c vT_ab vT_be vT_bo vT_no vT_fu vT_he_ng vT_he_sl_n vT_he_fl_n fT_he_sl_c fT_he_fl_c) sz) := by
  refine q_met (fun A => q_Qi D (wd_X7_send cI cZ AT AT_he AT_iz AT_io AT_tx AT_rd AT_fo AT_fi AT_he_sl AT_he_fl AT_he_ro AT_he_nt AT_he_mk AT_he_mo AT_he_sl_c AT_fo_tr AT_fo_ga AT_fo_bb AT_fo_fg AT_fo_sg AT_he_fl_c vT_ab vT_be out.2.1 out.2.2.1 out.2.2.2 vT_he_ng vT_he_sl_n vT_he_fl_n fT_he_sl_c fT_he_fl_c) out.1 A) (by decide) (Nat.le_of_ble_eq_true rfl) ?_
  intro p e s m below meth c ls A hx hb hr hml hown hts hlocks _ hA hS hP hD hK hN hl
  have hown : s.vm.findClass RX7 = some m.cls := hown
  have hl : lv_has ls 4 [(0, .ref AT), (1, .int p1), (2, .int p2)] := hl
  unfold fm_X7_send at hm
  refine q_gen hS hP ?_
  intro H locs hP hS
  refine lv_aload_n hx hb dX7_send_0 rfl (lv_at hl 0 rfl) ?_
  refine lv_iload_n hx hb dX7_send_1 rfl (lv_at hl 1 rfl) ?_
  obtain ⟨r_2, hc_2, hm⟩ := ob_s hm
  refine q_ci (q_rv (rest := []) ⟨hx, hb, hml, hown, hts⟩ hK hN hP hD (c_X7_isSleeper l D cI cZ H.size AT AT_he AT_iz AT_io AT_tx AT_rd AT_fo AT_fi AT_he_sl AT_he_fl AT_he_ro AT_he_nt AT_he_mk AT_he_mo AT_he_sl_c vT_ab vT_be vT_bo vT_no vT_fu vT_he_ng vT_he_sl_n p1 r_2 hc_2) mb_X7_isSleeper mv_X7_isSleeper wl_X7_135 [0, 1, 2] rfl rfl rfl (Nat.le_of_ble_eq_true rfl) (Nat.le_of_ble_eq_true rfl) rfl hl.1 rfl (Nat.le_of_ble_eq_true rfl) ⟨Nat.le_refl 0, Nat.le_refl 0⟩ dX7_send_2) hP hD hS hA [0, 1, 2] rfl rfl (fun H locs hP hD hS => ?_)
  have hP : va_P D vwCl (wd_X7_send cI cZ AT AT_he AT_iz AT_io AT_tx AT_rd AT_fo AT_fi AT_he_sl AT_he_fl AT_he_ro AT_he_nt AT_he_mk AT_he_mo AT_he_sl_c AT_fo_tr AT_fo_ga AT_fo_bb AT_fo_fg AT_fo_sg AT_he_fl_c vT_ab vT_be vT_bo vT_no vT_fu vT_he_ng vT_he_sl_n vT_he_fl_n fT_he_sl_c fT_he_fl_c) H := hP
  have hD : va_D A (wd_X7_send cI cZ AT AT_he AT_iz AT_io AT_tx AT_rd AT_fo AT_fi AT_he_sl AT_he_fl AT_he_ro AT_he_nt AT_he_mk AT_he_mo AT_he_sl_c AT_fo_tr AT_fo_ga AT_fo_bb AT_fo_fg AT_fo_sg AT_he_fl_c vT_ab vT_be vT_bo vT_no vT_fu vT_he_ng vT_he_sl_n vT_he_fl_n fT_he_sl_c fT_he_fl_c) := hD
  refine lv_if_eq (tgt := 17) hx hb dX7_send_5 (by decide) (fun c_5 => ?_) (fun c_5 => ?_)
  · have hm := it_s c_5 hm
    refine lv_aload_n hx hb dX7_send_17 rfl (lv_at hl 0 rfl) ?_
    refine lv_bipush (v := (-2)) hx hb dX7_send_18 (by decide) ?_
    obtain ⟨r_20, hc_20, hm⟩ := ob_s hm
    refine q_ci (q_rv (rest := []) ⟨hx, hb, hml, hown, hts⟩ hK hN hP hD (c_X7_refused l D cI cZ H.size AT AT_he AT_iz AT_io AT_tx AT_rd AT_fo AT_fi vT_ab vT_be vT_bo vT_no vT_fu (-2) r_20 hc_20) mb_X7_refused mv_X7_refused wl_X7_81 [0] rfl rfl rfl (Nat.le_of_ble_eq_true rfl) (Nat.le_of_ble_eq_true rfl) rfl hl.1 rfl (Nat.le_of_ble_eq_true rfl) ⟨Nat.le_refl 0, Nat.le_refl 0⟩ dX7_send_20) hP hD hS hA [0] rfl rfl (fun H locs hP hD hS => ?_)
    have hP : va_P D vwCl (wd_X7_send cI cZ AT AT_he AT_iz AT_io AT_tx AT_rd AT_fo AT_fi AT_he_sl AT_he_fl AT_he_ro AT_he_nt AT_he_mk AT_he_mo AT_he_sl_c AT_fo_tr AT_fo_ga AT_fo_bb AT_fo_fg AT_fo_sg AT_he_fl_c vT_ab vT_be r_20.2.1 r_20.2.2.1 r_20.2.2.2 vT_he_ng vT_he_sl_n vT_he_fl_n fT_he_sl_c fT_he_fl_c) H := hP
    have hD : va_D A (wd_X7_send cI cZ AT AT_he AT_iz AT_io AT_tx AT_rd AT_fo AT_fi AT_he_sl AT_he_fl AT_he_ro AT_he_nt AT_he_mk AT_he_mo AT_he_sl_c AT_fo_tr AT_fo_ga AT_fo_bb AT_fo_fg AT_fo_sg AT_he_fl_c vT_ab vT_be r_20.2.1 r_20.2.2.1 r_20.2.2.2 vT_he_ng vT_he_sl_n vT_he_fl_n fT_he_sl_c fT_he_fl_c) := hD
    have hm := Option.some.inj hm
    subst hm
    exact q_iret (v := r_20.1) hx hb hr hlocks hP hS dX7_send_23
  · have hm := it_n c_5 hm
    refine lv_iload_n hx hb dX7_send_8 rfl (lv_at hl 2 rfl) ?_
    refine lv_iconst (v := 0) hx hb dX7_send_9 (by decide) ?_
    refine lv_iconst (v := 1) hx hb dX7_send_10 (by decide) ?_
    obtain ⟨r_11, hc_11, hm⟩ := ob_s hm
    refine q_ci (q_rs (rest := []) ⟨hx, hb, hml, hown, hts⟩ hK hN hP hD (c_X7_within l D cI cZ H.size p2 0 1 r_11 hc_11) mb_X7_within wt_X7_within wl_X7_77 [] rfl rfl (Nat.le_of_ble_eq_true rfl) (Nat.le_of_ble_eq_true rfl) rfl hl.1 rfl (Nat.le_of_ble_eq_true rfl) ⟨Nat.le_refl 0, Nat.le_refl 0⟩ dX7_send_11) hP hD hS hA [] rfl rfl (fun H locs hP hD hS => ?_)
    have hP : va_P D vwCl (wd_X7_send cI cZ AT AT_he AT_iz AT_io AT_tx AT_rd AT_fo AT_fi AT_he_sl AT_he_fl AT_he_ro AT_he_nt AT_he_mk AT_he_mo AT_he_sl_c AT_fo_tr AT_fo_ga AT_fo_bb AT_fo_fg AT_fo_sg AT_he_fl_c vT_ab vT_be vT_bo vT_no vT_fu vT_he_ng vT_he_sl_n vT_he_fl_n fT_he_sl_c fT_he_fl_c) H := hP
    have hD : va_D A (wd_X7_send cI cZ AT AT_he AT_iz AT_io AT_tx AT_rd AT_fo AT_fi AT_he_sl AT_he_fl AT_he_ro AT_he_nt AT_he_mk AT_he_mo AT_he_sl_c AT_fo_tr AT_fo_ga AT_fo_bb AT_fo_fg AT_fo_sg AT_he_fl_c vT_ab vT_be vT_bo vT_no vT_fu vT_he_ng vT_he_sl_n vT_he_fl_n fT_he_sl_c fT_he_fl_c) := hD
    refine lv_if_ne (tgt := 24) hx hb dX7_send_14 (by decide) (fun c_14 => ?_) (fun c_14 => ?_)
    · have hm := it_n c_14 hm
      refine lv_aload_n hx hb dX7_send_24 rfl (lv_at hl 0 rfl) ?_
      refine gf_X7_49 (v := .ref AT_fo) hx hb hts hown hK hN hP 0 rfl rfl dX7_send_25 ?_
      refine lv_iload_n hx hb dX7_send_28 rfl (lv_at hl 1 rfl) ?_
      obtain ⟨r_29, hc_29, hm⟩ := ob_s hm
      refine q_ci (q_rv (rest := []) ⟨hx, hb, hml, hown, hts⟩ hK hN hP hD (c_X1_soonestFlower l D cI cZ H.size AT_fo AT_he AT_fo_tr AT_fo_ga AT_fo_bb AT_fo_fg AT_fo_sg AT_he_sl AT_he_fl AT_he_ro AT_he_nt AT_he_mk AT_he_mo AT_he_fl_c AT_he_sl_c vT_he_ng vT_he_fl_n vT_he_sl_n fT_he_sl_c fT_he_fl_c p1 r_29 hc_29) mb_X1_soonestFlower mv_X1_soonestFlower wl_X7_180 [3, 1, 4, 2, 5, 6] rfl rfl rfl (Nat.le_of_ble_eq_true rfl) (Nat.le_of_ble_eq_true rfl) rfl hl.1 rfl (Nat.le_of_ble_eq_true rfl) ⟨Nat.le_refl 0, Nat.le_refl 0⟩ dX7_send_29) hP hD hS hA [3, 1, 4, 2, 5, 6] rfl rfl (fun H locs hP hD hS => ?_)
      have hP : va_P D vwCl (wd_X7_send cI cZ AT AT_he AT_iz AT_io AT_tx AT_rd AT_fo AT_fi AT_he_sl AT_he_fl AT_he_ro AT_he_nt AT_he_mk AT_he_mo AT_he_sl_c AT_fo_tr AT_fo_ga AT_fo_bb AT_fo_fg AT_fo_sg AT_he_fl_c vT_ab vT_be vT_bo vT_no vT_fu vT_he_ng vT_he_sl_n vT_he_fl_n fT_he_sl_c fT_he_fl_c) H := hP
      have hD : va_D A (wd_X7_send cI cZ AT AT_he AT_iz AT_io AT_tx AT_rd AT_fo AT_fi AT_he_sl AT_he_fl AT_he_ro AT_he_nt AT_he_mk AT_he_mo AT_he_sl_c AT_fo_tr AT_fo_ga AT_fo_bb AT_fo_fg AT_fo_sg AT_he_fl_c vT_ab vT_be vT_bo vT_no vT_fu vT_he_ng vT_he_sl_n vT_he_fl_n fT_he_sl_c fT_he_fl_c) := hD
      refine lv_istore_n (lv' := [(3, .int r_29), (0, .ref AT), (1, .int p1), (2, .int p2)]) hx hb dX7_send_32 rfl hl (by decide) rfl (fun ls hl => ?_)
      refine lv_iload_n hx hb dX7_send_33 rfl (lv_at hl 0 rfl) ?_
      refine lv_iconst (v := (-1)) hx hb dX7_send_34 (by decide) ?_
      refine lv_icmp_eq (tgt := 43) hx hb dX7_send_35 (by decide) (fun c_35 => ?_) (fun c_35 => ?_)
      · have hm := it_s c_35 hm
        refine lv_iload_n hx hb dX7_send_43 rfl (lv_at hl 0 rfl) ?_
        have hm := Option.some.inj hm
        subst hm
        exact q_iret (v := r_29) hx hb hr hlocks hP hS dX7_send_44
      · have hm := it_n c_35 hm
        refine lv_iload_n hx hb dX7_send_38 rfl (lv_at hl 3 rfl) ?_
        refine lv_iconst (v := 1) hx hb dX7_send_39 (by decide) ?_
        refine lv_icmp_ne (tgt := 45) hx hb dX7_send_40 (by decide) (fun c_40 => ?_) (fun c_40 => ?_)
        · have hm := it_n c_40 hm
          refine lv_aload_n hx hb dX7_send_45 rfl (lv_at hl 1 rfl) ?_
          refine gf_X7_49 (v := .ref AT_fo) hx hb hts hown hK hN hP 0 rfl rfl dX7_send_46 ?_
          refine lv_iload_n hx hb dX7_send_49 rfl (lv_at hl 2 rfl) ?_
          refine lv_iload_n hx hb dX7_send_50 rfl (lv_at hl 0 rfl) ?_
          obtain ⟨r_51, hc_51, hm⟩ := ob_s hm
          refine q_ci (q_rv (rest := []) ⟨hx, hb, hml, hown, hts⟩ hK hN hP hD (c_X1_nightsTillDone l D cI cZ H.size AT_fo AT_he AT_fo_tr AT_fo_ga AT_fo_bb AT_fo_fg AT_fo_sg AT_he_sl AT_he_fl AT_he_ro AT_he_nt AT_he_mk AT_he_mo AT_he_sl_c AT_he_fl_c vT_he_ng vT_he_sl_n fT_he_sl_c vT_he_fl_n fT_he_fl_c p1 r_29 r_51 hc_51) mb_X1_nightsTillDone mv_X1_nightsTillDone wl_X7_170 [3, 1, 2, 5, 4, 6] rfl rfl rfl (Nat.le_of_ble_eq_true rfl) (Nat.le_of_ble_eq_true rfl) rfl hl.1 rfl (Nat.le_of_ble_eq_true rfl) ⟨Nat.le_refl 0, Nat.le_refl 0⟩ dX7_send_51) hP hD hS hA [3, 1, 2, 5, 4, 6] rfl rfl (fun H locs hP hD hS => ?_)
          have hP : va_P D vwCl (wd_X7_send cI cZ AT AT_he AT_iz AT_io AT_tx AT_rd AT_fo AT_fi AT_he_sl AT_he_fl AT_he_ro AT_he_nt AT_he_mk AT_he_mo AT_he_sl_c AT_fo_tr AT_fo_ga AT_fo_bb AT_fo_fg AT_fo_sg AT_he_fl_c vT_ab vT_be vT_bo vT_no vT_fu vT_he_ng vT_he_sl_n vT_he_fl_n fT_he_sl_c fT_he_fl_c) H := hP
          have hD : va_D A (wd_X7_send cI cZ AT AT_he AT_iz AT_io AT_tx AT_rd AT_fo AT_fi AT_he_sl AT_he_fl AT_he_ro AT_he_nt AT_he_mk AT_he_mo AT_he_sl_c AT_fo_tr AT_fo_ga AT_fo_bb AT_fo_fg AT_fo_sg AT_he_fl_c vT_ab vT_be vT_bo vT_no vT_fu vT_he_ng vT_he_sl_n vT_he_fl_n fT_he_sl_c fT_he_fl_c) := hD
          have hm := Option.some.inj hm
          subst hm
          exact q_iret (v := r_51) hx hb hr hlocks hP hS dX7_send_54
        · have hm := it_s c_40 hm
          refine lv_iload_n hx hb dX7_send_43 rfl (lv_at hl 0 rfl) ?_
          have hm := Option.some.inj hm
          subst hm
          exact q_iret (v := r_29) hx hb hr hlocks hP hS dX7_send_44
    · have hm := it_s c_14 hm
      refine lv_aload_n hx hb dX7_send_17 rfl (lv_at hl 0 rfl) ?_
      refine lv_bipush (v := (-2)) hx hb dX7_send_18 (by decide) ?_
      obtain ⟨r_20, hc_20, hm⟩ := ob_s hm
      refine q_ci (q_rv (rest := []) ⟨hx, hb, hml, hown, hts⟩ hK hN hP hD (c_X7_refused l D cI cZ H.size AT AT_he AT_iz AT_io AT_tx AT_rd AT_fo AT_fi vT_ab vT_be vT_bo vT_no vT_fu (-2) r_20 hc_20) mb_X7_refused mv_X7_refused wl_X7_81 [0] rfl rfl rfl (Nat.le_of_ble_eq_true rfl) (Nat.le_of_ble_eq_true rfl) rfl hl.1 rfl (Nat.le_of_ble_eq_true rfl) ⟨Nat.le_refl 0, Nat.le_refl 0⟩ dX7_send_20) hP hD hS hA [0] rfl rfl (fun H locs hP hD hS => ?_)
      have hP : va_P D vwCl (wd_X7_send cI cZ AT AT_he AT_iz AT_io AT_tx AT_rd AT_fo AT_fi AT_he_sl AT_he_fl AT_he_ro AT_he_nt AT_he_mk AT_he_mo AT_he_sl_c AT_fo_tr AT_fo_ga AT_fo_bb AT_fo_fg AT_fo_sg AT_he_fl_c vT_ab vT_be r_20.2.1 r_20.2.2.1 r_20.2.2.2 vT_he_ng vT_he_sl_n vT_he_fl_n fT_he_sl_c fT_he_fl_c) H := hP
      have hD : va_D A (wd_X7_send cI cZ AT AT_he AT_iz AT_io AT_tx AT_rd AT_fo AT_fi AT_he_sl AT_he_fl AT_he_ro AT_he_nt AT_he_mk AT_he_mo AT_he_sl_c AT_fo_tr AT_fo_ga AT_fo_bb AT_fo_fg AT_fo_sg AT_he_fl_c vT_ab vT_be r_20.2.1 r_20.2.2.1 r_20.2.2.2 vT_he_ng vT_he_sl_n vT_he_fl_n fT_he_sl_c fT_he_fl_c) := hD
      have hm := Option.some.inj hm
      subst hm
      exact q_iret (v := r_20.1) hx hb hr hlocks hP hS dX7_send_23
theorem gf_X7_183 {p : Program} {l : Launch} {e : Env} {R : Room} {s : State} {m : MethodId} {args : Array Value} {below : List Frame} {meth : Method} {c : Code} {H : Heap} {locs : List Loc} {cells slots : Nat} {Q : State → Prop} {pc : Nat} {ls : Array Slot} {cc : ByteArray} {D : va_G} {cI cZ : ClassId} {ws : va_W} {a : Nat} {rest fs : List Value} (hx : p.tables.exec = Jvm.exec) (hb : c.code = cc) (hts : ∀ w ∈ bg, w.before args s = true) (hown : s.vm.findClass RX7 = some m.cls) (hK : va_K D vwCl (q_tys cI cZ) s) (hN : q_N s) (hP : va_P D vwCl ws H) (q0 : Nat) (he : ws[q0]? = some (a, .inr (4, fs))) {v : Value} (hv : fs[2]? = some v) (hdg : decode cc pc = .ok (.getfield 183, 3)) (kk : W p l e R s m args below meth c H locs cells slots Q (F0 m (pc + 3) ls (v :: rest))) : W p l e R s m args below meth c H locs cells slots Q (F0 m pc ls (.ref a :: rest)) :=
  va_getN (C := RX4) (T := TX4) (N := 7) hx hb hts wu_X4 hown hK hP q0 he rfl 2 (by decide) ((ng_X7_183 hN).use rfl) (fun _ h9 => h9) hv hdg kk
theorem mb_X7_rose : q_mb yX7_rose cX7_rose 4 (some .int) 3 := ⟨wc_X7_rose, wn_X7, by decide, by decide, by decide +kernel⟩
theorem mv_X7_rose : q_mv yX7_rose 7 := ⟨wi_X7_rose, ws_X7_rose, _, rfl, rfl⟩
def wd_X7_rose (cI cZ : ClassId) (AT AT_he AT_iz AT_io AT_tx AT_rd AT_fo AT_fi AT_he_sl AT_he_fl AT_he_ro AT_he_nt AT_he_mk AT_he_mo AT_he_sl_c AT_he_ro_c : Nat) (vT_ab : Int32) (vT_be : Int32) (vT_bo : Int32) (vT_no : Int32) (vT_fu : Int32) (vT_he_ng : Int32) (vT_he_sl_n : Int32) (vT_he_ro_n : Int32) (fT_he_ro_c : Nat → Int32) : va_W := [(AT, .inr (7, [.ref AT_he, .ref AT_iz, .ref AT_io, .ref AT_tx, .ref AT_rd, .ref AT_fo, .ref AT_fi, .int vT_ab, .int vT_be, .int vT_bo, .int vT_no, .int vT_fu])), (AT_he, .inr (4, [.ref AT_he_sl, .ref AT_he_fl, .ref AT_he_ro, .ref AT_he_nt, .ref AT_he_mk, .ref AT_he_mo, .int vT_he_ng])), (AT_he_sl, .inr (3, [.int 4, .ref AT_he_sl_c, .int vT_he_sl_n])), (AT_he_ro, .inr (3, [.int 3, .ref AT_he_ro_c, .int vT_he_ro_n])), (AT_he_ro_c, .inl (cI, 15, .inl fT_he_ro_c))]
def fm_X7_rose (p1 : Int32) (p2 : Int32) (p3 : Int32) (vT_bo : Int32) (vT_no : Int32) (vT_fu : Int32) (vT_he_sl_n : Int32) (vT_he_ro_n : Int32) (fT_he_ro_c : Nat → Int32) : Option (Int32 × Int32 × Int32 × Int32 × Int32 × (Nat → Int32)) := Option.bind (fm_X7_isSleeper p1 vT_he_sl_n) (fun r_2 => if r_2 = 0 then (Option.bind (fm_X7_refused (-2) vT_bo vT_no vT_fu) (fun r_32 => some (r_32.1, r_32.2.1, r_32.2.2.1, r_32.2.2.2, vT_he_ro_n, fT_he_ro_c))) else (Option.bind (fm_X7_within p2 0 99) (fun r_12 => if r_12 = 0 then (Option.bind (fm_X7_refused (-2) vT_bo vT_no vT_fu) (fun r_32 => some (r_32.1, r_32.2.1, r_32.2.2.1, r_32.2.2.2, vT_he_ro_n, fT_he_ro_c))) else (Option.bind (fm_X7_within p3 0 200) (fun r_23 => if r_23 = 0 then (Option.bind (fm_X7_refused (-2) vT_bo vT_no vT_fu) (fun r_32 => some (r_32.1, r_32.2.1, r_32.2.2.1, r_32.2.2.2, vT_he_ro_n, fT_he_ro_c))) else (Option.bind (fm_X3_isFull 3 15 vT_he_ro_n) (fun r_43 => if r_43 = 0 then (Option.bind (fm_X3_add 3 15 p1 p2 p3 0 vT_he_ro_n fT_he_ro_c) (fun r_67 => Option.bind (fm_X3_size r_67.1) (fun r_77 => some (r_77, vT_bo, vT_no, vT_fu, r_67.1, r_67.2)))) else (Option.bind (fm_X7_refused (-4) vT_bo vT_no vT_fu) (fun r_52 => some (r_52.1, r_52.2.1, r_52.2.2.1, r_52.2.2.2, vT_he_ro_n, fT_he_ro_c))))))))))
set_option maxHeartbeats 4000000 in
set_option maxRecDepth 100000 in
theorem c_X7_rose (l : Launch) (D : va_G) (cI cZ : ClassId) (sz : Nat) (AT AT_he AT_iz AT_io AT_tx AT_rd AT_fo AT_fi AT_he_sl AT_he_fl AT_he_ro AT_he_nt AT_he_mk AT_he_mo AT_he_sl_c AT_he_ro_c : Nat) (vT_ab : Int32) (vT_be : Int32) (vT_bo : Int32) (vT_no : Int32) (vT_fu : Int32) (vT_he_ng : Int32) (vT_he_sl_n : Int32) (vT_he_ro_n : Int32) (fT_he_ro_c : Nat → Int32) (p1 : Int32) (p2 : Int32) (p3 : Int32) (out : (Int32 × Int32 × Int32 × Int32 × Int32 × (Nat → Int32))) (hm : fm_X7_rose p1 p2 p3 vT_bo vT_no vT_fu vT_he_sl_n vT_he_ro_n fT_he_ro_c = some out) : Met l yX7_rose (Cond.code yX7_rose cX7_rose 4 (some .int) :: bg) { frames := 2, cells := 0, slots := 0, locals := 49 } (va_Pc [.ref AT, .int p1, .int p2, .int p3] (q_pre D cI cZ sz (wd_X7_rose cI cZ AT AT_he AT_iz AT_io AT_tx AT_rd AT_fo AT_fi AT_he_sl AT_he_fl AT_he_ro AT_he_nt AT_he_mk AT_he_mo AT_he_sl_c AT_he_ro_c vT_ab vT_be vT_bo vT_no vT_fu vT_he_ng vT_he_sl_n vT_he_ro_n fT_he_ro_c))) (q_Qi D (wd_X7_rose cI cZ AT AT_he AT_iz AT_io AT_tx AT_rd AT_fo AT_fi AT_he_sl AT_he_fl AT_he_ro AT_he_nt AT_he_mk AT_he_mo AT_he_sl_c AT_he_ro_c vT_ab vT_be out.2.1 out.2.2.1 out.2.2.2.1 vT_he_ng vT_he_sl_n out.2.2.2.2.1 out.2.2.2.2.2) out.1 (va_A (wd_X7_rose cI cZ AT AT_he AT_iz AT_io AT_tx AT_rd AT_fo AT_fi AT_he_sl AT_he_fl AT_he_ro AT_he_nt AT_he_mk AT_he_mo AT_he_sl_c AT_he_ro_c vT_ab vT_be vT_bo vT_no vT_fu vT_he_ng vT_he_sl_n vT_he_ro_n fT_he_ro_c) sz)) 0 0 (va_A (wd_X7_rose cI cZ AT AT_he AT_iz AT_io AT_tx AT_rd AT_fo AT_fi AT_he_sl AT_he_fl AT_he_ro AT_he_nt AT_he_mk AT_he_mo AT_he_sl_c AT_he_ro_c vT_ab vT_be vT_bo vT_no vT_fu vT_he_ng vT_he_sl_n vT_he_ro_n fT_he_ro_c) sz) := by
  refine q_met (fun A => q_Qi D (wd_X7_rose cI cZ AT AT_he AT_iz AT_io AT_tx AT_rd AT_fo AT_fi AT_he_sl AT_he_fl AT_he_ro AT_he_nt AT_he_mk AT_he_mo AT_he_sl_c AT_he_ro_c vT_ab vT_be out.2.1 out.2.2.1 out.2.2.2.1 vT_he_ng vT_he_sl_n out.2.2.2.2.1 out.2.2.2.2.2) out.1 A) (by decide) (Nat.le_of_ble_eq_true rfl) ?_
  intro p e s m below meth c ls A hx hb hr hml hown hts hlocks _ hA hS hP hD hK hN hl
  have hown : s.vm.findClass RX7 = some m.cls := hown
  have hl : lv_has ls 4 [(0, .ref AT), (1, .int p1), (2, .int p2), (3, .int p3)] := hl
  unfold fm_X7_rose at hm
  refine q_gen hS hP ?_
  intro H locs hP hS
  refine lv_aload_n hx hb dX7_rose_0 rfl (lv_at hl 0 rfl) ?_
  refine lv_iload_n hx hb dX7_rose_1 rfl (lv_at hl 1 rfl) ?_
  obtain ⟨r_2, hc_2, hm⟩ := ob_s hm
  refine q_ci (q_rv (rest := []) ⟨hx, hb, hml, hown, hts⟩ hK hN hP hD (c_X7_isSleeper l D cI cZ H.size AT AT_he AT_iz AT_io AT_tx AT_rd AT_fo AT_fi AT_he_sl AT_he_fl AT_he_ro AT_he_nt AT_he_mk AT_he_mo AT_he_sl_c vT_ab vT_be vT_bo vT_no vT_fu vT_he_ng vT_he_sl_n p1 r_2 hc_2) mb_X7_isSleeper mv_X7_isSleeper wl_X7_135 [0, 1, 2] rfl rfl rfl (Nat.le_of_ble_eq_true rfl) (Nat.le_of_ble_eq_true rfl) rfl hl.1 rfl (Nat.le_of_ble_eq_true rfl) ⟨Nat.le_refl 0, Nat.le_refl 0⟩ dX7_rose_2) hP hD hS hA [0, 1, 2] rfl rfl (fun H locs hP hD hS => ?_)
  have hP : va_P D vwCl (wd_X7_rose cI cZ AT AT_he AT_iz AT_io AT_tx AT_rd AT_fo AT_fi AT_he_sl AT_he_fl AT_he_ro AT_he_nt AT_he_mk AT_he_mo AT_he_sl_c AT_he_ro_c vT_ab vT_be vT_bo vT_no vT_fu vT_he_ng vT_he_sl_n vT_he_ro_n fT_he_ro_c) H := hP
  have hD : va_D A (wd_X7_rose cI cZ AT AT_he AT_iz AT_io AT_tx AT_rd AT_fo AT_fi AT_he_sl AT_he_fl AT_he_ro AT_he_nt AT_he_mk AT_he_mo AT_he_sl_c AT_he_ro_c vT_ab vT_be vT_bo vT_no vT_fu vT_he_ng vT_he_sl_n vT_he_ro_n fT_he_ro_c) := hD
  refine lv_if_eq (tgt := 29) hx hb dX7_rose_5 (by decide) (fun c_5 => ?_) (fun c_5 => ?_)
  · have hm := it_s c_5 hm
    refine lv_aload_n hx hb dX7_rose_29 rfl (lv_at hl 0 rfl) ?_
    refine lv_bipush (v := (-2)) hx hb dX7_rose_30 (by decide) ?_
    obtain ⟨r_32, hc_32, hm⟩ := ob_s hm
    refine q_ci (q_rv (rest := []) ⟨hx, hb, hml, hown, hts⟩ hK hN hP hD (c_X7_refused l D cI cZ H.size AT AT_he AT_iz AT_io AT_tx AT_rd AT_fo AT_fi vT_ab vT_be vT_bo vT_no vT_fu (-2) r_32 hc_32) mb_X7_refused mv_X7_refused wl_X7_81 [0] rfl rfl rfl (Nat.le_of_ble_eq_true rfl) (Nat.le_of_ble_eq_true rfl) rfl hl.1 rfl (Nat.le_of_ble_eq_true rfl) ⟨Nat.le_refl 0, Nat.le_refl 0⟩ dX7_rose_32) hP hD hS hA [0] rfl rfl (fun H locs hP hD hS => ?_)
    have hP : va_P D vwCl (wd_X7_rose cI cZ AT AT_he AT_iz AT_io AT_tx AT_rd AT_fo AT_fi AT_he_sl AT_he_fl AT_he_ro AT_he_nt AT_he_mk AT_he_mo AT_he_sl_c AT_he_ro_c vT_ab vT_be r_32.2.1 r_32.2.2.1 r_32.2.2.2 vT_he_ng vT_he_sl_n vT_he_ro_n fT_he_ro_c) H := hP
    have hD : va_D A (wd_X7_rose cI cZ AT AT_he AT_iz AT_io AT_tx AT_rd AT_fo AT_fi AT_he_sl AT_he_fl AT_he_ro AT_he_nt AT_he_mk AT_he_mo AT_he_sl_c AT_he_ro_c vT_ab vT_be r_32.2.1 r_32.2.2.1 r_32.2.2.2 vT_he_ng vT_he_sl_n vT_he_ro_n fT_he_ro_c) := hD
    have hm := Option.some.inj hm
    subst hm
    exact q_iret (v := r_32.1) hx hb hr hlocks hP hS dX7_rose_35
  · have hm := it_n c_5 hm
    refine lv_iload_n hx hb dX7_rose_8 rfl (lv_at hl 2 rfl) ?_
    refine lv_iconst (v := 0) hx hb dX7_rose_9 (by decide) ?_
    refine lv_bipush (v := 99) hx hb dX7_rose_10 (by decide) ?_
    obtain ⟨r_12, hc_12, hm⟩ := ob_s hm
    refine q_ci (q_rs (rest := []) ⟨hx, hb, hml, hown, hts⟩ hK hN hP hD (c_X7_within l D cI cZ H.size p2 0 99 r_12 hc_12) mb_X7_within wt_X7_within wl_X7_77 [] rfl rfl (Nat.le_of_ble_eq_true rfl) (Nat.le_of_ble_eq_true rfl) rfl hl.1 rfl (Nat.le_of_ble_eq_true rfl) ⟨Nat.le_refl 0, Nat.le_refl 0⟩ dX7_rose_12) hP hD hS hA [] rfl rfl (fun H locs hP hD hS => ?_)
    have hP : va_P D vwCl (wd_X7_rose cI cZ AT AT_he AT_iz AT_io AT_tx AT_rd AT_fo AT_fi AT_he_sl AT_he_fl AT_he_ro AT_he_nt AT_he_mk AT_he_mo AT_he_sl_c AT_he_ro_c vT_ab vT_be vT_bo vT_no vT_fu vT_he_ng vT_he_sl_n vT_he_ro_n fT_he_ro_c) H := hP
    have hD : va_D A (wd_X7_rose cI cZ AT AT_he AT_iz AT_io AT_tx AT_rd AT_fo AT_fi AT_he_sl AT_he_fl AT_he_ro AT_he_nt AT_he_mk AT_he_mo AT_he_sl_c AT_he_ro_c vT_ab vT_be vT_bo vT_no vT_fu vT_he_ng vT_he_sl_n vT_he_ro_n fT_he_ro_c) := hD
    refine lv_if_eq (tgt := 29) hx hb dX7_rose_15 (by decide) (fun c_15 => ?_) (fun c_15 => ?_)
    · have hm := it_s c_15 hm
      refine lv_aload_n hx hb dX7_rose_29 rfl (lv_at hl 0 rfl) ?_
      refine lv_bipush (v := (-2)) hx hb dX7_rose_30 (by decide) ?_
      obtain ⟨r_32, hc_32, hm⟩ := ob_s hm
      refine q_ci (q_rv (rest := []) ⟨hx, hb, hml, hown, hts⟩ hK hN hP hD (c_X7_refused l D cI cZ H.size AT AT_he AT_iz AT_io AT_tx AT_rd AT_fo AT_fi vT_ab vT_be vT_bo vT_no vT_fu (-2) r_32 hc_32) mb_X7_refused mv_X7_refused wl_X7_81 [0] rfl rfl rfl (Nat.le_of_ble_eq_true rfl) (Nat.le_of_ble_eq_true rfl) rfl hl.1 rfl (Nat.le_of_ble_eq_true rfl) ⟨Nat.le_refl 0, Nat.le_refl 0⟩ dX7_rose_32) hP hD hS hA [0] rfl rfl (fun H locs hP hD hS => ?_)
      have hP : va_P D vwCl (wd_X7_rose cI cZ AT AT_he AT_iz AT_io AT_tx AT_rd AT_fo AT_fi AT_he_sl AT_he_fl AT_he_ro AT_he_nt AT_he_mk AT_he_mo AT_he_sl_c AT_he_ro_c vT_ab vT_be r_32.2.1 r_32.2.2.1 r_32.2.2.2 vT_he_ng vT_he_sl_n vT_he_ro_n fT_he_ro_c) H := hP
      have hD : va_D A (wd_X7_rose cI cZ AT AT_he AT_iz AT_io AT_tx AT_rd AT_fo AT_fi AT_he_sl AT_he_fl AT_he_ro AT_he_nt AT_he_mk AT_he_mo AT_he_sl_c AT_he_ro_c vT_ab vT_be r_32.2.1 r_32.2.2.1 r_32.2.2.2 vT_he_ng vT_he_sl_n vT_he_ro_n fT_he_ro_c) := hD
      have hm := Option.some.inj hm
      subst hm
      exact q_iret (v := r_32.1) hx hb hr hlocks hP hS dX7_rose_35
    · have hm := it_n c_15 hm
      refine lv_iload_n hx hb dX7_rose_18 rfl (lv_at hl 3 rfl) ?_
      refine lv_iconst (v := 0) hx hb dX7_rose_19 (by decide) ?_
      refine lv_sipush (v := 200) hx hb dX7_rose_20 (by decide) ?_
      obtain ⟨r_23, hc_23, hm⟩ := ob_s hm
      refine q_ci (q_rs (rest := []) ⟨hx, hb, hml, hown, hts⟩ hK hN hP hD (c_X7_within l D cI cZ H.size p3 0 200 r_23 hc_23) mb_X7_within wt_X7_within wl_X7_77 [] rfl rfl (Nat.le_of_ble_eq_true rfl) (Nat.le_of_ble_eq_true rfl) rfl hl.1 rfl (Nat.le_of_ble_eq_true rfl) ⟨Nat.le_refl 0, Nat.le_refl 0⟩ dX7_rose_23) hP hD hS hA [] rfl rfl (fun H locs hP hD hS => ?_)
      have hP : va_P D vwCl (wd_X7_rose cI cZ AT AT_he AT_iz AT_io AT_tx AT_rd AT_fo AT_fi AT_he_sl AT_he_fl AT_he_ro AT_he_nt AT_he_mk AT_he_mo AT_he_sl_c AT_he_ro_c vT_ab vT_be vT_bo vT_no vT_fu vT_he_ng vT_he_sl_n vT_he_ro_n fT_he_ro_c) H := hP
      have hD : va_D A (wd_X7_rose cI cZ AT AT_he AT_iz AT_io AT_tx AT_rd AT_fo AT_fi AT_he_sl AT_he_fl AT_he_ro AT_he_nt AT_he_mk AT_he_mo AT_he_sl_c AT_he_ro_c vT_ab vT_be vT_bo vT_no vT_fu vT_he_ng vT_he_sl_n vT_he_ro_n fT_he_ro_c) := hD
      refine lv_if_ne (tgt := 36) hx hb dX7_rose_26 (by decide) (fun c_26 => ?_) (fun c_26 => ?_)
      · have hm := it_n c_26 hm
        refine lv_aload_n hx hb dX7_rose_36 rfl (lv_at hl 0 rfl) ?_
        refine gf_X7_17 (v := .ref AT_he) hx hb hts hown hK hN hP 0 rfl rfl dX7_rose_37 ?_
        refine gf_X7_183 (v := .ref AT_he_ro) hx hb hts hown hK hN hP 1 rfl rfl dX7_rose_40 ?_
        obtain ⟨r_43, hc_43, hm⟩ := ob_s hm
        refine q_ci (q_rv (rest := []) ⟨hx, hb, hml, hown, hts⟩ hK hN hP hD (c_X3_isFull l D cI cZ H.size AT_he_ro AT_he_ro_c 3 15 vT_he_ro_n fT_he_ro_c r_43 hc_43) mb_X3_isFull mv_X3_isFull wl_X7_85 [3, 4] rfl rfl rfl (Nat.le_of_ble_eq_true rfl) (Nat.le_of_ble_eq_true rfl) rfl hl.1 rfl (Nat.le_of_ble_eq_true rfl) ⟨Nat.le_refl 0, Nat.le_refl 0⟩ dX7_rose_43) hP hD hS hA [3, 4] rfl rfl (fun H locs hP hD hS => ?_)
        have hP : va_P D vwCl (wd_X7_rose cI cZ AT AT_he AT_iz AT_io AT_tx AT_rd AT_fo AT_fi AT_he_sl AT_he_fl AT_he_ro AT_he_nt AT_he_mk AT_he_mo AT_he_sl_c AT_he_ro_c vT_ab vT_be vT_bo vT_no vT_fu vT_he_ng vT_he_sl_n vT_he_ro_n fT_he_ro_c) H := hP
        have hD : va_D A (wd_X7_rose cI cZ AT AT_he AT_iz AT_io AT_tx AT_rd AT_fo AT_fi AT_he_sl AT_he_fl AT_he_ro AT_he_nt AT_he_mk AT_he_mo AT_he_sl_c AT_he_ro_c vT_ab vT_be vT_bo vT_no vT_fu vT_he_ng vT_he_sl_n vT_he_ro_n fT_he_ro_c) := hD
        refine lv_if_eq (tgt := 56) hx hb dX7_rose_46 (by decide) (fun c_46 => ?_) (fun c_46 => ?_)
        · have hm := it_s c_46 hm
          refine lv_aload_n hx hb dX7_rose_56 rfl (lv_at hl 0 rfl) ?_
          refine gf_X7_17 (v := .ref AT_he) hx hb hts hown hK hN hP 0 rfl rfl dX7_rose_57 ?_
          refine gf_X7_183 (v := .ref AT_he_ro) hx hb hts hown hK hN hP 1 rfl rfl dX7_rose_60 ?_
          refine lv_iload_n hx hb dX7_rose_63 rfl (lv_at hl 1 rfl) ?_
          refine lv_iload_n hx hb dX7_rose_64 rfl (lv_at hl 2 rfl) ?_
          refine lv_iload_n hx hb dX7_rose_65 rfl (lv_at hl 3 rfl) ?_
          refine lv_iconst (v := 0) hx hb dX7_rose_66 (by decide) ?_
          obtain ⟨r_67, hc_67, hm⟩ := ob_s hm
          refine q_cv (q_rv (rest := []) ⟨hx, hb, hml, hown, hts⟩ hK hN hP hD (c_X3_add l D cI cZ H.size AT_he_ro AT_he_ro_c 3 15 vT_he_ro_n fT_he_ro_c p1 p2 p3 0 r_67 hc_67) mb_X3_add mv_X3_add wl_X7_103 [3, 4] rfl rfl rfl (Nat.le_of_ble_eq_true rfl) (Nat.le_of_ble_eq_true rfl) rfl hl.1 rfl (Nat.le_of_ble_eq_true rfl) ⟨Nat.le_refl 0, Nat.le_refl 0⟩ dX7_rose_67) hP hD hS hA [3, 4] rfl rfl (fun H locs hP hD hS => ?_)
          have hP : va_P D vwCl (wd_X7_rose cI cZ AT AT_he AT_iz AT_io AT_tx AT_rd AT_fo AT_fi AT_he_sl AT_he_fl AT_he_ro AT_he_nt AT_he_mk AT_he_mo AT_he_sl_c AT_he_ro_c vT_ab vT_be vT_bo vT_no vT_fu vT_he_ng vT_he_sl_n r_67.1 r_67.2) H := hP
          have hD : va_D A (wd_X7_rose cI cZ AT AT_he AT_iz AT_io AT_tx AT_rd AT_fo AT_fi AT_he_sl AT_he_fl AT_he_ro AT_he_nt AT_he_mk AT_he_mo AT_he_sl_c AT_he_ro_c vT_ab vT_be vT_bo vT_no vT_fu vT_he_ng vT_he_sl_n r_67.1 r_67.2) := hD
          refine lv_aload_n hx hb dX7_rose_70 rfl (lv_at hl 0 rfl) ?_
          refine gf_X7_17 (v := .ref AT_he) hx hb hts hown hK hN hP 0 rfl rfl dX7_rose_71 ?_
          refine gf_X7_183 (v := .ref AT_he_ro) hx hb hts hown hK hN hP 1 rfl rfl dX7_rose_74 ?_
          obtain ⟨r_77, hc_77, hm⟩ := ob_s hm
          refine q_ci (q_rv (rest := []) ⟨hx, hb, hml, hown, hts⟩ hK hN hP hD (c_X3_size l D cI cZ H.size AT_he_ro AT_he_ro_c 3 r_67.1 r_77 hc_77) mb_X3_size mv_X3_size wl_X7_70 [3] rfl rfl rfl (Nat.le_of_ble_eq_true rfl) (Nat.le_of_ble_eq_true rfl) rfl hl.1 rfl (Nat.le_of_ble_eq_true rfl) ⟨Nat.le_refl 0, Nat.le_refl 0⟩ dX7_rose_77) hP hD hS hA [3] rfl rfl (fun H locs hP hD hS => ?_)
          have hP : va_P D vwCl (wd_X7_rose cI cZ AT AT_he AT_iz AT_io AT_tx AT_rd AT_fo AT_fi AT_he_sl AT_he_fl AT_he_ro AT_he_nt AT_he_mk AT_he_mo AT_he_sl_c AT_he_ro_c vT_ab vT_be vT_bo vT_no vT_fu vT_he_ng vT_he_sl_n r_67.1 r_67.2) H := hP
          have hD : va_D A (wd_X7_rose cI cZ AT AT_he AT_iz AT_io AT_tx AT_rd AT_fo AT_fi AT_he_sl AT_he_fl AT_he_ro AT_he_nt AT_he_mk AT_he_mo AT_he_sl_c AT_he_ro_c vT_ab vT_be vT_bo vT_no vT_fu vT_he_ng vT_he_sl_n r_67.1 r_67.2) := hD
          have hm := Option.some.inj hm
          subst hm
          exact q_iret (v := r_77) hx hb hr hlocks hP hS dX7_rose_80
        · have hm := it_n c_46 hm
          refine lv_aload_n hx hb dX7_rose_49 rfl (lv_at hl 0 rfl) ?_
          refine lv_bipush (v := (-4)) hx hb dX7_rose_50 (by decide) ?_
          obtain ⟨r_52, hc_52, hm⟩ := ob_s hm
          refine q_ci (q_rv (rest := []) ⟨hx, hb, hml, hown, hts⟩ hK hN hP hD (c_X7_refused l D cI cZ H.size AT AT_he AT_iz AT_io AT_tx AT_rd AT_fo AT_fi vT_ab vT_be vT_bo vT_no vT_fu (-4) r_52 hc_52) mb_X7_refused mv_X7_refused wl_X7_81 [0] rfl rfl rfl (Nat.le_of_ble_eq_true rfl) (Nat.le_of_ble_eq_true rfl) rfl hl.1 rfl (Nat.le_of_ble_eq_true rfl) ⟨Nat.le_refl 0, Nat.le_refl 0⟩ dX7_rose_52) hP hD hS hA [0] rfl rfl (fun H locs hP hD hS => ?_)
          have hP : va_P D vwCl (wd_X7_rose cI cZ AT AT_he AT_iz AT_io AT_tx AT_rd AT_fo AT_fi AT_he_sl AT_he_fl AT_he_ro AT_he_nt AT_he_mk AT_he_mo AT_he_sl_c AT_he_ro_c vT_ab vT_be r_52.2.1 r_52.2.2.1 r_52.2.2.2 vT_he_ng vT_he_sl_n vT_he_ro_n fT_he_ro_c) H := hP
          have hD : va_D A (wd_X7_rose cI cZ AT AT_he AT_iz AT_io AT_tx AT_rd AT_fo AT_fi AT_he_sl AT_he_fl AT_he_ro AT_he_nt AT_he_mk AT_he_mo AT_he_sl_c AT_he_ro_c vT_ab vT_be r_52.2.1 r_52.2.2.1 r_52.2.2.2 vT_he_ng vT_he_sl_n vT_he_ro_n fT_he_ro_c) := hD
          have hm := Option.some.inj hm
          subst hm
          exact q_iret (v := r_52.1) hx hb hr hlocks hP hS dX7_rose_55
      · have hm := it_s c_26 hm
        refine lv_aload_n hx hb dX7_rose_29 rfl (lv_at hl 0 rfl) ?_
        refine lv_bipush (v := (-2)) hx hb dX7_rose_30 (by decide) ?_
        obtain ⟨r_32, hc_32, hm⟩ := ob_s hm
        refine q_ci (q_rv (rest := []) ⟨hx, hb, hml, hown, hts⟩ hK hN hP hD (c_X7_refused l D cI cZ H.size AT AT_he AT_iz AT_io AT_tx AT_rd AT_fo AT_fi vT_ab vT_be vT_bo vT_no vT_fu (-2) r_32 hc_32) mb_X7_refused mv_X7_refused wl_X7_81 [0] rfl rfl rfl (Nat.le_of_ble_eq_true rfl) (Nat.le_of_ble_eq_true rfl) rfl hl.1 rfl (Nat.le_of_ble_eq_true rfl) ⟨Nat.le_refl 0, Nat.le_refl 0⟩ dX7_rose_32) hP hD hS hA [0] rfl rfl (fun H locs hP hD hS => ?_)
        have hP : va_P D vwCl (wd_X7_rose cI cZ AT AT_he AT_iz AT_io AT_tx AT_rd AT_fo AT_fi AT_he_sl AT_he_fl AT_he_ro AT_he_nt AT_he_mk AT_he_mo AT_he_sl_c AT_he_ro_c vT_ab vT_be r_32.2.1 r_32.2.2.1 r_32.2.2.2 vT_he_ng vT_he_sl_n vT_he_ro_n fT_he_ro_c) H := hP
        have hD : va_D A (wd_X7_rose cI cZ AT AT_he AT_iz AT_io AT_tx AT_rd AT_fo AT_fi AT_he_sl AT_he_fl AT_he_ro AT_he_nt AT_he_mk AT_he_mo AT_he_sl_c AT_he_ro_c vT_ab vT_be r_32.2.1 r_32.2.2.1 r_32.2.2.2 vT_he_ng vT_he_sl_n vT_he_ro_n fT_he_ro_c) := hD
        have hm := Option.some.inj hm
        subst hm
        exact q_iret (v := r_32.1) hx hb hr hlocks hP hS dX7_rose_35
theorem gf_X7_56 {p : Program} {l : Launch} {e : Env} {R : Room} {s : State} {m : MethodId} {args : Array Value} {below : List Frame} {meth : Method} {c : Code} {H : Heap} {locs : List Loc} {cells slots : Nat} {Q : State → Prop} {pc : Nat} {ls : Array Slot} {cc : ByteArray} {D : va_G} {cI cZ : ClassId} {ws : va_W} {a : Nat} {rest fs : List Value} (hx : p.tables.exec = Jvm.exec) (hb : c.code = cc) (hts : ∀ w ∈ bg, w.before args s = true) (hown : s.vm.findClass RX7 = some m.cls) (hK : va_K D vwCl (q_tys cI cZ) s) (hN : q_N s) (hP : va_P D vwCl ws H) (q0 : Nat) (he : ws[q0]? = some (a, .inr (7, fs))) {v : Value} (hv : fs[6]? = some v) (hdg : decode cc pc = .ok (.getfield 56, 3)) (kk : W p l e R s m args below meth c H locs cells slots Q (F0 m (pc + 3) ls (v :: rest))) : W p l e R s m args below meth c H locs cells slots Q (F0 m pc ls (.ref a :: rest)) :=
  va_get (C := RX7) (T := TX7) (N := 12) hx hb hts wu_X7 hown hK hP q0 he rfl 6 (by decide) (hts _ wf_X7_56) (fun _ h9 => h9) hv hdg kk
theorem mb_X7_sent : q_mb yX7_sent cX7_sent 3 (some .int) 2 := ⟨wc_X7_sent, wn_X7, by decide, by decide, by decide +kernel⟩
theorem mv_X7_sent : q_mv yX7_sent 7 := ⟨wi_X7_sent, ws_X7_sent, _, rfl, rfl⟩
def wd_X7_sent (cI cZ : ClassId) (AT AT_he AT_iz AT_io AT_tx AT_rd AT_fo AT_fi AT_he_sl AT_he_fl AT_he_ro AT_he_nt AT_he_mk AT_he_mo AT_he_sl_c AT_fi_ft AT_fi_bv AT_fi_ta AT_he_fl_c AT_he_ro_c : Nat) (vT_ab : Int32) (vT_be : Int32) (vT_bo : Int32) (vT_no : Int32) (vT_fu : Int32) (vT_he_ng : Int32) (vT_he_sl_n : Int32) (vT_he_fl_n : Int32) (fT_fi_ft : Nat → Int32) (vT_he_ro_n : Int32) (fT_he_ro_c : Nat → Int32) (fT_he_sl_c : Nat → Int32) (fT_he_fl_c : Nat → Int32) (fT_fi_bv : Nat → Int32) : va_W := [(AT, .inr (7, [.ref AT_he, .ref AT_iz, .ref AT_io, .ref AT_tx, .ref AT_rd, .ref AT_fo, .ref AT_fi, .int vT_ab, .int vT_be, .int vT_bo, .int vT_no, .int vT_fu])), (AT_he, .inr (4, [.ref AT_he_sl, .ref AT_he_fl, .ref AT_he_ro, .ref AT_he_nt, .ref AT_he_mk, .ref AT_he_mo, .int vT_he_ng])), (AT_he_sl, .inr (3, [.int 4, .ref AT_he_sl_c, .int vT_he_sl_n])), (AT_fi, .inr (0, [.ref AT_he, .ref AT_fi_ft, .ref AT_fi_bv, .ref AT_fi_ta])), (AT_he_fl, .inr (3, [.int 3, .ref AT_he_fl_c, .int vT_he_fl_n])), (AT_fi_ft, .inl (cI, 64, .inl fT_fi_ft)), (AT_he_ro, .inr (3, [.int 3, .ref AT_he_ro_c, .int vT_he_ro_n])), (AT_he_ro_c, .inl (cI, 15, .inl fT_he_ro_c)), (AT_he_sl_c, .inl (cI, 24, .inl fT_he_sl_c)), (AT_he_fl_c, .inl (cI, 18, .inl fT_he_fl_c)), (AT_fi_bv, .inl (cI, 6, .inl fT_fi_bv))]
def fm_X7_sent (p1 : Int32) (p2 : Int32) (vT_bo : Int32) (vT_no : Int32) (vT_fu : Int32) (vT_he_sl_n : Int32) (vT_he_fl_n : Int32) (fT_fi_ft : Nat → Int32) (vT_he_ro_n : Int32) (fT_he_ro_c : Nat → Int32) (fT_he_sl_c : Nat → Int32) (fT_he_fl_c : Nat → Int32) (fT_fi_bv : Nat → Int32) : Option (Int32 × Int32 × Int32 × Int32 × (Nat → Int32) × (Nat → Int32)) := Option.bind (fm_X7_isSleeper p1 vT_he_sl_n) (fun r_2 => if r_2 = 0 then (Option.bind (fm_X7_refused (-2) vT_bo vT_no vT_fu) (fun r_20 => some (r_20.1, r_20.2.1, r_20.2.2.1, r_20.2.2.2, fT_fi_ft, fT_fi_bv))) else (Option.bind (fm_X7_within p2 0 2) (fun r_11 => if r_11 = 0 then (Option.bind (fm_X7_refused (-2) vT_bo vT_no vT_fu) (fun r_20 => some (r_20.1, r_20.2.1, r_20.2.2.1, r_20.2.2.2, fT_fi_ft, fT_fi_bv))) else (Option.bind (fm_X0_findSets p1 vT_he_fl_n fT_fi_ft vT_he_ro_n fT_he_ro_c vT_he_sl_n fT_he_sl_c fT_he_fl_c fT_fi_bv) (fun r_29 => if p2 = 0 then (Option.bind (fm_X0_howManySets r_29.1) (fun r_40 => some (r_40, vT_bo, vT_no, vT_fu, r_29.1, r_29.2))) else (if p2 = 1 then (Option.bind (fm_X0_inAllSets r_29.1) (fun r_53 => some (r_53, vT_bo, vT_no, vT_fu, r_29.1, r_29.2))) else (Option.bind (fm_X0_inSomeSet r_29.1) (fun r_63 => some (r_63, vT_bo, vT_no, vT_fu, r_29.1, r_29.2)))))))))
set_option maxHeartbeats 4000000 in
set_option maxRecDepth 100000 in
theorem c_X7_sent (l : Launch) (D : va_G) (cI cZ : ClassId) (sz : Nat) (AT AT_he AT_iz AT_io AT_tx AT_rd AT_fo AT_fi AT_he_sl AT_he_fl AT_he_ro AT_he_nt AT_he_mk AT_he_mo AT_he_sl_c AT_fi_ft AT_fi_bv AT_fi_ta AT_he_fl_c AT_he_ro_c : Nat) (vT_ab : Int32) (vT_be : Int32) (vT_bo : Int32) (vT_no : Int32) (vT_fu : Int32) (vT_he_ng : Int32) (vT_he_sl_n : Int32) (vT_he_fl_n : Int32) (fT_fi_ft : Nat → Int32) (vT_he_ro_n : Int32) (fT_he_ro_c : Nat → Int32) (fT_he_sl_c : Nat → Int32) (fT_he_fl_c : Nat → Int32) (fT_fi_bv : Nat → Int32) (p1 : Int32) (p2 : Int32) (out : (Int32 × Int32 × Int32 × Int32 × (Nat → Int32) × (Nat → Int32))) (hm : fm_X7_sent p1 p2 vT_bo vT_no vT_fu vT_he_sl_n vT_he_fl_n fT_fi_ft vT_he_ro_n fT_he_ro_c fT_he_sl_c fT_he_fl_c fT_fi_bv = some out) : Met l yX7_sent (Cond.code yX7_sent cX7_sent 3 (some .int) :: bg) { frames := 6, cells := 0, slots := 0, locals := 139 } (va_Pc [.ref AT, .int p1, .int p2] (q_pre D cI cZ sz (wd_X7_sent cI cZ AT AT_he AT_iz AT_io AT_tx AT_rd AT_fo AT_fi AT_he_sl AT_he_fl AT_he_ro AT_he_nt AT_he_mk AT_he_mo AT_he_sl_c AT_fi_ft AT_fi_bv AT_fi_ta AT_he_fl_c AT_he_ro_c vT_ab vT_be vT_bo vT_no vT_fu vT_he_ng vT_he_sl_n vT_he_fl_n fT_fi_ft vT_he_ro_n fT_he_ro_c fT_he_sl_c fT_he_fl_c fT_fi_bv))) (q_Qi D (wd_X7_sent cI cZ AT AT_he AT_iz AT_io AT_tx AT_rd AT_fo AT_fi AT_he_sl AT_he_fl AT_he_ro AT_he_nt AT_he_mk AT_he_mo AT_he_sl_c AT_fi_ft AT_fi_bv AT_fi_ta AT_he_fl_c AT_he_ro_c vT_ab vT_be out.2.1 out.2.2.1 out.2.2.2.1 vT_he_ng vT_he_sl_n vT_he_fl_n out.2.2.2.2.1 vT_he_ro_n fT_he_ro_c fT_he_sl_c fT_he_fl_c out.2.2.2.2.2) out.1 (va_A (wd_X7_sent cI cZ AT AT_he AT_iz AT_io AT_tx AT_rd AT_fo AT_fi AT_he_sl AT_he_fl AT_he_ro AT_he_nt AT_he_mk AT_he_mo AT_he_sl_c AT_fi_ft AT_fi_bv AT_fi_ta AT_he_fl_c AT_he_ro_c vT_ab vT_be vT_bo vT_no vT_fu vT_he_ng vT_he_sl_n vT_he_fl_n fT_fi_ft vT_he_ro_n fT_he_ro_c fT_he_sl_c fT_he_fl_c fT_fi_bv) sz)) 0 0 (va_A (wd_X7_sent cI cZ AT AT_he AT_iz AT_io AT_tx AT_rd AT_fo AT_fi AT_he_sl AT_he_fl AT_he_ro AT_he_nt AT_he_mk AT_he_mo AT_he_sl_c AT_fi_ft AT_fi_bv AT_fi_ta AT_he_fl_c AT_he_ro_c vT_ab vT_be vT_bo vT_no vT_fu vT_he_ng vT_he_sl_n vT_he_fl_n fT_fi_ft vT_he_ro_n fT_he_ro_c fT_he_sl_c fT_he_fl_c fT_fi_bv) sz) := by
  refine q_met (fun A => q_Qi D (wd_X7_sent cI cZ AT AT_he AT_iz AT_io AT_tx AT_rd AT_fo AT_fi AT_he_sl AT_he_fl AT_he_ro AT_he_nt AT_he_mk AT_he_mo AT_he_sl_c AT_fi_ft AT_fi_bv AT_fi_ta AT_he_fl_c AT_he_ro_c vT_ab vT_be out.2.1 out.2.2.1 out.2.2.2.1 vT_he_ng vT_he_sl_n vT_he_fl_n out.2.2.2.2.1 vT_he_ro_n fT_he_ro_c fT_he_sl_c fT_he_fl_c out.2.2.2.2.2) out.1 A) (by decide) (Nat.le_of_ble_eq_true rfl) ?_
  intro p e s m below meth c ls A hx hb hr hml hown hts hlocks _ hA hS hP hD hK hN hl
  have hown : s.vm.findClass RX7 = some m.cls := hown
  have hl : lv_has ls 3 [(0, .ref AT), (1, .int p1), (2, .int p2)] := hl
  unfold fm_X7_sent at hm
  refine q_gen hS hP ?_
  intro H locs hP hS
  refine lv_aload_n hx hb dX7_sent_0 rfl (lv_at hl 0 rfl) ?_
  refine lv_iload_n hx hb dX7_sent_1 rfl (lv_at hl 1 rfl) ?_
  obtain ⟨r_2, hc_2, hm⟩ := ob_s hm
  refine q_ci (q_rv (rest := []) ⟨hx, hb, hml, hown, hts⟩ hK hN hP hD (c_X7_isSleeper l D cI cZ H.size AT AT_he AT_iz AT_io AT_tx AT_rd AT_fo AT_fi AT_he_sl AT_he_fl AT_he_ro AT_he_nt AT_he_mk AT_he_mo AT_he_sl_c vT_ab vT_be vT_bo vT_no vT_fu vT_he_ng vT_he_sl_n p1 r_2 hc_2) mb_X7_isSleeper mv_X7_isSleeper wl_X7_135 [0, 1, 2] rfl rfl rfl (Nat.le_of_ble_eq_true rfl) (Nat.le_of_ble_eq_true rfl) rfl hl.1 rfl (Nat.le_of_ble_eq_true rfl) ⟨Nat.le_refl 0, Nat.le_refl 0⟩ dX7_sent_2) hP hD hS hA [0, 1, 2] rfl rfl (fun H locs hP hD hS => ?_)
  have hP : va_P D vwCl (wd_X7_sent cI cZ AT AT_he AT_iz AT_io AT_tx AT_rd AT_fo AT_fi AT_he_sl AT_he_fl AT_he_ro AT_he_nt AT_he_mk AT_he_mo AT_he_sl_c AT_fi_ft AT_fi_bv AT_fi_ta AT_he_fl_c AT_he_ro_c vT_ab vT_be vT_bo vT_no vT_fu vT_he_ng vT_he_sl_n vT_he_fl_n fT_fi_ft vT_he_ro_n fT_he_ro_c fT_he_sl_c fT_he_fl_c fT_fi_bv) H := hP
  have hD : va_D A (wd_X7_sent cI cZ AT AT_he AT_iz AT_io AT_tx AT_rd AT_fo AT_fi AT_he_sl AT_he_fl AT_he_ro AT_he_nt AT_he_mk AT_he_mo AT_he_sl_c AT_fi_ft AT_fi_bv AT_fi_ta AT_he_fl_c AT_he_ro_c vT_ab vT_be vT_bo vT_no vT_fu vT_he_ng vT_he_sl_n vT_he_fl_n fT_fi_ft vT_he_ro_n fT_he_ro_c fT_he_sl_c fT_he_fl_c fT_fi_bv) := hD
  refine lv_if_eq (tgt := 17) hx hb dX7_sent_5 (by decide) (fun c_5 => ?_) (fun c_5 => ?_)
  · have hm := it_s c_5 hm
    refine lv_aload_n hx hb dX7_sent_17 rfl (lv_at hl 0 rfl) ?_
    refine lv_bipush (v := (-2)) hx hb dX7_sent_18 (by decide) ?_
    obtain ⟨r_20, hc_20, hm⟩ := ob_s hm
    refine q_ci (q_rv (rest := []) ⟨hx, hb, hml, hown, hts⟩ hK hN hP hD (c_X7_refused l D cI cZ H.size AT AT_he AT_iz AT_io AT_tx AT_rd AT_fo AT_fi vT_ab vT_be vT_bo vT_no vT_fu (-2) r_20 hc_20) mb_X7_refused mv_X7_refused wl_X7_81 [0] rfl rfl rfl (Nat.le_of_ble_eq_true rfl) (Nat.le_of_ble_eq_true rfl) rfl hl.1 rfl (Nat.le_of_ble_eq_true rfl) ⟨Nat.le_refl 0, Nat.le_refl 0⟩ dX7_sent_20) hP hD hS hA [0] rfl rfl (fun H locs hP hD hS => ?_)
    have hP : va_P D vwCl (wd_X7_sent cI cZ AT AT_he AT_iz AT_io AT_tx AT_rd AT_fo AT_fi AT_he_sl AT_he_fl AT_he_ro AT_he_nt AT_he_mk AT_he_mo AT_he_sl_c AT_fi_ft AT_fi_bv AT_fi_ta AT_he_fl_c AT_he_ro_c vT_ab vT_be r_20.2.1 r_20.2.2.1 r_20.2.2.2 vT_he_ng vT_he_sl_n vT_he_fl_n fT_fi_ft vT_he_ro_n fT_he_ro_c fT_he_sl_c fT_he_fl_c fT_fi_bv) H := hP
    have hD : va_D A (wd_X7_sent cI cZ AT AT_he AT_iz AT_io AT_tx AT_rd AT_fo AT_fi AT_he_sl AT_he_fl AT_he_ro AT_he_nt AT_he_mk AT_he_mo AT_he_sl_c AT_fi_ft AT_fi_bv AT_fi_ta AT_he_fl_c AT_he_ro_c vT_ab vT_be r_20.2.1 r_20.2.2.1 r_20.2.2.2 vT_he_ng vT_he_sl_n vT_he_fl_n fT_fi_ft vT_he_ro_n fT_he_ro_c fT_he_sl_c fT_he_fl_c fT_fi_bv) := hD
    have hm := Option.some.inj hm
    subst hm
    exact q_iret (v := r_20.1) hx hb hr hlocks hP hS dX7_sent_23
  · have hm := it_n c_5 hm
    refine lv_iload_n hx hb dX7_sent_8 rfl (lv_at hl 2 rfl) ?_
    refine lv_iconst (v := 0) hx hb dX7_sent_9 (by decide) ?_
    refine lv_iconst (v := 2) hx hb dX7_sent_10 (by decide) ?_
    obtain ⟨r_11, hc_11, hm⟩ := ob_s hm
    refine q_ci (q_rs (rest := []) ⟨hx, hb, hml, hown, hts⟩ hK hN hP hD (c_X7_within l D cI cZ H.size p2 0 2 r_11 hc_11) mb_X7_within wt_X7_within wl_X7_77 [] rfl rfl (Nat.le_of_ble_eq_true rfl) (Nat.le_of_ble_eq_true rfl) rfl hl.1 rfl (Nat.le_of_ble_eq_true rfl) ⟨Nat.le_refl 0, Nat.le_refl 0⟩ dX7_sent_11) hP hD hS hA [] rfl rfl (fun H locs hP hD hS => ?_)
    have hP : va_P D vwCl (wd_X7_sent cI cZ AT AT_he AT_iz AT_io AT_tx AT_rd AT_fo AT_fi AT_he_sl AT_he_fl AT_he_ro AT_he_nt AT_he_mk AT_he_mo AT_he_sl_c AT_fi_ft AT_fi_bv AT_fi_ta AT_he_fl_c AT_he_ro_c vT_ab vT_be vT_bo vT_no vT_fu vT_he_ng vT_he_sl_n vT_he_fl_n fT_fi_ft vT_he_ro_n fT_he_ro_c fT_he_sl_c fT_he_fl_c fT_fi_bv) H := hP
    have hD : va_D A (wd_X7_sent cI cZ AT AT_he AT_iz AT_io AT_tx AT_rd AT_fo AT_fi AT_he_sl AT_he_fl AT_he_ro AT_he_nt AT_he_mk AT_he_mo AT_he_sl_c AT_fi_ft AT_fi_bv AT_fi_ta AT_he_fl_c AT_he_ro_c vT_ab vT_be vT_bo vT_no vT_fu vT_he_ng vT_he_sl_n vT_he_fl_n fT_fi_ft vT_he_ro_n fT_he_ro_c fT_he_sl_c fT_he_fl_c fT_fi_bv) := hD
    refine lv_if_ne (tgt := 24) hx hb dX7_sent_14 (by decide) (fun c_14 => ?_) (fun c_14 => ?_)
    · have hm := it_n c_14 hm
      refine lv_aload_n hx hb dX7_sent_24 rfl (lv_at hl 0 rfl) ?_
      refine gf_X7_56 (v := .ref AT_fi) hx hb hts hown hK hN hP 0 rfl rfl dX7_sent_25 ?_
      refine lv_iload_n hx hb dX7_sent_28 rfl (lv_at hl 1 rfl) ?_
      obtain ⟨r_29, hc_29, hm⟩ := ob_s hm
      refine q_cv (q_rv (rest := []) ⟨hx, hb, hml, hown, hts⟩ hK hN hP hD (c_X0_findSets l D cI cZ H.size AT_fi AT_he AT_fi_ft AT_fi_bv AT_fi_ta AT_he_sl AT_he_fl AT_he_ro AT_he_nt AT_he_mk AT_he_mo AT_he_fl_c AT_he_ro_c AT_he_sl_c vT_he_ng vT_he_fl_n fT_fi_ft vT_he_ro_n fT_he_ro_c vT_he_sl_n fT_he_sl_c fT_he_fl_c fT_fi_bv p1 r_29 hc_29) mb_X0_findSets mv_X0_findSets wl_X7_186 [3, 1, 4, 5, 6, 7, 2, 8, 9, 10] rfl rfl rfl (Nat.le_of_ble_eq_true rfl) (Nat.le_of_ble_eq_true rfl) rfl hl.1 rfl (Nat.le_of_ble_eq_true rfl) ⟨Nat.le_refl 0, Nat.le_refl 0⟩ dX7_sent_29) hP hD hS hA [3, 1, 4, 5, 6, 7, 2, 8, 9, 10] rfl rfl (fun H locs hP hD hS => ?_)
      have hP : va_P D vwCl (wd_X7_sent cI cZ AT AT_he AT_iz AT_io AT_tx AT_rd AT_fo AT_fi AT_he_sl AT_he_fl AT_he_ro AT_he_nt AT_he_mk AT_he_mo AT_he_sl_c AT_fi_ft AT_fi_bv AT_fi_ta AT_he_fl_c AT_he_ro_c vT_ab vT_be vT_bo vT_no vT_fu vT_he_ng vT_he_sl_n vT_he_fl_n r_29.1 vT_he_ro_n fT_he_ro_c fT_he_sl_c fT_he_fl_c r_29.2) H := hP
      have hD : va_D A (wd_X7_sent cI cZ AT AT_he AT_iz AT_io AT_tx AT_rd AT_fo AT_fi AT_he_sl AT_he_fl AT_he_ro AT_he_nt AT_he_mk AT_he_mo AT_he_sl_c AT_fi_ft AT_fi_bv AT_fi_ta AT_he_fl_c AT_he_ro_c vT_ab vT_be vT_bo vT_no vT_fu vT_he_ng vT_he_sl_n vT_he_fl_n r_29.1 vT_he_ro_n fT_he_ro_c fT_he_sl_c fT_he_fl_c r_29.2) := hD
      refine lv_iload_n hx hb dX7_sent_32 rfl (lv_at hl 2 rfl) ?_
      refine lv_if_ne (tgt := 44) hx hb dX7_sent_33 (by decide) (fun c_33 => ?_) (fun c_33 => ?_)
      · have hm := it_n c_33 hm
        refine lv_iload_n hx hb dX7_sent_44 rfl (lv_at hl 2 rfl) ?_
        refine lv_iconst (v := 1) hx hb dX7_sent_45 (by decide) ?_
        refine lv_icmp_ne (tgt := 59) hx hb dX7_sent_46 (by decide) (fun c_46 => ?_) (fun c_46 => ?_)
        · have hm := it_n c_46 hm
          refine lv_aload_n hx hb dX7_sent_59 rfl (lv_at hl 0 rfl) ?_
          refine gf_X7_56 (v := .ref AT_fi) hx hb hts hown hK hN hP 0 rfl rfl dX7_sent_60 ?_
          obtain ⟨r_63, hc_63, hm⟩ := ob_s hm
          refine q_ci (q_rv (rest := []) ⟨hx, hb, hml, hown, hts⟩ hK hN hP hD (c_X0_inSomeSet l D cI cZ H.size AT_fi AT_he AT_fi_ft AT_fi_bv AT_fi_ta r_29.1 r_63 hc_63) mb_X0_inSomeSet mv_X0_inSomeSet wl_X7_195 [3, 5] rfl rfl rfl (Nat.le_of_ble_eq_true rfl) (Nat.le_of_ble_eq_true rfl) rfl hl.1 rfl (Nat.le_of_ble_eq_true rfl) ⟨Nat.le_refl 0, Nat.le_refl 0⟩ dX7_sent_63) hP hD hS hA [3, 5] rfl rfl (fun H locs hP hD hS => ?_)
          have hP : va_P D vwCl (wd_X7_sent cI cZ AT AT_he AT_iz AT_io AT_tx AT_rd AT_fo AT_fi AT_he_sl AT_he_fl AT_he_ro AT_he_nt AT_he_mk AT_he_mo AT_he_sl_c AT_fi_ft AT_fi_bv AT_fi_ta AT_he_fl_c AT_he_ro_c vT_ab vT_be vT_bo vT_no vT_fu vT_he_ng vT_he_sl_n vT_he_fl_n r_29.1 vT_he_ro_n fT_he_ro_c fT_he_sl_c fT_he_fl_c r_29.2) H := hP
          have hD : va_D A (wd_X7_sent cI cZ AT AT_he AT_iz AT_io AT_tx AT_rd AT_fo AT_fi AT_he_sl AT_he_fl AT_he_ro AT_he_nt AT_he_mk AT_he_mo AT_he_sl_c AT_fi_ft AT_fi_bv AT_fi_ta AT_he_fl_c AT_he_ro_c vT_ab vT_be vT_bo vT_no vT_fu vT_he_ng vT_he_sl_n vT_he_fl_n r_29.1 vT_he_ro_n fT_he_ro_c fT_he_sl_c fT_he_fl_c r_29.2) := hD
          have hm := Option.some.inj hm
          subst hm
          exact q_iret (v := r_63) hx hb hr hlocks hP hS dX7_sent_66
        · have hm := it_s c_46 hm
          refine lv_aload_n hx hb dX7_sent_49 rfl (lv_at hl 0 rfl) ?_
          refine gf_X7_56 (v := .ref AT_fi) hx hb hts hown hK hN hP 0 rfl rfl dX7_sent_50 ?_
          obtain ⟨r_53, hc_53, hm⟩ := ob_s hm
          refine q_ci (q_rv (rest := []) ⟨hx, hb, hml, hown, hts⟩ hK hN hP hD (c_X0_inAllSets l D cI cZ H.size AT_fi AT_he AT_fi_ft AT_fi_bv AT_fi_ta r_29.1 r_53 hc_53) mb_X0_inAllSets mv_X0_inAllSets wl_X7_192 [3, 5] rfl rfl rfl (Nat.le_of_ble_eq_true rfl) (Nat.le_of_ble_eq_true rfl) rfl hl.1 rfl (Nat.le_of_ble_eq_true rfl) ⟨Nat.le_refl 0, Nat.le_refl 0⟩ dX7_sent_53) hP hD hS hA [3, 5] rfl rfl (fun H locs hP hD hS => ?_)
          have hP : va_P D vwCl (wd_X7_sent cI cZ AT AT_he AT_iz AT_io AT_tx AT_rd AT_fo AT_fi AT_he_sl AT_he_fl AT_he_ro AT_he_nt AT_he_mk AT_he_mo AT_he_sl_c AT_fi_ft AT_fi_bv AT_fi_ta AT_he_fl_c AT_he_ro_c vT_ab vT_be vT_bo vT_no vT_fu vT_he_ng vT_he_sl_n vT_he_fl_n r_29.1 vT_he_ro_n fT_he_ro_c fT_he_sl_c fT_he_fl_c r_29.2) H := hP
          have hD : va_D A (wd_X7_sent cI cZ AT AT_he AT_iz AT_io AT_tx AT_rd AT_fo AT_fi AT_he_sl AT_he_fl AT_he_ro AT_he_nt AT_he_mk AT_he_mo AT_he_sl_c AT_fi_ft AT_fi_bv AT_fi_ta AT_he_fl_c AT_he_ro_c vT_ab vT_be vT_bo vT_no vT_fu vT_he_ng vT_he_sl_n vT_he_fl_n r_29.1 vT_he_ro_n fT_he_ro_c fT_he_sl_c fT_he_fl_c r_29.2) := hD
          refine lv_goto (tgt := 66) hx hb dX7_sent_56 (by decide) ?_
          have hm := Option.some.inj hm
          subst hm
          exact q_iret (v := r_53) hx hb hr hlocks hP hS dX7_sent_66
      · have hm := it_s c_33 hm
        refine lv_aload_n hx hb dX7_sent_36 rfl (lv_at hl 0 rfl) ?_
        refine gf_X7_56 (v := .ref AT_fi) hx hb hts hown hK hN hP 0 rfl rfl dX7_sent_37 ?_
        obtain ⟨r_40, hc_40, hm⟩ := ob_s hm
        refine q_ci (q_rv (rest := []) ⟨hx, hb, hml, hown, hts⟩ hK hN hP hD (c_X0_howManySets l D cI cZ H.size AT_fi AT_he AT_fi_ft AT_fi_bv AT_fi_ta r_29.1 r_40 hc_40) mb_X0_howManySets mv_X0_howManySets wl_X7_189 [3, 5] rfl rfl rfl (Nat.le_of_ble_eq_true rfl) (Nat.le_of_ble_eq_true rfl) rfl hl.1 rfl (Nat.le_of_ble_eq_true rfl) ⟨Nat.le_refl 0, Nat.le_refl 0⟩ dX7_sent_40) hP hD hS hA [3, 5] rfl rfl (fun H locs hP hD hS => ?_)
        have hP : va_P D vwCl (wd_X7_sent cI cZ AT AT_he AT_iz AT_io AT_tx AT_rd AT_fo AT_fi AT_he_sl AT_he_fl AT_he_ro AT_he_nt AT_he_mk AT_he_mo AT_he_sl_c AT_fi_ft AT_fi_bv AT_fi_ta AT_he_fl_c AT_he_ro_c vT_ab vT_be vT_bo vT_no vT_fu vT_he_ng vT_he_sl_n vT_he_fl_n r_29.1 vT_he_ro_n fT_he_ro_c fT_he_sl_c fT_he_fl_c r_29.2) H := hP
        have hD : va_D A (wd_X7_sent cI cZ AT AT_he AT_iz AT_io AT_tx AT_rd AT_fo AT_fi AT_he_sl AT_he_fl AT_he_ro AT_he_nt AT_he_mk AT_he_mo AT_he_sl_c AT_fi_ft AT_fi_bv AT_fi_ta AT_he_fl_c AT_he_ro_c vT_ab vT_be vT_bo vT_no vT_fu vT_he_ng vT_he_sl_n vT_he_fl_n r_29.1 vT_he_ro_n fT_he_ro_c fT_he_sl_c fT_he_fl_c r_29.2) := hD
        have hm := Option.some.inj hm
        subst hm
        exact q_iret (v := r_40) hx hb hr hlocks hP hS dX7_sent_43
    · have hm := it_s c_14 hm
      refine lv_aload_n hx hb dX7_sent_17 rfl (lv_at hl 0 rfl) ?_
      refine lv_bipush (v := (-2)) hx hb dX7_sent_18 (by decide) ?_
      obtain ⟨r_20, hc_20, hm⟩ := ob_s hm
      refine q_ci (q_rv (rest := []) ⟨hx, hb, hml, hown, hts⟩ hK hN hP hD (c_X7_refused l D cI cZ H.size AT AT_he AT_iz AT_io AT_tx AT_rd AT_fo AT_fi vT_ab vT_be vT_bo vT_no vT_fu (-2) r_20 hc_20) mb_X7_refused mv_X7_refused wl_X7_81 [0] rfl rfl rfl (Nat.le_of_ble_eq_true rfl) (Nat.le_of_ble_eq_true rfl) rfl hl.1 rfl (Nat.le_of_ble_eq_true rfl) ⟨Nat.le_refl 0, Nat.le_refl 0⟩ dX7_sent_20) hP hD hS hA [0] rfl rfl (fun H locs hP hD hS => ?_)
      have hP : va_P D vwCl (wd_X7_sent cI cZ AT AT_he AT_iz AT_io AT_tx AT_rd AT_fo AT_fi AT_he_sl AT_he_fl AT_he_ro AT_he_nt AT_he_mk AT_he_mo AT_he_sl_c AT_fi_ft AT_fi_bv AT_fi_ta AT_he_fl_c AT_he_ro_c vT_ab vT_be r_20.2.1 r_20.2.2.1 r_20.2.2.2 vT_he_ng vT_he_sl_n vT_he_fl_n fT_fi_ft vT_he_ro_n fT_he_ro_c fT_he_sl_c fT_he_fl_c fT_fi_bv) H := hP
      have hD : va_D A (wd_X7_sent cI cZ AT AT_he AT_iz AT_io AT_tx AT_rd AT_fo AT_fi AT_he_sl AT_he_fl AT_he_ro AT_he_nt AT_he_mk AT_he_mo AT_he_sl_c AT_fi_ft AT_fi_bv AT_fi_ta AT_he_fl_c AT_he_ro_c vT_ab vT_be r_20.2.1 r_20.2.2.1 r_20.2.2.2 vT_he_ng vT_he_sl_n vT_he_fl_n fT_fi_ft vT_he_ro_n fT_he_ro_c fT_he_sl_c fT_he_fl_c fT_fi_bv) := hD
      have hm := Option.some.inj hm
      subst hm
      exact q_iret (v := r_20.1) hx hb hr hlocks hP hS dX7_sent_23
theorem mb_X7_tell : q_mb yX7_tell cX7_tell 2 (some .int) 1 := ⟨wc_X7_tell, wn_X7, by decide, by decide, by decide +kernel⟩
theorem mv_X7_tell : q_mv yX7_tell 7 := ⟨wi_X7_tell, ws_X7_tell, _, rfl, rfl⟩
def wd_X7_tell (cI cZ : ClassId) (AT AT_he AT_iz AT_io AT_tx AT_rd AT_fo AT_fi AT_he_sl AT_he_fl AT_he_ro AT_he_nt AT_he_mk AT_he_mo AT_he_sl_c AT_fi_ft AT_fi_bv AT_fi_ta AT_he_fl_c AT_he_ro_c AT_fi_ta_sn : Nat) (vT_ab : Int32) (vT_be : Int32) (vT_bo : Int32) (vT_no : Int32) (vT_fu : Int32) (vT_he_ng : Int32) (vT_he_sl_n : Int32) (vT_he_fl_n : Int32) (fT_fi_ft : Nat → Int32) (vT_he_ro_n : Int32) (fT_he_ro_c : Nat → Int32) (fT_he_sl_c : Nat → Int32) (fT_he_fl_c : Nat → Int32) (fT_fi_bv : Nat → Int32) (vT_fi_ta_hi : Int32) (vT_fi_ta_ms : Int32) (vT_fi_ta_bl : Int32) (vT_fi_ta_fw : Int32) (fT_fi_ta_sn : Nat → Int32) : va_W := [(AT, .inr (7, [.ref AT_he, .ref AT_iz, .ref AT_io, .ref AT_tx, .ref AT_rd, .ref AT_fo, .ref AT_fi, .int vT_ab, .int vT_be, .int vT_bo, .int vT_no, .int vT_fu])), (AT_he, .inr (4, [.ref AT_he_sl, .ref AT_he_fl, .ref AT_he_ro, .ref AT_he_nt, .ref AT_he_mk, .ref AT_he_mo, .int vT_he_ng])), (AT_he_sl, .inr (3, [.int 4, .ref AT_he_sl_c, .int vT_he_sl_n])), (AT_fi, .inr (0, [.ref AT_he, .ref AT_fi_ft, .ref AT_fi_bv, .ref AT_fi_ta])), (AT_he_fl, .inr (3, [.int 3, .ref AT_he_fl_c, .int vT_he_fl_n])), (AT_fi_ft, .inl (cI, 64, .inl fT_fi_ft)), (AT_he_ro, .inr (3, [.int 3, .ref AT_he_ro_c, .int vT_he_ro_n])), (AT_he_ro_c, .inl (cI, 15, .inl fT_he_ro_c)), (AT_he_sl_c, .inl (cI, 24, .inl fT_he_sl_c)), (AT_he_fl_c, .inl (cI, 18, .inl fT_he_fl_c)), (AT_fi_bv, .inl (cI, 6, .inl fT_fi_bv)), (AT_fi_ta, .inr (6, [.ref AT_fi_ta_sn, .int vT_fi_ta_hi, .int vT_fi_ta_ms, .int vT_fi_ta_bl, .int vT_fi_ta_fw])), (AT_fi_ta_sn, .inl (cI, 256, .inl fT_fi_ta_sn))]
def fm_X7_tell (p1 : Int32) (vT_bo : Int32) (vT_no : Int32) (vT_fu : Int32) (vT_he_sl_n : Int32) (vT_he_fl_n : Int32) (fT_fi_ft : Nat → Int32) (vT_he_ro_n : Int32) (fT_he_ro_c : Nat → Int32) (fT_he_sl_c : Nat → Int32) (fT_he_fl_c : Nat → Int32) (fT_fi_bv : Nat → Int32) (vT_fi_ta_hi : Int32) (vT_fi_ta_ms : Int32) (vT_fi_ta_bl : Int32) (vT_fi_ta_fw : Int32) (fT_fi_ta_sn : Nat → Int32) : Option (Int32 × Int32 × Int32 × Int32 × (Nat → Int32) × (Nat → Int32) × Int32 × Int32 × Int32 × Int32 × (Nat → Int32)) := Option.bind (fm_X7_isSleeper p1 vT_he_sl_n) (fun r_2 => if r_2 = 0 then (Option.bind (fm_X7_refused (-2) vT_bo vT_no vT_fu) (fun r_11 => some (r_11.1, r_11.2.1, r_11.2.2.1, r_11.2.2.2, fT_fi_ft, fT_fi_bv, vT_fi_ta_hi, vT_fi_ta_ms, vT_fi_ta_bl, vT_fi_ta_fw, fT_fi_ta_sn))) else (Option.bind (fm_X0_findSets p1 vT_he_fl_n fT_fi_ft vT_he_ro_n fT_he_ro_c vT_he_sl_n fT_he_sl_c fT_he_fl_c fT_fi_bv) (fun r_20 => Option.bind (fm_X0_tellingNight p1 r_20.1 vT_fi_ta_hi vT_fi_ta_ms vT_fi_ta_bl vT_fi_ta_fw vT_he_fl_n vT_he_sl_n fT_he_sl_c fT_he_fl_c r_20.2 fT_fi_ta_sn) (fun r_28 => some (r_28.1, vT_bo, vT_no, vT_fu, r_20.1, r_28.2.2.2.2.2.1, r_28.2.1, r_28.2.2.1, r_28.2.2.2.1, r_28.2.2.2.2.1, r_28.2.2.2.2.2.2)))))
set_option maxHeartbeats 4000000 in
set_option maxRecDepth 100000 in
theorem c_X7_tell (l : Launch) (D : va_G) (cI cZ : ClassId) (sz : Nat) (AT AT_he AT_iz AT_io AT_tx AT_rd AT_fo AT_fi AT_he_sl AT_he_fl AT_he_ro AT_he_nt AT_he_mk AT_he_mo AT_he_sl_c AT_fi_ft AT_fi_bv AT_fi_ta AT_he_fl_c AT_he_ro_c AT_fi_ta_sn : Nat) (vT_ab : Int32) (vT_be : Int32) (vT_bo : Int32) (vT_no : Int32) (vT_fu : Int32) (vT_he_ng : Int32) (vT_he_sl_n : Int32) (vT_he_fl_n : Int32) (fT_fi_ft : Nat → Int32) (vT_he_ro_n : Int32) (fT_he_ro_c : Nat → Int32) (fT_he_sl_c : Nat → Int32) (fT_he_fl_c : Nat → Int32) (fT_fi_bv : Nat → Int32) (vT_fi_ta_hi : Int32) (vT_fi_ta_ms : Int32) (vT_fi_ta_bl : Int32) (vT_fi_ta_fw : Int32) (fT_fi_ta_sn : Nat → Int32) (p1 : Int32) (out : (Int32 × Int32 × Int32 × Int32 × (Nat → Int32) × (Nat → Int32) × Int32 × Int32 × Int32 × Int32 × (Nat → Int32))) (hm : fm_X7_tell p1 vT_bo vT_no vT_fu vT_he_sl_n vT_he_fl_n fT_fi_ft vT_he_ro_n fT_he_ro_c fT_he_sl_c fT_he_fl_c fT_fi_bv vT_fi_ta_hi vT_fi_ta_ms vT_fi_ta_bl vT_fi_ta_fw fT_fi_ta_sn = some out) : Met l yX7_tell (Cond.code yX7_tell cX7_tell 2 (some .int) :: bg) { frames := 6, cells := 0, slots := 0, locals := 139 } (va_Pc [.ref AT, .int p1] (q_pre D cI cZ sz (wd_X7_tell cI cZ AT AT_he AT_iz AT_io AT_tx AT_rd AT_fo AT_fi AT_he_sl AT_he_fl AT_he_ro AT_he_nt AT_he_mk AT_he_mo AT_he_sl_c AT_fi_ft AT_fi_bv AT_fi_ta AT_he_fl_c AT_he_ro_c AT_fi_ta_sn vT_ab vT_be vT_bo vT_no vT_fu vT_he_ng vT_he_sl_n vT_he_fl_n fT_fi_ft vT_he_ro_n fT_he_ro_c fT_he_sl_c fT_he_fl_c fT_fi_bv vT_fi_ta_hi vT_fi_ta_ms vT_fi_ta_bl vT_fi_ta_fw fT_fi_ta_sn))) (q_Qi D (wd_X7_tell cI cZ AT AT_he AT_iz AT_io AT_tx AT_rd AT_fo AT_fi AT_he_sl AT_he_fl AT_he_ro AT_he_nt AT_he_mk AT_he_mo AT_he_sl_c AT_fi_ft AT_fi_bv AT_fi_ta AT_he_fl_c AT_he_ro_c AT_fi_ta_sn vT_ab vT_be out.2.1 out.2.2.1 out.2.2.2.1 vT_he_ng vT_he_sl_n vT_he_fl_n out.2.2.2.2.1 vT_he_ro_n fT_he_ro_c fT_he_sl_c fT_he_fl_c out.2.2.2.2.2.1 out.2.2.2.2.2.2.1 out.2.2.2.2.2.2.2.1 out.2.2.2.2.2.2.2.2.1 out.2.2.2.2.2.2.2.2.2.1 out.2.2.2.2.2.2.2.2.2.2) out.1 (va_A (wd_X7_tell cI cZ AT AT_he AT_iz AT_io AT_tx AT_rd AT_fo AT_fi AT_he_sl AT_he_fl AT_he_ro AT_he_nt AT_he_mk AT_he_mo AT_he_sl_c AT_fi_ft AT_fi_bv AT_fi_ta AT_he_fl_c AT_he_ro_c AT_fi_ta_sn vT_ab vT_be vT_bo vT_no vT_fu vT_he_ng vT_he_sl_n vT_he_fl_n fT_fi_ft vT_he_ro_n fT_he_ro_c fT_he_sl_c fT_he_fl_c fT_fi_bv vT_fi_ta_hi vT_fi_ta_ms vT_fi_ta_bl vT_fi_ta_fw fT_fi_ta_sn) sz)) 0 0 (va_A (wd_X7_tell cI cZ AT AT_he AT_iz AT_io AT_tx AT_rd AT_fo AT_fi AT_he_sl AT_he_fl AT_he_ro AT_he_nt AT_he_mk AT_he_mo AT_he_sl_c AT_fi_ft AT_fi_bv AT_fi_ta AT_he_fl_c AT_he_ro_c AT_fi_ta_sn vT_ab vT_be vT_bo vT_no vT_fu vT_he_ng vT_he_sl_n vT_he_fl_n fT_fi_ft vT_he_ro_n fT_he_ro_c fT_he_sl_c fT_he_fl_c fT_fi_bv vT_fi_ta_hi vT_fi_ta_ms vT_fi_ta_bl vT_fi_ta_fw fT_fi_ta_sn) sz) := by
  refine q_met (fun A => q_Qi D (wd_X7_tell cI cZ AT AT_he AT_iz AT_io AT_tx AT_rd AT_fo AT_fi AT_he_sl AT_he_fl AT_he_ro AT_he_nt AT_he_mk AT_he_mo AT_he_sl_c AT_fi_ft AT_fi_bv AT_fi_ta AT_he_fl_c AT_he_ro_c AT_fi_ta_sn vT_ab vT_be out.2.1 out.2.2.1 out.2.2.2.1 vT_he_ng vT_he_sl_n vT_he_fl_n out.2.2.2.2.1 vT_he_ro_n fT_he_ro_c fT_he_sl_c fT_he_fl_c out.2.2.2.2.2.1 out.2.2.2.2.2.2.1 out.2.2.2.2.2.2.2.1 out.2.2.2.2.2.2.2.2.1 out.2.2.2.2.2.2.2.2.2.1 out.2.2.2.2.2.2.2.2.2.2) out.1 A) (by decide) (Nat.le_of_ble_eq_true rfl) ?_
  intro p e s m below meth c ls A hx hb hr hml hown hts hlocks _ hA hS hP hD hK hN hl
  have hown : s.vm.findClass RX7 = some m.cls := hown
  have hl : lv_has ls 2 [(0, .ref AT), (1, .int p1)] := hl
  unfold fm_X7_tell at hm
  refine q_gen hS hP ?_
  intro H locs hP hS
  refine lv_aload_n hx hb dX7_tell_0 rfl (lv_at hl 0 rfl) ?_
  refine lv_iload_n hx hb dX7_tell_1 rfl (lv_at hl 1 rfl) ?_
  obtain ⟨r_2, hc_2, hm⟩ := ob_s hm
  refine q_ci (q_rv (rest := []) ⟨hx, hb, hml, hown, hts⟩ hK hN hP hD (c_X7_isSleeper l D cI cZ H.size AT AT_he AT_iz AT_io AT_tx AT_rd AT_fo AT_fi AT_he_sl AT_he_fl AT_he_ro AT_he_nt AT_he_mk AT_he_mo AT_he_sl_c vT_ab vT_be vT_bo vT_no vT_fu vT_he_ng vT_he_sl_n p1 r_2 hc_2) mb_X7_isSleeper mv_X7_isSleeper wl_X7_135 [0, 1, 2] rfl rfl rfl (Nat.le_of_ble_eq_true rfl) (Nat.le_of_ble_eq_true rfl) rfl hl.1 rfl (Nat.le_of_ble_eq_true rfl) ⟨Nat.le_refl 0, Nat.le_refl 0⟩ dX7_tell_2) hP hD hS hA [0, 1, 2] rfl rfl (fun H locs hP hD hS => ?_)
  have hP : va_P D vwCl (wd_X7_tell cI cZ AT AT_he AT_iz AT_io AT_tx AT_rd AT_fo AT_fi AT_he_sl AT_he_fl AT_he_ro AT_he_nt AT_he_mk AT_he_mo AT_he_sl_c AT_fi_ft AT_fi_bv AT_fi_ta AT_he_fl_c AT_he_ro_c AT_fi_ta_sn vT_ab vT_be vT_bo vT_no vT_fu vT_he_ng vT_he_sl_n vT_he_fl_n fT_fi_ft vT_he_ro_n fT_he_ro_c fT_he_sl_c fT_he_fl_c fT_fi_bv vT_fi_ta_hi vT_fi_ta_ms vT_fi_ta_bl vT_fi_ta_fw fT_fi_ta_sn) H := hP
  have hD : va_D A (wd_X7_tell cI cZ AT AT_he AT_iz AT_io AT_tx AT_rd AT_fo AT_fi AT_he_sl AT_he_fl AT_he_ro AT_he_nt AT_he_mk AT_he_mo AT_he_sl_c AT_fi_ft AT_fi_bv AT_fi_ta AT_he_fl_c AT_he_ro_c AT_fi_ta_sn vT_ab vT_be vT_bo vT_no vT_fu vT_he_ng vT_he_sl_n vT_he_fl_n fT_fi_ft vT_he_ro_n fT_he_ro_c fT_he_sl_c fT_he_fl_c fT_fi_bv vT_fi_ta_hi vT_fi_ta_ms vT_fi_ta_bl vT_fi_ta_fw fT_fi_ta_sn) := hD
  refine lv_if_ne (tgt := 15) hx hb dX7_tell_5 (by decide) (fun c_5 => ?_) (fun c_5 => ?_)
  · have hm := it_n c_5 hm
    refine lv_aload_n hx hb dX7_tell_15 rfl (lv_at hl 0 rfl) ?_
    refine gf_X7_56 (v := .ref AT_fi) hx hb hts hown hK hN hP 0 rfl rfl dX7_tell_16 ?_
    refine lv_iload_n hx hb dX7_tell_19 rfl (lv_at hl 1 rfl) ?_
    obtain ⟨r_20, hc_20, hm⟩ := ob_s hm
    refine q_cv (q_rv (rest := []) ⟨hx, hb, hml, hown, hts⟩ hK hN hP hD (c_X0_findSets l D cI cZ H.size AT_fi AT_he AT_fi_ft AT_fi_bv AT_fi_ta AT_he_sl AT_he_fl AT_he_ro AT_he_nt AT_he_mk AT_he_mo AT_he_fl_c AT_he_ro_c AT_he_sl_c vT_he_ng vT_he_fl_n fT_fi_ft vT_he_ro_n fT_he_ro_c vT_he_sl_n fT_he_sl_c fT_he_fl_c fT_fi_bv p1 r_20 hc_20) mb_X0_findSets mv_X0_findSets wl_X7_186 [3, 1, 4, 5, 6, 7, 2, 8, 9, 10] rfl rfl rfl (Nat.le_of_ble_eq_true rfl) (Nat.le_of_ble_eq_true rfl) rfl hl.1 rfl (Nat.le_of_ble_eq_true rfl) ⟨Nat.le_refl 0, Nat.le_refl 0⟩ dX7_tell_20) hP hD hS hA [3, 1, 4, 5, 6, 7, 2, 8, 9, 10] rfl rfl (fun H locs hP hD hS => ?_)
    have hP : va_P D vwCl (wd_X7_tell cI cZ AT AT_he AT_iz AT_io AT_tx AT_rd AT_fo AT_fi AT_he_sl AT_he_fl AT_he_ro AT_he_nt AT_he_mk AT_he_mo AT_he_sl_c AT_fi_ft AT_fi_bv AT_fi_ta AT_he_fl_c AT_he_ro_c AT_fi_ta_sn vT_ab vT_be vT_bo vT_no vT_fu vT_he_ng vT_he_sl_n vT_he_fl_n r_20.1 vT_he_ro_n fT_he_ro_c fT_he_sl_c fT_he_fl_c r_20.2 vT_fi_ta_hi vT_fi_ta_ms vT_fi_ta_bl vT_fi_ta_fw fT_fi_ta_sn) H := hP
    have hD : va_D A (wd_X7_tell cI cZ AT AT_he AT_iz AT_io AT_tx AT_rd AT_fo AT_fi AT_he_sl AT_he_fl AT_he_ro AT_he_nt AT_he_mk AT_he_mo AT_he_sl_c AT_fi_ft AT_fi_bv AT_fi_ta AT_he_fl_c AT_he_ro_c AT_fi_ta_sn vT_ab vT_be vT_bo vT_no vT_fu vT_he_ng vT_he_sl_n vT_he_fl_n r_20.1 vT_he_ro_n fT_he_ro_c fT_he_sl_c fT_he_fl_c r_20.2 vT_fi_ta_hi vT_fi_ta_ms vT_fi_ta_bl vT_fi_ta_fw fT_fi_ta_sn) := hD
    refine lv_aload_n hx hb dX7_tell_23 rfl (lv_at hl 0 rfl) ?_
    refine gf_X7_56 (v := .ref AT_fi) hx hb hts hown hK hN hP 0 rfl rfl dX7_tell_24 ?_
    refine lv_iload_n hx hb dX7_tell_27 rfl (lv_at hl 1 rfl) ?_
    obtain ⟨r_28, hc_28, hm⟩ := ob_s hm
    refine q_ci (q_rv (rest := []) ⟨hx, hb, hml, hown, hts⟩ hK hN hP hD (c_X0_tellingNight l D cI cZ H.size AT_fi AT_he AT_fi_ft AT_fi_bv AT_fi_ta AT_fi_ta_sn AT_he_sl AT_he_fl AT_he_ro AT_he_nt AT_he_mk AT_he_mo AT_he_fl_c AT_he_sl_c r_20.1 vT_fi_ta_hi vT_fi_ta_ms vT_fi_ta_bl vT_fi_ta_fw vT_he_ng vT_he_fl_n vT_he_sl_n fT_he_sl_c fT_he_fl_c r_20.2 fT_fi_ta_sn p1 r_28 hc_28) mb_X0_tellingNight mv_X0_tellingNight wl_X7_198 [3, 5, 11, 1, 4, 2, 8, 9, 10, 12] rfl rfl rfl (Nat.le_of_ble_eq_true rfl) (Nat.le_of_ble_eq_true rfl) rfl hl.1 rfl (Nat.le_of_ble_eq_true rfl) ⟨Nat.le_refl 0, Nat.le_refl 0⟩ dX7_tell_28) hP hD hS hA [3, 5, 11, 1, 4, 2, 8, 9, 10, 12] rfl rfl (fun H locs hP hD hS => ?_)
    have hP : va_P D vwCl (wd_X7_tell cI cZ AT AT_he AT_iz AT_io AT_tx AT_rd AT_fo AT_fi AT_he_sl AT_he_fl AT_he_ro AT_he_nt AT_he_mk AT_he_mo AT_he_sl_c AT_fi_ft AT_fi_bv AT_fi_ta AT_he_fl_c AT_he_ro_c AT_fi_ta_sn vT_ab vT_be vT_bo vT_no vT_fu vT_he_ng vT_he_sl_n vT_he_fl_n r_20.1 vT_he_ro_n fT_he_ro_c fT_he_sl_c fT_he_fl_c r_28.2.2.2.2.2.1 r_28.2.1 r_28.2.2.1 r_28.2.2.2.1 r_28.2.2.2.2.1 r_28.2.2.2.2.2.2) H := hP
    have hD : va_D A (wd_X7_tell cI cZ AT AT_he AT_iz AT_io AT_tx AT_rd AT_fo AT_fi AT_he_sl AT_he_fl AT_he_ro AT_he_nt AT_he_mk AT_he_mo AT_he_sl_c AT_fi_ft AT_fi_bv AT_fi_ta AT_he_fl_c AT_he_ro_c AT_fi_ta_sn vT_ab vT_be vT_bo vT_no vT_fu vT_he_ng vT_he_sl_n vT_he_fl_n r_20.1 vT_he_ro_n fT_he_ro_c fT_he_sl_c fT_he_fl_c r_28.2.2.2.2.2.1 r_28.2.1 r_28.2.2.1 r_28.2.2.2.1 r_28.2.2.2.2.1 r_28.2.2.2.2.2.2) := hD
    have hm := Option.some.inj hm
    subst hm
    exact q_iret (v := r_28.1) hx hb hr hlocks hP hS dX7_tell_31
  · have hm := it_s c_5 hm
    refine lv_aload_n hx hb dX7_tell_8 rfl (lv_at hl 0 rfl) ?_
    refine lv_bipush (v := (-2)) hx hb dX7_tell_9 (by decide) ?_
    obtain ⟨r_11, hc_11, hm⟩ := ob_s hm
    refine q_ci (q_rv (rest := []) ⟨hx, hb, hml, hown, hts⟩ hK hN hP hD (c_X7_refused l D cI cZ H.size AT AT_he AT_iz AT_io AT_tx AT_rd AT_fo AT_fi vT_ab vT_be vT_bo vT_no vT_fu (-2) r_11 hc_11) mb_X7_refused mv_X7_refused wl_X7_81 [0] rfl rfl rfl (Nat.le_of_ble_eq_true rfl) (Nat.le_of_ble_eq_true rfl) rfl hl.1 rfl (Nat.le_of_ble_eq_true rfl) ⟨Nat.le_refl 0, Nat.le_refl 0⟩ dX7_tell_11) hP hD hS hA [0] rfl rfl (fun H locs hP hD hS => ?_)
    have hP : va_P D vwCl (wd_X7_tell cI cZ AT AT_he AT_iz AT_io AT_tx AT_rd AT_fo AT_fi AT_he_sl AT_he_fl AT_he_ro AT_he_nt AT_he_mk AT_he_mo AT_he_sl_c AT_fi_ft AT_fi_bv AT_fi_ta AT_he_fl_c AT_he_ro_c AT_fi_ta_sn vT_ab vT_be r_11.2.1 r_11.2.2.1 r_11.2.2.2 vT_he_ng vT_he_sl_n vT_he_fl_n fT_fi_ft vT_he_ro_n fT_he_ro_c fT_he_sl_c fT_he_fl_c fT_fi_bv vT_fi_ta_hi vT_fi_ta_ms vT_fi_ta_bl vT_fi_ta_fw fT_fi_ta_sn) H := hP
    have hD : va_D A (wd_X7_tell cI cZ AT AT_he AT_iz AT_io AT_tx AT_rd AT_fo AT_fi AT_he_sl AT_he_fl AT_he_ro AT_he_nt AT_he_mk AT_he_mo AT_he_sl_c AT_fi_ft AT_fi_bv AT_fi_ta AT_he_fl_c AT_he_ro_c AT_fi_ta_sn vT_ab vT_be r_11.2.1 r_11.2.2.1 r_11.2.2.2 vT_he_ng vT_he_sl_n vT_he_fl_n fT_fi_ft vT_he_ro_n fT_he_ro_c fT_he_sl_c fT_he_fl_c fT_fi_bv vT_fi_ta_hi vT_fi_ta_ms vT_fi_ta_bl vT_fi_ta_fw fT_fi_ta_sn) := hD
    have hm := Option.some.inj hm
    subst hm
    exact q_iret (v := r_11.1) hx hb hr hlocks hP hS dX7_tell_14
theorem gf_X7_201 {p : Program} {l : Launch} {e : Env} {R : Room} {s : State} {m : MethodId} {args : Array Value} {below : List Frame} {meth : Method} {c : Code} {H : Heap} {locs : List Loc} {cells slots : Nat} {Q : State → Prop} {pc : Nat} {ls : Array Slot} {cc : ByteArray} {D : va_G} {cI cZ : ClassId} {ws : va_W} {a : Nat} {rest fs : List Value} (hx : p.tables.exec = Jvm.exec) (hb : c.code = cc) (hts : ∀ w ∈ bg, w.before args s = true) (hown : s.vm.findClass RX7 = some m.cls) (hK : va_K D vwCl (q_tys cI cZ) s) (hN : q_N s) (hP : va_P D vwCl ws H) (q0 : Nat) (he : ws[q0]? = some (a, .inr (4, fs))) {v : Value} (hv : fs[3]? = some v) (hdg : decode cc pc = .ok (.getfield 201, 3)) (kk : W p l e R s m args below meth c H locs cells slots Q (F0 m (pc + 3) ls (v :: rest))) : W p l e R s m args below meth c H locs cells slots Q (F0 m pc ls (.ref a :: rest)) :=
  va_getN (C := RX4) (T := TX4) (N := 7) hx hb hts wu_X4 hown hK hP q0 he rfl 3 (by decide) ((ng_X7_201 hN).use rfl) (fun _ h9 => h9) hv hdg kk
theorem mb_X7_note : q_mb yX7_note cX7_note 5 (some .int) 4 := ⟨wc_X7_note, wn_X7, by decide, by decide, by decide +kernel⟩
theorem mv_X7_note : q_mv yX7_note 7 := ⟨wi_X7_note, ws_X7_note, _, rfl, rfl⟩
def wd_X7_note (cI cZ : ClassId) (AT AT_he AT_iz AT_io AT_tx AT_rd AT_fo AT_fi AT_he_sl AT_he_fl AT_he_ro AT_he_nt AT_he_mk AT_he_mo AT_he_fl_c AT_he_nt_c : Nat) (vT_ab : Int32) (vT_be : Int32) (vT_bo : Int32) (vT_no : Int32) (vT_fu : Int32) (vT_he_ng : Int32) (vT_he_fl_n : Int32) (vT_he_nt_n : Int32) (fT_he_nt_c : Nat → Int32) : va_W := [(AT, .inr (7, [.ref AT_he, .ref AT_iz, .ref AT_io, .ref AT_tx, .ref AT_rd, .ref AT_fo, .ref AT_fi, .int vT_ab, .int vT_be, .int vT_bo, .int vT_no, .int vT_fu])), (AT_he, .inr (4, [.ref AT_he_sl, .ref AT_he_fl, .ref AT_he_ro, .ref AT_he_nt, .ref AT_he_mk, .ref AT_he_mo, .int vT_he_ng])), (AT_he_fl, .inr (3, [.int 3, .ref AT_he_fl_c, .int vT_he_fl_n])), (AT_he_nt, .inr (3, [.int 4, .ref AT_he_nt_c, .int vT_he_nt_n])), (AT_he_nt_c, .inl (cI, 24, .inl fT_he_nt_c))]
def fm_X7_note (p1 : Int32) (p2 : Int32) (p3 : Int32) (p4 : Int32) (vT_bo : Int32) (vT_no : Int32) (vT_fu : Int32) (vT_he_fl_n : Int32) (vT_he_nt_n : Int32) (fT_he_nt_c : Nat → Int32) : Option (Int32 × Int32 × Int32 × Int32 × Int32 × (Nat → Int32)) := Option.bind (fm_X7_isFlower p1 vT_he_fl_n) (fun r_2 => if r_2 = 0 then (Option.bind (fm_X7_refused (-2) vT_bo vT_no vT_fu) (fun r_42 => some (r_42.1, r_42.2.1, r_42.2.2.1, r_42.2.2.2, vT_he_nt_n, fT_he_nt_c))) else (Option.bind (fm_X7_within p2 1 9) (fun r_12 => if r_12 = 0 then (Option.bind (fm_X7_refused (-2) vT_bo vT_no vT_fu) (fun r_42 => some (r_42.1, r_42.2.1, r_42.2.2.1, r_42.2.2.2, vT_he_nt_n, fT_he_nt_c))) else (Option.bind (fm_X7_within p3 0 99) (fun r_22 => if r_22 = 0 then (Option.bind (fm_X7_refused (-2) vT_bo vT_no vT_fu) (fun r_42 => some (r_42.1, r_42.2.1, r_42.2.2.1, r_42.2.2.2, vT_he_nt_n, fT_he_nt_c))) else (Option.bind (fm_X7_within p4 0 20) (fun r_33 => if r_33 = 0 then (Option.bind (fm_X7_refused (-2) vT_bo vT_no vT_fu) (fun r_42 => some (r_42.1, r_42.2.1, r_42.2.2.1, r_42.2.2.2, vT_he_nt_n, fT_he_nt_c))) else (Option.bind (fm_X3_isFull 4 24 vT_he_nt_n) (fun r_53 => if r_53 = 0 then (Option.bind (fm_X3_add 4 24 p1 p2 p3 p4 vT_he_nt_n fT_he_nt_c) (fun r_78 => Option.bind (fm_X3_size r_78.1) (fun r_88 => some (r_88, vT_bo, vT_no, vT_fu, r_78.1, r_78.2)))) else (Option.bind (fm_X7_refused (-4) vT_bo vT_no vT_fu) (fun r_62 => some (r_62.1, r_62.2.1, r_62.2.2.1, r_62.2.2.2, vT_he_nt_n, fT_he_nt_c))))))))))))
set_option maxHeartbeats 4000000 in
set_option maxRecDepth 100000 in
theorem c_X7_note (l : Launch) (D : va_G) (cI cZ : ClassId) (sz : Nat) (AT AT_he AT_iz AT_io AT_tx AT_rd AT_fo AT_fi AT_he_sl AT_he_fl AT_he_ro AT_he_nt AT_he_mk AT_he_mo AT_he_fl_c AT_he_nt_c : Nat) (vT_ab : Int32) (vT_be : Int32) (vT_bo : Int32) (vT_no : Int32) (vT_fu : Int32) (vT_he_ng : Int32) (vT_he_fl_n : Int32) (vT_he_nt_n : Int32) (fT_he_nt_c : Nat → Int32) (p1 : Int32) (p2 : Int32) (p3 : Int32) (p4 : Int32) (out : (Int32 × Int32 × Int32 × Int32 × Int32 × (Nat → Int32))) (hm : fm_X7_note p1 p2 p3 p4 vT_bo vT_no vT_fu vT_he_fl_n vT_he_nt_n fT_he_nt_c = some out) : Met l yX7_note (Cond.code yX7_note cX7_note 5 (some .int) :: bg) { frames := 2, cells := 0, slots := 0, locals := 49 } (va_Pc [.ref AT, .int p1, .int p2, .int p3, .int p4] (q_pre D cI cZ sz (wd_X7_note cI cZ AT AT_he AT_iz AT_io AT_tx AT_rd AT_fo AT_fi AT_he_sl AT_he_fl AT_he_ro AT_he_nt AT_he_mk AT_he_mo AT_he_fl_c AT_he_nt_c vT_ab vT_be vT_bo vT_no vT_fu vT_he_ng vT_he_fl_n vT_he_nt_n fT_he_nt_c))) (q_Qi D (wd_X7_note cI cZ AT AT_he AT_iz AT_io AT_tx AT_rd AT_fo AT_fi AT_he_sl AT_he_fl AT_he_ro AT_he_nt AT_he_mk AT_he_mo AT_he_fl_c AT_he_nt_c vT_ab vT_be out.2.1 out.2.2.1 out.2.2.2.1 vT_he_ng vT_he_fl_n out.2.2.2.2.1 out.2.2.2.2.2) out.1 (va_A (wd_X7_note cI cZ AT AT_he AT_iz AT_io AT_tx AT_rd AT_fo AT_fi AT_he_sl AT_he_fl AT_he_ro AT_he_nt AT_he_mk AT_he_mo AT_he_fl_c AT_he_nt_c vT_ab vT_be vT_bo vT_no vT_fu vT_he_ng vT_he_fl_n vT_he_nt_n fT_he_nt_c) sz)) 0 0 (va_A (wd_X7_note cI cZ AT AT_he AT_iz AT_io AT_tx AT_rd AT_fo AT_fi AT_he_sl AT_he_fl AT_he_ro AT_he_nt AT_he_mk AT_he_mo AT_he_fl_c AT_he_nt_c vT_ab vT_be vT_bo vT_no vT_fu vT_he_ng vT_he_fl_n vT_he_nt_n fT_he_nt_c) sz) := by
  refine q_met (fun A => q_Qi D (wd_X7_note cI cZ AT AT_he AT_iz AT_io AT_tx AT_rd AT_fo AT_fi AT_he_sl AT_he_fl AT_he_ro AT_he_nt AT_he_mk AT_he_mo AT_he_fl_c AT_he_nt_c vT_ab vT_be out.2.1 out.2.2.1 out.2.2.2.1 vT_he_ng vT_he_fl_n out.2.2.2.2.1 out.2.2.2.2.2) out.1 A) (by decide) (Nat.le_of_ble_eq_true rfl) ?_
  intro p e s m below meth c ls A hx hb hr hml hown hts hlocks _ hA hS hP hD hK hN hl
  have hown : s.vm.findClass RX7 = some m.cls := hown
  have hl : lv_has ls 5 [(0, .ref AT), (1, .int p1), (2, .int p2), (3, .int p3), (4, .int p4)] := hl
  unfold fm_X7_note at hm
  refine q_gen hS hP ?_
  intro H locs hP hS
  refine lv_aload_n hx hb dX7_note_0 rfl (lv_at hl 0 rfl) ?_
  refine lv_iload_n hx hb dX7_note_1 rfl (lv_at hl 1 rfl) ?_
  obtain ⟨r_2, hc_2, hm⟩ := ob_s hm
  refine q_ci (q_rv (rest := []) ⟨hx, hb, hml, hown, hts⟩ hK hN hP hD (c_X7_isFlower l D cI cZ H.size AT AT_he AT_iz AT_io AT_tx AT_rd AT_fo AT_fi AT_he_sl AT_he_fl AT_he_ro AT_he_nt AT_he_mk AT_he_mo AT_he_fl_c vT_ab vT_be vT_bo vT_no vT_fu vT_he_ng vT_he_fl_n p1 r_2 hc_2) mb_X7_isFlower mv_X7_isFlower wl_X7_145 [0, 1, 2] rfl rfl rfl (Nat.le_of_ble_eq_true rfl) (Nat.le_of_ble_eq_true rfl) rfl hl.1 rfl (Nat.le_of_ble_eq_true rfl) ⟨Nat.le_refl 0, Nat.le_refl 0⟩ dX7_note_2) hP hD hS hA [0, 1, 2] rfl rfl (fun H locs hP hD hS => ?_)
  have hP : va_P D vwCl (wd_X7_note cI cZ AT AT_he AT_iz AT_io AT_tx AT_rd AT_fo AT_fi AT_he_sl AT_he_fl AT_he_ro AT_he_nt AT_he_mk AT_he_mo AT_he_fl_c AT_he_nt_c vT_ab vT_be vT_bo vT_no vT_fu vT_he_ng vT_he_fl_n vT_he_nt_n fT_he_nt_c) H := hP
  have hD : va_D A (wd_X7_note cI cZ AT AT_he AT_iz AT_io AT_tx AT_rd AT_fo AT_fi AT_he_sl AT_he_fl AT_he_ro AT_he_nt AT_he_mk AT_he_mo AT_he_fl_c AT_he_nt_c vT_ab vT_be vT_bo vT_no vT_fu vT_he_ng vT_he_fl_n vT_he_nt_n fT_he_nt_c) := hD
  refine lv_if_eq (tgt := 39) hx hb dX7_note_5 (by decide) (fun c_5 => ?_) (fun c_5 => ?_)
  · have hm := it_s c_5 hm
    refine lv_aload_n hx hb dX7_note_39 rfl (lv_at hl 0 rfl) ?_
    refine lv_bipush (v := (-2)) hx hb dX7_note_40 (by decide) ?_
    obtain ⟨r_42, hc_42, hm⟩ := ob_s hm
    refine q_ci (q_rv (rest := []) ⟨hx, hb, hml, hown, hts⟩ hK hN hP hD (c_X7_refused l D cI cZ H.size AT AT_he AT_iz AT_io AT_tx AT_rd AT_fo AT_fi vT_ab vT_be vT_bo vT_no vT_fu (-2) r_42 hc_42) mb_X7_refused mv_X7_refused wl_X7_81 [0] rfl rfl rfl (Nat.le_of_ble_eq_true rfl) (Nat.le_of_ble_eq_true rfl) rfl hl.1 rfl (Nat.le_of_ble_eq_true rfl) ⟨Nat.le_refl 0, Nat.le_refl 0⟩ dX7_note_42) hP hD hS hA [0] rfl rfl (fun H locs hP hD hS => ?_)
    have hP : va_P D vwCl (wd_X7_note cI cZ AT AT_he AT_iz AT_io AT_tx AT_rd AT_fo AT_fi AT_he_sl AT_he_fl AT_he_ro AT_he_nt AT_he_mk AT_he_mo AT_he_fl_c AT_he_nt_c vT_ab vT_be r_42.2.1 r_42.2.2.1 r_42.2.2.2 vT_he_ng vT_he_fl_n vT_he_nt_n fT_he_nt_c) H := hP
    have hD : va_D A (wd_X7_note cI cZ AT AT_he AT_iz AT_io AT_tx AT_rd AT_fo AT_fi AT_he_sl AT_he_fl AT_he_ro AT_he_nt AT_he_mk AT_he_mo AT_he_fl_c AT_he_nt_c vT_ab vT_be r_42.2.1 r_42.2.2.1 r_42.2.2.2 vT_he_ng vT_he_fl_n vT_he_nt_n fT_he_nt_c) := hD
    have hm := Option.some.inj hm
    subst hm
    exact q_iret (v := r_42.1) hx hb hr hlocks hP hS dX7_note_45
  · have hm := it_n c_5 hm
    refine lv_iload_n hx hb dX7_note_8 rfl (lv_at hl 2 rfl) ?_
    refine lv_iconst (v := 1) hx hb dX7_note_9 (by decide) ?_
    refine lv_bipush (v := 9) hx hb dX7_note_10 (by decide) ?_
    obtain ⟨r_12, hc_12, hm⟩ := ob_s hm
    refine q_ci (q_rs (rest := []) ⟨hx, hb, hml, hown, hts⟩ hK hN hP hD (c_X7_within l D cI cZ H.size p2 1 9 r_12 hc_12) mb_X7_within wt_X7_within wl_X7_77 [] rfl rfl (Nat.le_of_ble_eq_true rfl) (Nat.le_of_ble_eq_true rfl) rfl hl.1 rfl (Nat.le_of_ble_eq_true rfl) ⟨Nat.le_refl 0, Nat.le_refl 0⟩ dX7_note_12) hP hD hS hA [] rfl rfl (fun H locs hP hD hS => ?_)
    have hP : va_P D vwCl (wd_X7_note cI cZ AT AT_he AT_iz AT_io AT_tx AT_rd AT_fo AT_fi AT_he_sl AT_he_fl AT_he_ro AT_he_nt AT_he_mk AT_he_mo AT_he_fl_c AT_he_nt_c vT_ab vT_be vT_bo vT_no vT_fu vT_he_ng vT_he_fl_n vT_he_nt_n fT_he_nt_c) H := hP
    have hD : va_D A (wd_X7_note cI cZ AT AT_he AT_iz AT_io AT_tx AT_rd AT_fo AT_fi AT_he_sl AT_he_fl AT_he_ro AT_he_nt AT_he_mk AT_he_mo AT_he_fl_c AT_he_nt_c vT_ab vT_be vT_bo vT_no vT_fu vT_he_ng vT_he_fl_n vT_he_nt_n fT_he_nt_c) := hD
    refine lv_if_eq (tgt := 39) hx hb dX7_note_15 (by decide) (fun c_15 => ?_) (fun c_15 => ?_)
    · have hm := it_s c_15 hm
      refine lv_aload_n hx hb dX7_note_39 rfl (lv_at hl 0 rfl) ?_
      refine lv_bipush (v := (-2)) hx hb dX7_note_40 (by decide) ?_
      obtain ⟨r_42, hc_42, hm⟩ := ob_s hm
      refine q_ci (q_rv (rest := []) ⟨hx, hb, hml, hown, hts⟩ hK hN hP hD (c_X7_refused l D cI cZ H.size AT AT_he AT_iz AT_io AT_tx AT_rd AT_fo AT_fi vT_ab vT_be vT_bo vT_no vT_fu (-2) r_42 hc_42) mb_X7_refused mv_X7_refused wl_X7_81 [0] rfl rfl rfl (Nat.le_of_ble_eq_true rfl) (Nat.le_of_ble_eq_true rfl) rfl hl.1 rfl (Nat.le_of_ble_eq_true rfl) ⟨Nat.le_refl 0, Nat.le_refl 0⟩ dX7_note_42) hP hD hS hA [0] rfl rfl (fun H locs hP hD hS => ?_)
      have hP : va_P D vwCl (wd_X7_note cI cZ AT AT_he AT_iz AT_io AT_tx AT_rd AT_fo AT_fi AT_he_sl AT_he_fl AT_he_ro AT_he_nt AT_he_mk AT_he_mo AT_he_fl_c AT_he_nt_c vT_ab vT_be r_42.2.1 r_42.2.2.1 r_42.2.2.2 vT_he_ng vT_he_fl_n vT_he_nt_n fT_he_nt_c) H := hP
      have hD : va_D A (wd_X7_note cI cZ AT AT_he AT_iz AT_io AT_tx AT_rd AT_fo AT_fi AT_he_sl AT_he_fl AT_he_ro AT_he_nt AT_he_mk AT_he_mo AT_he_fl_c AT_he_nt_c vT_ab vT_be r_42.2.1 r_42.2.2.1 r_42.2.2.2 vT_he_ng vT_he_fl_n vT_he_nt_n fT_he_nt_c) := hD
      have hm := Option.some.inj hm
      subst hm
      exact q_iret (v := r_42.1) hx hb hr hlocks hP hS dX7_note_45
    · have hm := it_n c_15 hm
      refine lv_iload_n hx hb dX7_note_18 rfl (lv_at hl 3 rfl) ?_
      refine lv_iconst (v := 0) hx hb dX7_note_19 (by decide) ?_
      refine lv_bipush (v := 99) hx hb dX7_note_20 (by decide) ?_
      obtain ⟨r_22, hc_22, hm⟩ := ob_s hm
      refine q_ci (q_rs (rest := []) ⟨hx, hb, hml, hown, hts⟩ hK hN hP hD (c_X7_within l D cI cZ H.size p3 0 99 r_22 hc_22) mb_X7_within wt_X7_within wl_X7_77 [] rfl rfl (Nat.le_of_ble_eq_true rfl) (Nat.le_of_ble_eq_true rfl) rfl hl.1 rfl (Nat.le_of_ble_eq_true rfl) ⟨Nat.le_refl 0, Nat.le_refl 0⟩ dX7_note_22) hP hD hS hA [] rfl rfl (fun H locs hP hD hS => ?_)
      have hP : va_P D vwCl (wd_X7_note cI cZ AT AT_he AT_iz AT_io AT_tx AT_rd AT_fo AT_fi AT_he_sl AT_he_fl AT_he_ro AT_he_nt AT_he_mk AT_he_mo AT_he_fl_c AT_he_nt_c vT_ab vT_be vT_bo vT_no vT_fu vT_he_ng vT_he_fl_n vT_he_nt_n fT_he_nt_c) H := hP
      have hD : va_D A (wd_X7_note cI cZ AT AT_he AT_iz AT_io AT_tx AT_rd AT_fo AT_fi AT_he_sl AT_he_fl AT_he_ro AT_he_nt AT_he_mk AT_he_mo AT_he_fl_c AT_he_nt_c vT_ab vT_be vT_bo vT_no vT_fu vT_he_ng vT_he_fl_n vT_he_nt_n fT_he_nt_c) := hD
      refine lv_if_eq (tgt := 39) hx hb dX7_note_25 (by decide) (fun c_25 => ?_) (fun c_25 => ?_)
      · have hm := it_s c_25 hm
        refine lv_aload_n hx hb dX7_note_39 rfl (lv_at hl 0 rfl) ?_
        refine lv_bipush (v := (-2)) hx hb dX7_note_40 (by decide) ?_
        obtain ⟨r_42, hc_42, hm⟩ := ob_s hm
        refine q_ci (q_rv (rest := []) ⟨hx, hb, hml, hown, hts⟩ hK hN hP hD (c_X7_refused l D cI cZ H.size AT AT_he AT_iz AT_io AT_tx AT_rd AT_fo AT_fi vT_ab vT_be vT_bo vT_no vT_fu (-2) r_42 hc_42) mb_X7_refused mv_X7_refused wl_X7_81 [0] rfl rfl rfl (Nat.le_of_ble_eq_true rfl) (Nat.le_of_ble_eq_true rfl) rfl hl.1 rfl (Nat.le_of_ble_eq_true rfl) ⟨Nat.le_refl 0, Nat.le_refl 0⟩ dX7_note_42) hP hD hS hA [0] rfl rfl (fun H locs hP hD hS => ?_)
        have hP : va_P D vwCl (wd_X7_note cI cZ AT AT_he AT_iz AT_io AT_tx AT_rd AT_fo AT_fi AT_he_sl AT_he_fl AT_he_ro AT_he_nt AT_he_mk AT_he_mo AT_he_fl_c AT_he_nt_c vT_ab vT_be r_42.2.1 r_42.2.2.1 r_42.2.2.2 vT_he_ng vT_he_fl_n vT_he_nt_n fT_he_nt_c) H := hP
        have hD : va_D A (wd_X7_note cI cZ AT AT_he AT_iz AT_io AT_tx AT_rd AT_fo AT_fi AT_he_sl AT_he_fl AT_he_ro AT_he_nt AT_he_mk AT_he_mo AT_he_fl_c AT_he_nt_c vT_ab vT_be r_42.2.1 r_42.2.2.1 r_42.2.2.2 vT_he_ng vT_he_fl_n vT_he_nt_n fT_he_nt_c) := hD
        have hm := Option.some.inj hm
        subst hm
        exact q_iret (v := r_42.1) hx hb hr hlocks hP hS dX7_note_45
      · have hm := it_n c_25 hm
        refine lv_iload hx hb dX7_note_28 (lv_at hl 4 rfl) ?_
        refine lv_iconst (v := 0) hx hb dX7_note_30 (by decide) ?_
        refine lv_bipush (v := 20) hx hb dX7_note_31 (by decide) ?_
        obtain ⟨r_33, hc_33, hm⟩ := ob_s hm
        refine q_ci (q_rs (rest := []) ⟨hx, hb, hml, hown, hts⟩ hK hN hP hD (c_X7_within l D cI cZ H.size p4 0 20 r_33 hc_33) mb_X7_within wt_X7_within wl_X7_77 [] rfl rfl (Nat.le_of_ble_eq_true rfl) (Nat.le_of_ble_eq_true rfl) rfl hl.1 rfl (Nat.le_of_ble_eq_true rfl) ⟨Nat.le_refl 0, Nat.le_refl 0⟩ dX7_note_33) hP hD hS hA [] rfl rfl (fun H locs hP hD hS => ?_)
        have hP : va_P D vwCl (wd_X7_note cI cZ AT AT_he AT_iz AT_io AT_tx AT_rd AT_fo AT_fi AT_he_sl AT_he_fl AT_he_ro AT_he_nt AT_he_mk AT_he_mo AT_he_fl_c AT_he_nt_c vT_ab vT_be vT_bo vT_no vT_fu vT_he_ng vT_he_fl_n vT_he_nt_n fT_he_nt_c) H := hP
        have hD : va_D A (wd_X7_note cI cZ AT AT_he AT_iz AT_io AT_tx AT_rd AT_fo AT_fi AT_he_sl AT_he_fl AT_he_ro AT_he_nt AT_he_mk AT_he_mo AT_he_fl_c AT_he_nt_c vT_ab vT_be vT_bo vT_no vT_fu vT_he_ng vT_he_fl_n vT_he_nt_n fT_he_nt_c) := hD
        refine lv_if_ne (tgt := 46) hx hb dX7_note_36 (by decide) (fun c_36 => ?_) (fun c_36 => ?_)
        · have hm := it_n c_36 hm
          refine lv_aload_n hx hb dX7_note_46 rfl (lv_at hl 0 rfl) ?_
          refine gf_X7_17 (v := .ref AT_he) hx hb hts hown hK hN hP 0 rfl rfl dX7_note_47 ?_
          refine gf_X7_201 (v := .ref AT_he_nt) hx hb hts hown hK hN hP 1 rfl rfl dX7_note_50 ?_
          obtain ⟨r_53, hc_53, hm⟩ := ob_s hm
          refine q_ci (q_rv (rest := []) ⟨hx, hb, hml, hown, hts⟩ hK hN hP hD (c_X3_isFull l D cI cZ H.size AT_he_nt AT_he_nt_c 4 24 vT_he_nt_n fT_he_nt_c r_53 hc_53) mb_X3_isFull mv_X3_isFull wl_X7_85 [3, 4] rfl rfl rfl (Nat.le_of_ble_eq_true rfl) (Nat.le_of_ble_eq_true rfl) rfl hl.1 rfl (Nat.le_of_ble_eq_true rfl) ⟨Nat.le_refl 0, Nat.le_refl 0⟩ dX7_note_53) hP hD hS hA [3, 4] rfl rfl (fun H locs hP hD hS => ?_)
          have hP : va_P D vwCl (wd_X7_note cI cZ AT AT_he AT_iz AT_io AT_tx AT_rd AT_fo AT_fi AT_he_sl AT_he_fl AT_he_ro AT_he_nt AT_he_mk AT_he_mo AT_he_fl_c AT_he_nt_c vT_ab vT_be vT_bo vT_no vT_fu vT_he_ng vT_he_fl_n vT_he_nt_n fT_he_nt_c) H := hP
          have hD : va_D A (wd_X7_note cI cZ AT AT_he AT_iz AT_io AT_tx AT_rd AT_fo AT_fi AT_he_sl AT_he_fl AT_he_ro AT_he_nt AT_he_mk AT_he_mo AT_he_fl_c AT_he_nt_c vT_ab vT_be vT_bo vT_no vT_fu vT_he_ng vT_he_fl_n vT_he_nt_n fT_he_nt_c) := hD
          refine lv_if_eq (tgt := 66) hx hb dX7_note_56 (by decide) (fun c_56 => ?_) (fun c_56 => ?_)
          · have hm := it_s c_56 hm
            refine lv_aload_n hx hb dX7_note_66 rfl (lv_at hl 0 rfl) ?_
            refine gf_X7_17 (v := .ref AT_he) hx hb hts hown hK hN hP 0 rfl rfl dX7_note_67 ?_
            refine gf_X7_201 (v := .ref AT_he_nt) hx hb hts hown hK hN hP 1 rfl rfl dX7_note_70 ?_
            refine lv_iload_n hx hb dX7_note_73 rfl (lv_at hl 1 rfl) ?_
            refine lv_iload_n hx hb dX7_note_74 rfl (lv_at hl 2 rfl) ?_
            refine lv_iload_n hx hb dX7_note_75 rfl (lv_at hl 3 rfl) ?_
            refine lv_iload hx hb dX7_note_76 (lv_at hl 4 rfl) ?_
            obtain ⟨r_78, hc_78, hm⟩ := ob_s hm
            refine q_cv (q_rv (rest := []) ⟨hx, hb, hml, hown, hts⟩ hK hN hP hD (c_X3_add l D cI cZ H.size AT_he_nt AT_he_nt_c 4 24 vT_he_nt_n fT_he_nt_c p1 p2 p3 p4 r_78 hc_78) mb_X3_add mv_X3_add wl_X7_103 [3, 4] rfl rfl rfl (Nat.le_of_ble_eq_true rfl) (Nat.le_of_ble_eq_true rfl) rfl hl.1 rfl (Nat.le_of_ble_eq_true rfl) ⟨Nat.le_refl 0, Nat.le_refl 0⟩ dX7_note_78) hP hD hS hA [3, 4] rfl rfl (fun H locs hP hD hS => ?_)
            have hP : va_P D vwCl (wd_X7_note cI cZ AT AT_he AT_iz AT_io AT_tx AT_rd AT_fo AT_fi AT_he_sl AT_he_fl AT_he_ro AT_he_nt AT_he_mk AT_he_mo AT_he_fl_c AT_he_nt_c vT_ab vT_be vT_bo vT_no vT_fu vT_he_ng vT_he_fl_n r_78.1 r_78.2) H := hP
            have hD : va_D A (wd_X7_note cI cZ AT AT_he AT_iz AT_io AT_tx AT_rd AT_fo AT_fi AT_he_sl AT_he_fl AT_he_ro AT_he_nt AT_he_mk AT_he_mo AT_he_fl_c AT_he_nt_c vT_ab vT_be vT_bo vT_no vT_fu vT_he_ng vT_he_fl_n r_78.1 r_78.2) := hD
            refine lv_aload_n hx hb dX7_note_81 rfl (lv_at hl 0 rfl) ?_
            refine gf_X7_17 (v := .ref AT_he) hx hb hts hown hK hN hP 0 rfl rfl dX7_note_82 ?_
            refine gf_X7_201 (v := .ref AT_he_nt) hx hb hts hown hK hN hP 1 rfl rfl dX7_note_85 ?_
            obtain ⟨r_88, hc_88, hm⟩ := ob_s hm
            refine q_ci (q_rv (rest := []) ⟨hx, hb, hml, hown, hts⟩ hK hN hP hD (c_X3_size l D cI cZ H.size AT_he_nt AT_he_nt_c 4 r_78.1 r_88 hc_88) mb_X3_size mv_X3_size wl_X7_70 [3] rfl rfl rfl (Nat.le_of_ble_eq_true rfl) (Nat.le_of_ble_eq_true rfl) rfl hl.1 rfl (Nat.le_of_ble_eq_true rfl) ⟨Nat.le_refl 0, Nat.le_refl 0⟩ dX7_note_88) hP hD hS hA [3] rfl rfl (fun H locs hP hD hS => ?_)
            have hP : va_P D vwCl (wd_X7_note cI cZ AT AT_he AT_iz AT_io AT_tx AT_rd AT_fo AT_fi AT_he_sl AT_he_fl AT_he_ro AT_he_nt AT_he_mk AT_he_mo AT_he_fl_c AT_he_nt_c vT_ab vT_be vT_bo vT_no vT_fu vT_he_ng vT_he_fl_n r_78.1 r_78.2) H := hP
            have hD : va_D A (wd_X7_note cI cZ AT AT_he AT_iz AT_io AT_tx AT_rd AT_fo AT_fi AT_he_sl AT_he_fl AT_he_ro AT_he_nt AT_he_mk AT_he_mo AT_he_fl_c AT_he_nt_c vT_ab vT_be vT_bo vT_no vT_fu vT_he_ng vT_he_fl_n r_78.1 r_78.2) := hD
            have hm := Option.some.inj hm
            subst hm
            exact q_iret (v := r_88) hx hb hr hlocks hP hS dX7_note_91
          · have hm := it_n c_56 hm
            refine lv_aload_n hx hb dX7_note_59 rfl (lv_at hl 0 rfl) ?_
            refine lv_bipush (v := (-4)) hx hb dX7_note_60 (by decide) ?_
            obtain ⟨r_62, hc_62, hm⟩ := ob_s hm
            refine q_ci (q_rv (rest := []) ⟨hx, hb, hml, hown, hts⟩ hK hN hP hD (c_X7_refused l D cI cZ H.size AT AT_he AT_iz AT_io AT_tx AT_rd AT_fo AT_fi vT_ab vT_be vT_bo vT_no vT_fu (-4) r_62 hc_62) mb_X7_refused mv_X7_refused wl_X7_81 [0] rfl rfl rfl (Nat.le_of_ble_eq_true rfl) (Nat.le_of_ble_eq_true rfl) rfl hl.1 rfl (Nat.le_of_ble_eq_true rfl) ⟨Nat.le_refl 0, Nat.le_refl 0⟩ dX7_note_62) hP hD hS hA [0] rfl rfl (fun H locs hP hD hS => ?_)
            have hP : va_P D vwCl (wd_X7_note cI cZ AT AT_he AT_iz AT_io AT_tx AT_rd AT_fo AT_fi AT_he_sl AT_he_fl AT_he_ro AT_he_nt AT_he_mk AT_he_mo AT_he_fl_c AT_he_nt_c vT_ab vT_be r_62.2.1 r_62.2.2.1 r_62.2.2.2 vT_he_ng vT_he_fl_n vT_he_nt_n fT_he_nt_c) H := hP
            have hD : va_D A (wd_X7_note cI cZ AT AT_he AT_iz AT_io AT_tx AT_rd AT_fo AT_fi AT_he_sl AT_he_fl AT_he_ro AT_he_nt AT_he_mk AT_he_mo AT_he_fl_c AT_he_nt_c vT_ab vT_be r_62.2.1 r_62.2.2.1 r_62.2.2.2 vT_he_ng vT_he_fl_n vT_he_nt_n fT_he_nt_c) := hD
            have hm := Option.some.inj hm
            subst hm
            exact q_iret (v := r_62.1) hx hb hr hlocks hP hS dX7_note_65
        · have hm := it_s c_36 hm
          refine lv_aload_n hx hb dX7_note_39 rfl (lv_at hl 0 rfl) ?_
          refine lv_bipush (v := (-2)) hx hb dX7_note_40 (by decide) ?_
          obtain ⟨r_42, hc_42, hm⟩ := ob_s hm
          refine q_ci (q_rv (rest := []) ⟨hx, hb, hml, hown, hts⟩ hK hN hP hD (c_X7_refused l D cI cZ H.size AT AT_he AT_iz AT_io AT_tx AT_rd AT_fo AT_fi vT_ab vT_be vT_bo vT_no vT_fu (-2) r_42 hc_42) mb_X7_refused mv_X7_refused wl_X7_81 [0] rfl rfl rfl (Nat.le_of_ble_eq_true rfl) (Nat.le_of_ble_eq_true rfl) rfl hl.1 rfl (Nat.le_of_ble_eq_true rfl) ⟨Nat.le_refl 0, Nat.le_refl 0⟩ dX7_note_42) hP hD hS hA [0] rfl rfl (fun H locs hP hD hS => ?_)
          have hP : va_P D vwCl (wd_X7_note cI cZ AT AT_he AT_iz AT_io AT_tx AT_rd AT_fo AT_fi AT_he_sl AT_he_fl AT_he_ro AT_he_nt AT_he_mk AT_he_mo AT_he_fl_c AT_he_nt_c vT_ab vT_be r_42.2.1 r_42.2.2.1 r_42.2.2.2 vT_he_ng vT_he_fl_n vT_he_nt_n fT_he_nt_c) H := hP
          have hD : va_D A (wd_X7_note cI cZ AT AT_he AT_iz AT_io AT_tx AT_rd AT_fo AT_fi AT_he_sl AT_he_fl AT_he_ro AT_he_nt AT_he_mk AT_he_mo AT_he_fl_c AT_he_nt_c vT_ab vT_be r_42.2.1 r_42.2.2.1 r_42.2.2.2 vT_he_ng vT_he_fl_n vT_he_nt_n fT_he_nt_c) := hD
          have hm := Option.some.inj hm
          subst hm
          exact q_iret (v := r_42.1) hx hb hr hlocks hP hS dX7_note_45
theorem gf_X7_204 {p : Program} {l : Launch} {e : Env} {R : Room} {s : State} {m : MethodId} {args : Array Value} {below : List Frame} {meth : Method} {c : Code} {H : Heap} {locs : List Loc} {cells slots : Nat} {Q : State → Prop} {pc : Nat} {ls : Array Slot} {cc : ByteArray} {D : va_G} {cI cZ : ClassId} {ws : va_W} {a : Nat} {rest fs : List Value} (hx : p.tables.exec = Jvm.exec) (hb : c.code = cc) (hts : ∀ w ∈ bg, w.before args s = true) (hown : s.vm.findClass RX7 = some m.cls) (hK : va_K D vwCl (q_tys cI cZ) s) (hN : q_N s) (hP : va_P D vwCl ws H) (q0 : Nat) (he : ws[q0]? = some (a, .inr (4, fs))) {v : Value} (hv : fs[4]? = some v) (hdg : decode cc pc = .ok (.getfield 204, 3)) (kk : W p l e R s m args below meth c H locs cells slots Q (F0 m (pc + 3) ls (v :: rest))) : W p l e R s m args below meth c H locs cells slots Q (F0 m pc ls (.ref a :: rest)) :=
  va_getN (C := RX4) (T := TX4) (N := 7) hx hb hts wu_X4 hown hK hP q0 he rfl 4 (by decide) ((ng_X7_204 hN).use rfl) (fun _ h9 => h9) hv hdg kk
theorem mb_X7_mark : q_mb yX7_mark cX7_mark 5 (some .int) 4 := ⟨wc_X7_mark, wn_X7, by decide, by decide, by decide +kernel⟩
theorem mv_X7_mark : q_mv yX7_mark 7 := ⟨wi_X7_mark, ws_X7_mark, _, rfl, rfl⟩
def wd_X7_mark (cI cZ : ClassId) (AT AT_he AT_iz AT_io AT_tx AT_rd AT_fo AT_fi AT_he_sl AT_he_fl AT_he_ro AT_he_nt AT_he_mk AT_he_mo AT_he_sl_c AT_he_mk_c : Nat) (vT_ab : Int32) (vT_be : Int32) (vT_bo : Int32) (vT_no : Int32) (vT_fu : Int32) (vT_he_ng : Int32) (vT_he_sl_n : Int32) (vT_he_mk_n : Int32) (fT_he_mk_c : Nat → Int32) : va_W := [(AT, .inr (7, [.ref AT_he, .ref AT_iz, .ref AT_io, .ref AT_tx, .ref AT_rd, .ref AT_fo, .ref AT_fi, .int vT_ab, .int vT_be, .int vT_bo, .int vT_no, .int vT_fu])), (AT_he, .inr (4, [.ref AT_he_sl, .ref AT_he_fl, .ref AT_he_ro, .ref AT_he_nt, .ref AT_he_mk, .ref AT_he_mo, .int vT_he_ng])), (AT_he_sl, .inr (3, [.int 4, .ref AT_he_sl_c, .int vT_he_sl_n])), (AT_he_mk, .inr (3, [.int 4, .ref AT_he_mk_c, .int vT_he_mk_n])), (AT_he_mk_c, .inl (cI, 24, .inl fT_he_mk_c))]
def fm_X7_mark (p1 : Int32) (p2 : Int32) (p3 : Int32) (p4 : Int32) (vT_bo : Int32) (vT_no : Int32) (vT_fu : Int32) (vT_he_sl_n : Int32) (vT_he_mk_n : Int32) (fT_he_mk_c : Nat → Int32) : Option (Int32 × Int32 × Int32 × Int32 × Int32 × (Nat → Int32)) := Option.bind (fm_X7_isSleeper p1 vT_he_sl_n) (fun r_2 => if r_2 = 0 then (Option.bind (fm_X7_refused (-2) vT_bo vT_no vT_fu) (fun r_42 => some (r_42.1, r_42.2.1, r_42.2.2.1, r_42.2.2.2, vT_he_mk_n, fT_he_mk_c))) else (Option.bind (fm_X7_within p2 0 20) (fun r_12 => if r_12 = 0 then (Option.bind (fm_X7_refused (-2) vT_bo vT_no vT_fu) (fun r_42 => some (r_42.1, r_42.2.1, r_42.2.2.1, r_42.2.2.2, vT_he_mk_n, fT_he_mk_c))) else (Option.bind (fm_X7_within p3 0 9) (fun r_22 => if r_22 = 0 then (Option.bind (fm_X7_refused (-2) vT_bo vT_no vT_fu) (fun r_42 => some (r_42.1, r_42.2.1, r_42.2.2.1, r_42.2.2.2, vT_he_mk_n, fT_he_mk_c))) else (Option.bind (fm_X7_within p4 0 50) (fun r_33 => if r_33 = 0 then (Option.bind (fm_X7_refused (-2) vT_bo vT_no vT_fu) (fun r_42 => some (r_42.1, r_42.2.1, r_42.2.2.1, r_42.2.2.2, vT_he_mk_n, fT_he_mk_c))) else (Option.bind (fm_X3_isFull 4 24 vT_he_mk_n) (fun r_53 => if r_53 = 0 then (Option.bind (fm_X3_add 4 24 p1 p2 p3 p4 vT_he_mk_n fT_he_mk_c) (fun r_78 => Option.bind (fm_X3_size r_78.1) (fun r_88 => some (r_88, vT_bo, vT_no, vT_fu, r_78.1, r_78.2)))) else (Option.bind (fm_X7_refused (-4) vT_bo vT_no vT_fu) (fun r_62 => some (r_62.1, r_62.2.1, r_62.2.2.1, r_62.2.2.2, vT_he_mk_n, fT_he_mk_c))))))))))))
set_option maxHeartbeats 4000000 in
set_option maxRecDepth 100000 in
theorem c_X7_mark (l : Launch) (D : va_G) (cI cZ : ClassId) (sz : Nat) (AT AT_he AT_iz AT_io AT_tx AT_rd AT_fo AT_fi AT_he_sl AT_he_fl AT_he_ro AT_he_nt AT_he_mk AT_he_mo AT_he_sl_c AT_he_mk_c : Nat) (vT_ab : Int32) (vT_be : Int32) (vT_bo : Int32) (vT_no : Int32) (vT_fu : Int32) (vT_he_ng : Int32) (vT_he_sl_n : Int32) (vT_he_mk_n : Int32) (fT_he_mk_c : Nat → Int32) (p1 : Int32) (p2 : Int32) (p3 : Int32) (p4 : Int32) (out : (Int32 × Int32 × Int32 × Int32 × Int32 × (Nat → Int32))) (hm : fm_X7_mark p1 p2 p3 p4 vT_bo vT_no vT_fu vT_he_sl_n vT_he_mk_n fT_he_mk_c = some out) : Met l yX7_mark (Cond.code yX7_mark cX7_mark 5 (some .int) :: bg) { frames := 2, cells := 0, slots := 0, locals := 49 } (va_Pc [.ref AT, .int p1, .int p2, .int p3, .int p4] (q_pre D cI cZ sz (wd_X7_mark cI cZ AT AT_he AT_iz AT_io AT_tx AT_rd AT_fo AT_fi AT_he_sl AT_he_fl AT_he_ro AT_he_nt AT_he_mk AT_he_mo AT_he_sl_c AT_he_mk_c vT_ab vT_be vT_bo vT_no vT_fu vT_he_ng vT_he_sl_n vT_he_mk_n fT_he_mk_c))) (q_Qi D (wd_X7_mark cI cZ AT AT_he AT_iz AT_io AT_tx AT_rd AT_fo AT_fi AT_he_sl AT_he_fl AT_he_ro AT_he_nt AT_he_mk AT_he_mo AT_he_sl_c AT_he_mk_c vT_ab vT_be out.2.1 out.2.2.1 out.2.2.2.1 vT_he_ng vT_he_sl_n out.2.2.2.2.1 out.2.2.2.2.2) out.1 (va_A (wd_X7_mark cI cZ AT AT_he AT_iz AT_io AT_tx AT_rd AT_fo AT_fi AT_he_sl AT_he_fl AT_he_ro AT_he_nt AT_he_mk AT_he_mo AT_he_sl_c AT_he_mk_c vT_ab vT_be vT_bo vT_no vT_fu vT_he_ng vT_he_sl_n vT_he_mk_n fT_he_mk_c) sz)) 0 0 (va_A (wd_X7_mark cI cZ AT AT_he AT_iz AT_io AT_tx AT_rd AT_fo AT_fi AT_he_sl AT_he_fl AT_he_ro AT_he_nt AT_he_mk AT_he_mo AT_he_sl_c AT_he_mk_c vT_ab vT_be vT_bo vT_no vT_fu vT_he_ng vT_he_sl_n vT_he_mk_n fT_he_mk_c) sz) := by
  refine q_met (fun A => q_Qi D (wd_X7_mark cI cZ AT AT_he AT_iz AT_io AT_tx AT_rd AT_fo AT_fi AT_he_sl AT_he_fl AT_he_ro AT_he_nt AT_he_mk AT_he_mo AT_he_sl_c AT_he_mk_c vT_ab vT_be out.2.1 out.2.2.1 out.2.2.2.1 vT_he_ng vT_he_sl_n out.2.2.2.2.1 out.2.2.2.2.2) out.1 A) (by decide) (Nat.le_of_ble_eq_true rfl) ?_
  intro p e s m below meth c ls A hx hb hr hml hown hts hlocks _ hA hS hP hD hK hN hl
  have hown : s.vm.findClass RX7 = some m.cls := hown
  have hl : lv_has ls 5 [(0, .ref AT), (1, .int p1), (2, .int p2), (3, .int p3), (4, .int p4)] := hl
  unfold fm_X7_mark at hm
  refine q_gen hS hP ?_
  intro H locs hP hS
  refine lv_aload_n hx hb dX7_mark_0 rfl (lv_at hl 0 rfl) ?_
  refine lv_iload_n hx hb dX7_mark_1 rfl (lv_at hl 1 rfl) ?_
  obtain ⟨r_2, hc_2, hm⟩ := ob_s hm
  refine q_ci (q_rv (rest := []) ⟨hx, hb, hml, hown, hts⟩ hK hN hP hD (c_X7_isSleeper l D cI cZ H.size AT AT_he AT_iz AT_io AT_tx AT_rd AT_fo AT_fi AT_he_sl AT_he_fl AT_he_ro AT_he_nt AT_he_mk AT_he_mo AT_he_sl_c vT_ab vT_be vT_bo vT_no vT_fu vT_he_ng vT_he_sl_n p1 r_2 hc_2) mb_X7_isSleeper mv_X7_isSleeper wl_X7_135 [0, 1, 2] rfl rfl rfl (Nat.le_of_ble_eq_true rfl) (Nat.le_of_ble_eq_true rfl) rfl hl.1 rfl (Nat.le_of_ble_eq_true rfl) ⟨Nat.le_refl 0, Nat.le_refl 0⟩ dX7_mark_2) hP hD hS hA [0, 1, 2] rfl rfl (fun H locs hP hD hS => ?_)
  have hP : va_P D vwCl (wd_X7_mark cI cZ AT AT_he AT_iz AT_io AT_tx AT_rd AT_fo AT_fi AT_he_sl AT_he_fl AT_he_ro AT_he_nt AT_he_mk AT_he_mo AT_he_sl_c AT_he_mk_c vT_ab vT_be vT_bo vT_no vT_fu vT_he_ng vT_he_sl_n vT_he_mk_n fT_he_mk_c) H := hP
  have hD : va_D A (wd_X7_mark cI cZ AT AT_he AT_iz AT_io AT_tx AT_rd AT_fo AT_fi AT_he_sl AT_he_fl AT_he_ro AT_he_nt AT_he_mk AT_he_mo AT_he_sl_c AT_he_mk_c vT_ab vT_be vT_bo vT_no vT_fu vT_he_ng vT_he_sl_n vT_he_mk_n fT_he_mk_c) := hD
  refine lv_if_eq (tgt := 39) hx hb dX7_mark_5 (by decide) (fun c_5 => ?_) (fun c_5 => ?_)
  · have hm := it_s c_5 hm
    refine lv_aload_n hx hb dX7_mark_39 rfl (lv_at hl 0 rfl) ?_
    refine lv_bipush (v := (-2)) hx hb dX7_mark_40 (by decide) ?_
    obtain ⟨r_42, hc_42, hm⟩ := ob_s hm
    refine q_ci (q_rv (rest := []) ⟨hx, hb, hml, hown, hts⟩ hK hN hP hD (c_X7_refused l D cI cZ H.size AT AT_he AT_iz AT_io AT_tx AT_rd AT_fo AT_fi vT_ab vT_be vT_bo vT_no vT_fu (-2) r_42 hc_42) mb_X7_refused mv_X7_refused wl_X7_81 [0] rfl rfl rfl (Nat.le_of_ble_eq_true rfl) (Nat.le_of_ble_eq_true rfl) rfl hl.1 rfl (Nat.le_of_ble_eq_true rfl) ⟨Nat.le_refl 0, Nat.le_refl 0⟩ dX7_mark_42) hP hD hS hA [0] rfl rfl (fun H locs hP hD hS => ?_)
    have hP : va_P D vwCl (wd_X7_mark cI cZ AT AT_he AT_iz AT_io AT_tx AT_rd AT_fo AT_fi AT_he_sl AT_he_fl AT_he_ro AT_he_nt AT_he_mk AT_he_mo AT_he_sl_c AT_he_mk_c vT_ab vT_be r_42.2.1 r_42.2.2.1 r_42.2.2.2 vT_he_ng vT_he_sl_n vT_he_mk_n fT_he_mk_c) H := hP
    have hD : va_D A (wd_X7_mark cI cZ AT AT_he AT_iz AT_io AT_tx AT_rd AT_fo AT_fi AT_he_sl AT_he_fl AT_he_ro AT_he_nt AT_he_mk AT_he_mo AT_he_sl_c AT_he_mk_c vT_ab vT_be r_42.2.1 r_42.2.2.1 r_42.2.2.2 vT_he_ng vT_he_sl_n vT_he_mk_n fT_he_mk_c) := hD
    have hm := Option.some.inj hm
    subst hm
    exact q_iret (v := r_42.1) hx hb hr hlocks hP hS dX7_mark_45
  · have hm := it_n c_5 hm
    refine lv_iload_n hx hb dX7_mark_8 rfl (lv_at hl 2 rfl) ?_
    refine lv_iconst (v := 0) hx hb dX7_mark_9 (by decide) ?_
    refine lv_bipush (v := 20) hx hb dX7_mark_10 (by decide) ?_
    obtain ⟨r_12, hc_12, hm⟩ := ob_s hm
    refine q_ci (q_rs (rest := []) ⟨hx, hb, hml, hown, hts⟩ hK hN hP hD (c_X7_within l D cI cZ H.size p2 0 20 r_12 hc_12) mb_X7_within wt_X7_within wl_X7_77 [] rfl rfl (Nat.le_of_ble_eq_true rfl) (Nat.le_of_ble_eq_true rfl) rfl hl.1 rfl (Nat.le_of_ble_eq_true rfl) ⟨Nat.le_refl 0, Nat.le_refl 0⟩ dX7_mark_12) hP hD hS hA [] rfl rfl (fun H locs hP hD hS => ?_)
    have hP : va_P D vwCl (wd_X7_mark cI cZ AT AT_he AT_iz AT_io AT_tx AT_rd AT_fo AT_fi AT_he_sl AT_he_fl AT_he_ro AT_he_nt AT_he_mk AT_he_mo AT_he_sl_c AT_he_mk_c vT_ab vT_be vT_bo vT_no vT_fu vT_he_ng vT_he_sl_n vT_he_mk_n fT_he_mk_c) H := hP
    have hD : va_D A (wd_X7_mark cI cZ AT AT_he AT_iz AT_io AT_tx AT_rd AT_fo AT_fi AT_he_sl AT_he_fl AT_he_ro AT_he_nt AT_he_mk AT_he_mo AT_he_sl_c AT_he_mk_c vT_ab vT_be vT_bo vT_no vT_fu vT_he_ng vT_he_sl_n vT_he_mk_n fT_he_mk_c) := hD
    refine lv_if_eq (tgt := 39) hx hb dX7_mark_15 (by decide) (fun c_15 => ?_) (fun c_15 => ?_)
    · have hm := it_s c_15 hm
      refine lv_aload_n hx hb dX7_mark_39 rfl (lv_at hl 0 rfl) ?_
      refine lv_bipush (v := (-2)) hx hb dX7_mark_40 (by decide) ?_
      obtain ⟨r_42, hc_42, hm⟩ := ob_s hm
      refine q_ci (q_rv (rest := []) ⟨hx, hb, hml, hown, hts⟩ hK hN hP hD (c_X7_refused l D cI cZ H.size AT AT_he AT_iz AT_io AT_tx AT_rd AT_fo AT_fi vT_ab vT_be vT_bo vT_no vT_fu (-2) r_42 hc_42) mb_X7_refused mv_X7_refused wl_X7_81 [0] rfl rfl rfl (Nat.le_of_ble_eq_true rfl) (Nat.le_of_ble_eq_true rfl) rfl hl.1 rfl (Nat.le_of_ble_eq_true rfl) ⟨Nat.le_refl 0, Nat.le_refl 0⟩ dX7_mark_42) hP hD hS hA [0] rfl rfl (fun H locs hP hD hS => ?_)
      have hP : va_P D vwCl (wd_X7_mark cI cZ AT AT_he AT_iz AT_io AT_tx AT_rd AT_fo AT_fi AT_he_sl AT_he_fl AT_he_ro AT_he_nt AT_he_mk AT_he_mo AT_he_sl_c AT_he_mk_c vT_ab vT_be r_42.2.1 r_42.2.2.1 r_42.2.2.2 vT_he_ng vT_he_sl_n vT_he_mk_n fT_he_mk_c) H := hP
      have hD : va_D A (wd_X7_mark cI cZ AT AT_he AT_iz AT_io AT_tx AT_rd AT_fo AT_fi AT_he_sl AT_he_fl AT_he_ro AT_he_nt AT_he_mk AT_he_mo AT_he_sl_c AT_he_mk_c vT_ab vT_be r_42.2.1 r_42.2.2.1 r_42.2.2.2 vT_he_ng vT_he_sl_n vT_he_mk_n fT_he_mk_c) := hD
      have hm := Option.some.inj hm
      subst hm
      exact q_iret (v := r_42.1) hx hb hr hlocks hP hS dX7_mark_45
    · have hm := it_n c_15 hm
      refine lv_iload_n hx hb dX7_mark_18 rfl (lv_at hl 3 rfl) ?_
      refine lv_iconst (v := 0) hx hb dX7_mark_19 (by decide) ?_
      refine lv_bipush (v := 9) hx hb dX7_mark_20 (by decide) ?_
      obtain ⟨r_22, hc_22, hm⟩ := ob_s hm
      refine q_ci (q_rs (rest := []) ⟨hx, hb, hml, hown, hts⟩ hK hN hP hD (c_X7_within l D cI cZ H.size p3 0 9 r_22 hc_22) mb_X7_within wt_X7_within wl_X7_77 [] rfl rfl (Nat.le_of_ble_eq_true rfl) (Nat.le_of_ble_eq_true rfl) rfl hl.1 rfl (Nat.le_of_ble_eq_true rfl) ⟨Nat.le_refl 0, Nat.le_refl 0⟩ dX7_mark_22) hP hD hS hA [] rfl rfl (fun H locs hP hD hS => ?_)
      have hP : va_P D vwCl (wd_X7_mark cI cZ AT AT_he AT_iz AT_io AT_tx AT_rd AT_fo AT_fi AT_he_sl AT_he_fl AT_he_ro AT_he_nt AT_he_mk AT_he_mo AT_he_sl_c AT_he_mk_c vT_ab vT_be vT_bo vT_no vT_fu vT_he_ng vT_he_sl_n vT_he_mk_n fT_he_mk_c) H := hP
      have hD : va_D A (wd_X7_mark cI cZ AT AT_he AT_iz AT_io AT_tx AT_rd AT_fo AT_fi AT_he_sl AT_he_fl AT_he_ro AT_he_nt AT_he_mk AT_he_mo AT_he_sl_c AT_he_mk_c vT_ab vT_be vT_bo vT_no vT_fu vT_he_ng vT_he_sl_n vT_he_mk_n fT_he_mk_c) := hD
      refine lv_if_eq (tgt := 39) hx hb dX7_mark_25 (by decide) (fun c_25 => ?_) (fun c_25 => ?_)
      · have hm := it_s c_25 hm
        refine lv_aload_n hx hb dX7_mark_39 rfl (lv_at hl 0 rfl) ?_
        refine lv_bipush (v := (-2)) hx hb dX7_mark_40 (by decide) ?_
        obtain ⟨r_42, hc_42, hm⟩ := ob_s hm
        refine q_ci (q_rv (rest := []) ⟨hx, hb, hml, hown, hts⟩ hK hN hP hD (c_X7_refused l D cI cZ H.size AT AT_he AT_iz AT_io AT_tx AT_rd AT_fo AT_fi vT_ab vT_be vT_bo vT_no vT_fu (-2) r_42 hc_42) mb_X7_refused mv_X7_refused wl_X7_81 [0] rfl rfl rfl (Nat.le_of_ble_eq_true rfl) (Nat.le_of_ble_eq_true rfl) rfl hl.1 rfl (Nat.le_of_ble_eq_true rfl) ⟨Nat.le_refl 0, Nat.le_refl 0⟩ dX7_mark_42) hP hD hS hA [0] rfl rfl (fun H locs hP hD hS => ?_)
        have hP : va_P D vwCl (wd_X7_mark cI cZ AT AT_he AT_iz AT_io AT_tx AT_rd AT_fo AT_fi AT_he_sl AT_he_fl AT_he_ro AT_he_nt AT_he_mk AT_he_mo AT_he_sl_c AT_he_mk_c vT_ab vT_be r_42.2.1 r_42.2.2.1 r_42.2.2.2 vT_he_ng vT_he_sl_n vT_he_mk_n fT_he_mk_c) H := hP
        have hD : va_D A (wd_X7_mark cI cZ AT AT_he AT_iz AT_io AT_tx AT_rd AT_fo AT_fi AT_he_sl AT_he_fl AT_he_ro AT_he_nt AT_he_mk AT_he_mo AT_he_sl_c AT_he_mk_c vT_ab vT_be r_42.2.1 r_42.2.2.1 r_42.2.2.2 vT_he_ng vT_he_sl_n vT_he_mk_n fT_he_mk_c) := hD
        have hm := Option.some.inj hm
        subst hm
        exact q_iret (v := r_42.1) hx hb hr hlocks hP hS dX7_mark_45
      · have hm := it_n c_25 hm
        refine lv_iload hx hb dX7_mark_28 (lv_at hl 4 rfl) ?_
        refine lv_iconst (v := 0) hx hb dX7_mark_30 (by decide) ?_
        refine lv_bipush (v := 50) hx hb dX7_mark_31 (by decide) ?_
        obtain ⟨r_33, hc_33, hm⟩ := ob_s hm
        refine q_ci (q_rs (rest := []) ⟨hx, hb, hml, hown, hts⟩ hK hN hP hD (c_X7_within l D cI cZ H.size p4 0 50 r_33 hc_33) mb_X7_within wt_X7_within wl_X7_77 [] rfl rfl (Nat.le_of_ble_eq_true rfl) (Nat.le_of_ble_eq_true rfl) rfl hl.1 rfl (Nat.le_of_ble_eq_true rfl) ⟨Nat.le_refl 0, Nat.le_refl 0⟩ dX7_mark_33) hP hD hS hA [] rfl rfl (fun H locs hP hD hS => ?_)
        have hP : va_P D vwCl (wd_X7_mark cI cZ AT AT_he AT_iz AT_io AT_tx AT_rd AT_fo AT_fi AT_he_sl AT_he_fl AT_he_ro AT_he_nt AT_he_mk AT_he_mo AT_he_sl_c AT_he_mk_c vT_ab vT_be vT_bo vT_no vT_fu vT_he_ng vT_he_sl_n vT_he_mk_n fT_he_mk_c) H := hP
        have hD : va_D A (wd_X7_mark cI cZ AT AT_he AT_iz AT_io AT_tx AT_rd AT_fo AT_fi AT_he_sl AT_he_fl AT_he_ro AT_he_nt AT_he_mk AT_he_mo AT_he_sl_c AT_he_mk_c vT_ab vT_be vT_bo vT_no vT_fu vT_he_ng vT_he_sl_n vT_he_mk_n fT_he_mk_c) := hD
        refine lv_if_ne (tgt := 46) hx hb dX7_mark_36 (by decide) (fun c_36 => ?_) (fun c_36 => ?_)
        · have hm := it_n c_36 hm
          refine lv_aload_n hx hb dX7_mark_46 rfl (lv_at hl 0 rfl) ?_
          refine gf_X7_17 (v := .ref AT_he) hx hb hts hown hK hN hP 0 rfl rfl dX7_mark_47 ?_
          refine gf_X7_204 (v := .ref AT_he_mk) hx hb hts hown hK hN hP 1 rfl rfl dX7_mark_50 ?_
          obtain ⟨r_53, hc_53, hm⟩ := ob_s hm
          refine q_ci (q_rv (rest := []) ⟨hx, hb, hml, hown, hts⟩ hK hN hP hD (c_X3_isFull l D cI cZ H.size AT_he_mk AT_he_mk_c 4 24 vT_he_mk_n fT_he_mk_c r_53 hc_53) mb_X3_isFull mv_X3_isFull wl_X7_85 [3, 4] rfl rfl rfl (Nat.le_of_ble_eq_true rfl) (Nat.le_of_ble_eq_true rfl) rfl hl.1 rfl (Nat.le_of_ble_eq_true rfl) ⟨Nat.le_refl 0, Nat.le_refl 0⟩ dX7_mark_53) hP hD hS hA [3, 4] rfl rfl (fun H locs hP hD hS => ?_)
          have hP : va_P D vwCl (wd_X7_mark cI cZ AT AT_he AT_iz AT_io AT_tx AT_rd AT_fo AT_fi AT_he_sl AT_he_fl AT_he_ro AT_he_nt AT_he_mk AT_he_mo AT_he_sl_c AT_he_mk_c vT_ab vT_be vT_bo vT_no vT_fu vT_he_ng vT_he_sl_n vT_he_mk_n fT_he_mk_c) H := hP
          have hD : va_D A (wd_X7_mark cI cZ AT AT_he AT_iz AT_io AT_tx AT_rd AT_fo AT_fi AT_he_sl AT_he_fl AT_he_ro AT_he_nt AT_he_mk AT_he_mo AT_he_sl_c AT_he_mk_c vT_ab vT_be vT_bo vT_no vT_fu vT_he_ng vT_he_sl_n vT_he_mk_n fT_he_mk_c) := hD
          refine lv_if_eq (tgt := 66) hx hb dX7_mark_56 (by decide) (fun c_56 => ?_) (fun c_56 => ?_)
          · have hm := it_s c_56 hm
            refine lv_aload_n hx hb dX7_mark_66 rfl (lv_at hl 0 rfl) ?_
            refine gf_X7_17 (v := .ref AT_he) hx hb hts hown hK hN hP 0 rfl rfl dX7_mark_67 ?_
            refine gf_X7_204 (v := .ref AT_he_mk) hx hb hts hown hK hN hP 1 rfl rfl dX7_mark_70 ?_
            refine lv_iload_n hx hb dX7_mark_73 rfl (lv_at hl 1 rfl) ?_
            refine lv_iload_n hx hb dX7_mark_74 rfl (lv_at hl 2 rfl) ?_
            refine lv_iload_n hx hb dX7_mark_75 rfl (lv_at hl 3 rfl) ?_
            refine lv_iload hx hb dX7_mark_76 (lv_at hl 4 rfl) ?_
            obtain ⟨r_78, hc_78, hm⟩ := ob_s hm
            refine q_cv (q_rv (rest := []) ⟨hx, hb, hml, hown, hts⟩ hK hN hP hD (c_X3_add l D cI cZ H.size AT_he_mk AT_he_mk_c 4 24 vT_he_mk_n fT_he_mk_c p1 p2 p3 p4 r_78 hc_78) mb_X3_add mv_X3_add wl_X7_103 [3, 4] rfl rfl rfl (Nat.le_of_ble_eq_true rfl) (Nat.le_of_ble_eq_true rfl) rfl hl.1 rfl (Nat.le_of_ble_eq_true rfl) ⟨Nat.le_refl 0, Nat.le_refl 0⟩ dX7_mark_78) hP hD hS hA [3, 4] rfl rfl (fun H locs hP hD hS => ?_)
            have hP : va_P D vwCl (wd_X7_mark cI cZ AT AT_he AT_iz AT_io AT_tx AT_rd AT_fo AT_fi AT_he_sl AT_he_fl AT_he_ro AT_he_nt AT_he_mk AT_he_mo AT_he_sl_c AT_he_mk_c vT_ab vT_be vT_bo vT_no vT_fu vT_he_ng vT_he_sl_n r_78.1 r_78.2) H := hP
            have hD : va_D A (wd_X7_mark cI cZ AT AT_he AT_iz AT_io AT_tx AT_rd AT_fo AT_fi AT_he_sl AT_he_fl AT_he_ro AT_he_nt AT_he_mk AT_he_mo AT_he_sl_c AT_he_mk_c vT_ab vT_be vT_bo vT_no vT_fu vT_he_ng vT_he_sl_n r_78.1 r_78.2) := hD
            refine lv_aload_n hx hb dX7_mark_81 rfl (lv_at hl 0 rfl) ?_
            refine gf_X7_17 (v := .ref AT_he) hx hb hts hown hK hN hP 0 rfl rfl dX7_mark_82 ?_
            refine gf_X7_204 (v := .ref AT_he_mk) hx hb hts hown hK hN hP 1 rfl rfl dX7_mark_85 ?_
            obtain ⟨r_88, hc_88, hm⟩ := ob_s hm
            refine q_ci (q_rv (rest := []) ⟨hx, hb, hml, hown, hts⟩ hK hN hP hD (c_X3_size l D cI cZ H.size AT_he_mk AT_he_mk_c 4 r_78.1 r_88 hc_88) mb_X3_size mv_X3_size wl_X7_70 [3] rfl rfl rfl (Nat.le_of_ble_eq_true rfl) (Nat.le_of_ble_eq_true rfl) rfl hl.1 rfl (Nat.le_of_ble_eq_true rfl) ⟨Nat.le_refl 0, Nat.le_refl 0⟩ dX7_mark_88) hP hD hS hA [3] rfl rfl (fun H locs hP hD hS => ?_)
            have hP : va_P D vwCl (wd_X7_mark cI cZ AT AT_he AT_iz AT_io AT_tx AT_rd AT_fo AT_fi AT_he_sl AT_he_fl AT_he_ro AT_he_nt AT_he_mk AT_he_mo AT_he_sl_c AT_he_mk_c vT_ab vT_be vT_bo vT_no vT_fu vT_he_ng vT_he_sl_n r_78.1 r_78.2) H := hP
            have hD : va_D A (wd_X7_mark cI cZ AT AT_he AT_iz AT_io AT_tx AT_rd AT_fo AT_fi AT_he_sl AT_he_fl AT_he_ro AT_he_nt AT_he_mk AT_he_mo AT_he_sl_c AT_he_mk_c vT_ab vT_be vT_bo vT_no vT_fu vT_he_ng vT_he_sl_n r_78.1 r_78.2) := hD
            have hm := Option.some.inj hm
            subst hm
            exact q_iret (v := r_88) hx hb hr hlocks hP hS dX7_mark_91
          · have hm := it_n c_56 hm
            refine lv_aload_n hx hb dX7_mark_59 rfl (lv_at hl 0 rfl) ?_
            refine lv_bipush (v := (-4)) hx hb dX7_mark_60 (by decide) ?_
            obtain ⟨r_62, hc_62, hm⟩ := ob_s hm
            refine q_ci (q_rv (rest := []) ⟨hx, hb, hml, hown, hts⟩ hK hN hP hD (c_X7_refused l D cI cZ H.size AT AT_he AT_iz AT_io AT_tx AT_rd AT_fo AT_fi vT_ab vT_be vT_bo vT_no vT_fu (-4) r_62 hc_62) mb_X7_refused mv_X7_refused wl_X7_81 [0] rfl rfl rfl (Nat.le_of_ble_eq_true rfl) (Nat.le_of_ble_eq_true rfl) rfl hl.1 rfl (Nat.le_of_ble_eq_true rfl) ⟨Nat.le_refl 0, Nat.le_refl 0⟩ dX7_mark_62) hP hD hS hA [0] rfl rfl (fun H locs hP hD hS => ?_)
            have hP : va_P D vwCl (wd_X7_mark cI cZ AT AT_he AT_iz AT_io AT_tx AT_rd AT_fo AT_fi AT_he_sl AT_he_fl AT_he_ro AT_he_nt AT_he_mk AT_he_mo AT_he_sl_c AT_he_mk_c vT_ab vT_be r_62.2.1 r_62.2.2.1 r_62.2.2.2 vT_he_ng vT_he_sl_n vT_he_mk_n fT_he_mk_c) H := hP
            have hD : va_D A (wd_X7_mark cI cZ AT AT_he AT_iz AT_io AT_tx AT_rd AT_fo AT_fi AT_he_sl AT_he_fl AT_he_ro AT_he_nt AT_he_mk AT_he_mo AT_he_sl_c AT_he_mk_c vT_ab vT_be r_62.2.1 r_62.2.2.1 r_62.2.2.2 vT_he_ng vT_he_sl_n vT_he_mk_n fT_he_mk_c) := hD
            have hm := Option.some.inj hm
            subst hm
            exact q_iret (v := r_62.1) hx hb hr hlocks hP hS dX7_mark_65
        · have hm := it_s c_36 hm
          refine lv_aload_n hx hb dX7_mark_39 rfl (lv_at hl 0 rfl) ?_
          refine lv_bipush (v := (-2)) hx hb dX7_mark_40 (by decide) ?_
          obtain ⟨r_42, hc_42, hm⟩ := ob_s hm
          refine q_ci (q_rv (rest := []) ⟨hx, hb, hml, hown, hts⟩ hK hN hP hD (c_X7_refused l D cI cZ H.size AT AT_he AT_iz AT_io AT_tx AT_rd AT_fo AT_fi vT_ab vT_be vT_bo vT_no vT_fu (-2) r_42 hc_42) mb_X7_refused mv_X7_refused wl_X7_81 [0] rfl rfl rfl (Nat.le_of_ble_eq_true rfl) (Nat.le_of_ble_eq_true rfl) rfl hl.1 rfl (Nat.le_of_ble_eq_true rfl) ⟨Nat.le_refl 0, Nat.le_refl 0⟩ dX7_mark_42) hP hD hS hA [0] rfl rfl (fun H locs hP hD hS => ?_)
          have hP : va_P D vwCl (wd_X7_mark cI cZ AT AT_he AT_iz AT_io AT_tx AT_rd AT_fo AT_fi AT_he_sl AT_he_fl AT_he_ro AT_he_nt AT_he_mk AT_he_mo AT_he_sl_c AT_he_mk_c vT_ab vT_be r_42.2.1 r_42.2.2.1 r_42.2.2.2 vT_he_ng vT_he_sl_n vT_he_mk_n fT_he_mk_c) H := hP
          have hD : va_D A (wd_X7_mark cI cZ AT AT_he AT_iz AT_io AT_tx AT_rd AT_fo AT_fi AT_he_sl AT_he_fl AT_he_ro AT_he_nt AT_he_mk AT_he_mo AT_he_sl_c AT_he_mk_c vT_ab vT_be r_42.2.1 r_42.2.2.1 r_42.2.2.2 vT_he_ng vT_he_sl_n vT_he_mk_n fT_he_mk_c) := hD
          have hm := Option.some.inj hm
          subst hm
          exact q_iret (v := r_42.1) hx hb hr hlocks hP hS dX7_mark_45
theorem mb_X7_forget : q_mb yX7_forget cX7_forget 4 (some .int) 1 := ⟨wc_X7_forget, wn_X7, by decide, by decide, by decide +kernel⟩
theorem mv_X7_forget : q_mv yX7_forget 7 := ⟨wi_X7_forget, ws_X7_forget, _, rfl, rfl⟩
def wd_X7_forget (cI cZ : ClassId) (AT AT_he AT_iz AT_io AT_tx AT_rd AT_fo AT_fi AT_he_sl AT_he_fl AT_he_ro AT_he_nt AT_he_mk AT_he_mo AT_he_mk_c AT_he_nt_c AT_he_ro_c : Nat) (vT_ab : Int32) (vT_be : Int32) (vT_bo : Int32) (vT_no : Int32) (vT_fu : Int32) (vT_he_ng : Int32) (vT_he_mk_n : Int32) (vT_he_nt_n : Int32) (vT_he_ro_n : Int32) : va_W := [(AT, .inr (7, [.ref AT_he, .ref AT_iz, .ref AT_io, .ref AT_tx, .ref AT_rd, .ref AT_fo, .ref AT_fi, .int vT_ab, .int vT_be, .int vT_bo, .int vT_no, .int vT_fu])), (AT_he, .inr (4, [.ref AT_he_sl, .ref AT_he_fl, .ref AT_he_ro, .ref AT_he_nt, .ref AT_he_mk, .ref AT_he_mo, .int vT_he_ng])), (AT_he_mk, .inr (3, [.int 4, .ref AT_he_mk_c, .int vT_he_mk_n])), (AT_he_nt, .inr (3, [.int 4, .ref AT_he_nt_c, .int vT_he_nt_n])), (AT_he_ro, .inr (3, [.int 3, .ref AT_he_ro_c, .int vT_he_ro_n]))]
def fm_X7_forget (p1 : Int32) (vT_bo : Int32) (vT_no : Int32) (vT_fu : Int32) (vT_he_mk_n : Int32) (vT_he_nt_n : Int32) (vT_he_ro_n : Int32) : Option (Int32 × Int32 × Int32 × Int32 × Int32 × Int32 × Int32) := Option.bind (fm_X7_within p1 0 2) (fun r_3 => if r_3 = 0 then (Option.bind (fm_X7_refused (-2) vT_bo vT_no vT_fu) (fun r_12 => some (r_12.1, r_12.2.1, r_12.2.2.1, r_12.2.2.2, vT_he_mk_n, vT_he_nt_n, vT_he_ro_n))) else (if p1 = 0 then (Option.bind (fm_X3_size vT_he_ro_n) (fun r_54 => Option.bind (fm_X3_empty vT_he_ro_n) (fun r_59 => some (r_54, vT_bo, vT_no, vT_fu, vT_he_mk_n, vT_he_nt_n, r_59)))) else (if p1 = 1 then (Option.bind (fm_X3_size vT_he_nt_n) (fun r_54 => Option.bind (fm_X3_empty vT_he_nt_n) (fun r_59 => some (r_54, vT_bo, vT_no, vT_fu, vT_he_mk_n, r_59, vT_he_ro_n)))) else (Option.bind (fm_X3_size vT_he_mk_n) (fun r_54 => Option.bind (fm_X3_empty vT_he_mk_n) (fun r_59 => some (r_54, vT_bo, vT_no, vT_fu, r_59, vT_he_nt_n, vT_he_ro_n)))))))
set_option maxHeartbeats 4000000 in
set_option maxRecDepth 100000 in
theorem c_X7_forget (l : Launch) (D : va_G) (cI cZ : ClassId) (sz : Nat) (AT AT_he AT_iz AT_io AT_tx AT_rd AT_fo AT_fi AT_he_sl AT_he_fl AT_he_ro AT_he_nt AT_he_mk AT_he_mo AT_he_mk_c AT_he_nt_c AT_he_ro_c : Nat) (vT_ab : Int32) (vT_be : Int32) (vT_bo : Int32) (vT_no : Int32) (vT_fu : Int32) (vT_he_ng : Int32) (vT_he_mk_n : Int32) (vT_he_nt_n : Int32) (vT_he_ro_n : Int32) (p1 : Int32) (out : (Int32 × Int32 × Int32 × Int32 × Int32 × Int32 × Int32)) (hm : fm_X7_forget p1 vT_bo vT_no vT_fu vT_he_mk_n vT_he_nt_n vT_he_ro_n = some out) : Met l yX7_forget (Cond.code yX7_forget cX7_forget 4 (some .int) :: bg) { frames := 1, cells := 0, slots := 0, locals := 22 } (va_Pc [.ref AT, .int p1] (q_pre D cI cZ sz (wd_X7_forget cI cZ AT AT_he AT_iz AT_io AT_tx AT_rd AT_fo AT_fi AT_he_sl AT_he_fl AT_he_ro AT_he_nt AT_he_mk AT_he_mo AT_he_mk_c AT_he_nt_c AT_he_ro_c vT_ab vT_be vT_bo vT_no vT_fu vT_he_ng vT_he_mk_n vT_he_nt_n vT_he_ro_n))) (q_Qi D (wd_X7_forget cI cZ AT AT_he AT_iz AT_io AT_tx AT_rd AT_fo AT_fi AT_he_sl AT_he_fl AT_he_ro AT_he_nt AT_he_mk AT_he_mo AT_he_mk_c AT_he_nt_c AT_he_ro_c vT_ab vT_be out.2.1 out.2.2.1 out.2.2.2.1 vT_he_ng out.2.2.2.2.1 out.2.2.2.2.2.1 out.2.2.2.2.2.2) out.1 (va_A (wd_X7_forget cI cZ AT AT_he AT_iz AT_io AT_tx AT_rd AT_fo AT_fi AT_he_sl AT_he_fl AT_he_ro AT_he_nt AT_he_mk AT_he_mo AT_he_mk_c AT_he_nt_c AT_he_ro_c vT_ab vT_be vT_bo vT_no vT_fu vT_he_ng vT_he_mk_n vT_he_nt_n vT_he_ro_n) sz)) 0 0 (va_A (wd_X7_forget cI cZ AT AT_he AT_iz AT_io AT_tx AT_rd AT_fo AT_fi AT_he_sl AT_he_fl AT_he_ro AT_he_nt AT_he_mk AT_he_mo AT_he_mk_c AT_he_nt_c AT_he_ro_c vT_ab vT_be vT_bo vT_no vT_fu vT_he_ng vT_he_mk_n vT_he_nt_n vT_he_ro_n) sz) := by
  refine q_met (fun A => q_Qi D (wd_X7_forget cI cZ AT AT_he AT_iz AT_io AT_tx AT_rd AT_fo AT_fi AT_he_sl AT_he_fl AT_he_ro AT_he_nt AT_he_mk AT_he_mo AT_he_mk_c AT_he_nt_c AT_he_ro_c vT_ab vT_be out.2.1 out.2.2.1 out.2.2.2.1 vT_he_ng out.2.2.2.2.1 out.2.2.2.2.2.1 out.2.2.2.2.2.2) out.1 A) (by decide) (Nat.le_of_ble_eq_true rfl) ?_
  intro p e s m below meth c ls A hx hb hr hml hown hts hlocks _ hA hS hP hD hK hN hl
  have hown : s.vm.findClass RX7 = some m.cls := hown
  have hl : lv_has ls 4 [(0, .ref AT), (1, .int p1)] := hl
  unfold fm_X7_forget at hm
  refine q_gen hS hP ?_
  intro H locs hP hS
  refine lv_iload_n hx hb dX7_forget_0 rfl (lv_at hl 1 rfl) ?_
  refine lv_iconst (v := 0) hx hb dX7_forget_1 (by decide) ?_
  refine lv_iconst (v := 2) hx hb dX7_forget_2 (by decide) ?_
  obtain ⟨r_3, hc_3, hm⟩ := ob_s hm
  refine q_ci (q_rs (rest := []) ⟨hx, hb, hml, hown, hts⟩ hK hN hP hD (c_X7_within l D cI cZ H.size p1 0 2 r_3 hc_3) mb_X7_within wt_X7_within wl_X7_77 [] rfl rfl (Nat.le_of_ble_eq_true rfl) (Nat.le_of_ble_eq_true rfl) rfl hl.1 rfl (Nat.le_of_ble_eq_true rfl) ⟨Nat.le_refl 0, Nat.le_refl 0⟩ dX7_forget_3) hP hD hS hA [] rfl rfl (fun H locs hP hD hS => ?_)
  have hP : va_P D vwCl (wd_X7_forget cI cZ AT AT_he AT_iz AT_io AT_tx AT_rd AT_fo AT_fi AT_he_sl AT_he_fl AT_he_ro AT_he_nt AT_he_mk AT_he_mo AT_he_mk_c AT_he_nt_c AT_he_ro_c vT_ab vT_be vT_bo vT_no vT_fu vT_he_ng vT_he_mk_n vT_he_nt_n vT_he_ro_n) H := hP
  have hD : va_D A (wd_X7_forget cI cZ AT AT_he AT_iz AT_io AT_tx AT_rd AT_fo AT_fi AT_he_sl AT_he_fl AT_he_ro AT_he_nt AT_he_mk AT_he_mo AT_he_mk_c AT_he_nt_c AT_he_ro_c vT_ab vT_be vT_bo vT_no vT_fu vT_he_ng vT_he_mk_n vT_he_nt_n vT_he_ro_n) := hD
  refine lv_if_ne (tgt := 16) hx hb dX7_forget_6 (by decide) (fun c_6 => ?_) (fun c_6 => ?_)
  · have hm := it_n c_6 hm
    refine lv_iload_n hx hb dX7_forget_16 rfl (lv_at hl 1 rfl) ?_
    refine lv_if_ne (tgt := 30) hx hb dX7_forget_17 (by decide) (fun c_17 => ?_) (fun c_17 => ?_)
    · have hm := it_n c_17 hm
      refine lv_iload_n hx hb dX7_forget_30 rfl (lv_at hl 1 rfl) ?_
      refine lv_iconst (v := 1) hx hb dX7_forget_31 (by decide) ?_
      refine lv_icmp_ne (tgt := 45) hx hb dX7_forget_32 (by decide) (fun c_32 => ?_) (fun c_32 => ?_)
      · have hm := it_n c_32 hm
        refine lv_aload_n hx hb dX7_forget_45 rfl (lv_at hl 0 rfl) ?_
        refine gf_X7_17 (v := .ref AT_he) hx hb hts hown hK hN hP 0 rfl rfl dX7_forget_46 ?_
        refine gf_X7_204 (v := .ref AT_he_mk) hx hb hts hown hK hN hP 1 rfl rfl dX7_forget_49 ?_
        refine lv_astore_n (lv' := [(2, .ref AT_he_mk), (0, .ref AT), (1, .int p1)]) hx hb dX7_forget_52 rfl hl (by decide) rfl (fun ls hl => ?_)
        refine lv_aload_n hx hb dX7_forget_53 rfl (lv_at hl 0 rfl) ?_
        obtain ⟨r_54, hc_54, hm⟩ := ob_s hm
        refine q_ci (q_rv (rest := []) ⟨hx, hb, hml, hown, hts⟩ hK hN hP hD (c_X3_size l D cI cZ H.size AT_he_mk AT_he_mk_c 4 vT_he_mk_n r_54 hc_54) mb_X3_size mv_X3_size wl_X7_70 [2] rfl rfl rfl (Nat.le_of_ble_eq_true rfl) (Nat.le_of_ble_eq_true rfl) rfl hl.1 rfl (Nat.le_of_ble_eq_true rfl) ⟨Nat.le_refl 0, Nat.le_refl 0⟩ dX7_forget_54) hP hD hS hA [2] rfl rfl (fun H locs hP hD hS => ?_)
        have hP : va_P D vwCl (wd_X7_forget cI cZ AT AT_he AT_iz AT_io AT_tx AT_rd AT_fo AT_fi AT_he_sl AT_he_fl AT_he_ro AT_he_nt AT_he_mk AT_he_mo AT_he_mk_c AT_he_nt_c AT_he_ro_c vT_ab vT_be vT_bo vT_no vT_fu vT_he_ng vT_he_mk_n vT_he_nt_n vT_he_ro_n) H := hP
        have hD : va_D A (wd_X7_forget cI cZ AT AT_he AT_iz AT_io AT_tx AT_rd AT_fo AT_fi AT_he_sl AT_he_fl AT_he_ro AT_he_nt AT_he_mk AT_he_mo AT_he_mk_c AT_he_nt_c AT_he_ro_c vT_ab vT_be vT_bo vT_no vT_fu vT_he_ng vT_he_mk_n vT_he_nt_n vT_he_ro_n) := hD
        refine lv_istore_n (lv' := [(3, .int r_54), (2, .ref AT_he_mk), (0, .ref AT), (1, .int p1)]) hx hb dX7_forget_57 rfl hl (by decide) rfl (fun ls hl => ?_)
        refine lv_aload_n hx hb dX7_forget_58 rfl (lv_at hl 1 rfl) ?_
        obtain ⟨r_59, hc_59, hm⟩ := ob_s hm
        refine q_cv (q_rv (rest := []) ⟨hx, hb, hml, hown, hts⟩ hK hN hP hD (c_X3_empty l D cI cZ H.size AT_he_mk AT_he_mk_c 4 vT_he_mk_n r_59 hc_59) mb_X3_empty mv_X3_empty wl_X7_107 [2] rfl rfl rfl (Nat.le_of_ble_eq_true rfl) (Nat.le_of_ble_eq_true rfl) rfl hl.1 rfl (Nat.le_of_ble_eq_true rfl) ⟨Nat.le_refl 0, Nat.le_refl 0⟩ dX7_forget_59) hP hD hS hA [2] rfl rfl (fun H locs hP hD hS => ?_)
        have hP : va_P D vwCl (wd_X7_forget cI cZ AT AT_he AT_iz AT_io AT_tx AT_rd AT_fo AT_fi AT_he_sl AT_he_fl AT_he_ro AT_he_nt AT_he_mk AT_he_mo AT_he_mk_c AT_he_nt_c AT_he_ro_c vT_ab vT_be vT_bo vT_no vT_fu vT_he_ng r_59 vT_he_nt_n vT_he_ro_n) H := hP
        have hD : va_D A (wd_X7_forget cI cZ AT AT_he AT_iz AT_io AT_tx AT_rd AT_fo AT_fi AT_he_sl AT_he_fl AT_he_ro AT_he_nt AT_he_mk AT_he_mo AT_he_mk_c AT_he_nt_c AT_he_ro_c vT_ab vT_be vT_bo vT_no vT_fu vT_he_ng r_59 vT_he_nt_n vT_he_ro_n) := hD
        refine lv_iload_n hx hb dX7_forget_62 rfl (lv_at hl 0 rfl) ?_
        have hm := Option.some.inj hm
        subst hm
        exact q_iret (v := r_54) hx hb hr hlocks hP hS dX7_forget_63
      · have hm := it_s c_32 hm
        refine lv_aload_n hx hb dX7_forget_35 rfl (lv_at hl 0 rfl) ?_
        refine gf_X7_17 (v := .ref AT_he) hx hb hts hown hK hN hP 0 rfl rfl dX7_forget_36 ?_
        refine gf_X7_201 (v := .ref AT_he_nt) hx hb hts hown hK hN hP 1 rfl rfl dX7_forget_39 ?_
        refine lv_goto (tgt := 52) hx hb dX7_forget_42 (by decide) ?_
        refine lv_astore_n (lv' := [(2, .ref AT_he_nt), (0, .ref AT), (1, .int p1)]) hx hb dX7_forget_52 rfl hl (by decide) rfl (fun ls hl => ?_)
        refine lv_aload_n hx hb dX7_forget_53 rfl (lv_at hl 0 rfl) ?_
        obtain ⟨r_54, hc_54, hm⟩ := ob_s hm
        refine q_ci (q_rv (rest := []) ⟨hx, hb, hml, hown, hts⟩ hK hN hP hD (c_X3_size l D cI cZ H.size AT_he_nt AT_he_nt_c 4 vT_he_nt_n r_54 hc_54) mb_X3_size mv_X3_size wl_X7_70 [3] rfl rfl rfl (Nat.le_of_ble_eq_true rfl) (Nat.le_of_ble_eq_true rfl) rfl hl.1 rfl (Nat.le_of_ble_eq_true rfl) ⟨Nat.le_refl 0, Nat.le_refl 0⟩ dX7_forget_54) hP hD hS hA [3] rfl rfl (fun H locs hP hD hS => ?_)
        have hP : va_P D vwCl (wd_X7_forget cI cZ AT AT_he AT_iz AT_io AT_tx AT_rd AT_fo AT_fi AT_he_sl AT_he_fl AT_he_ro AT_he_nt AT_he_mk AT_he_mo AT_he_mk_c AT_he_nt_c AT_he_ro_c vT_ab vT_be vT_bo vT_no vT_fu vT_he_ng vT_he_mk_n vT_he_nt_n vT_he_ro_n) H := hP
        have hD : va_D A (wd_X7_forget cI cZ AT AT_he AT_iz AT_io AT_tx AT_rd AT_fo AT_fi AT_he_sl AT_he_fl AT_he_ro AT_he_nt AT_he_mk AT_he_mo AT_he_mk_c AT_he_nt_c AT_he_ro_c vT_ab vT_be vT_bo vT_no vT_fu vT_he_ng vT_he_mk_n vT_he_nt_n vT_he_ro_n) := hD
        refine lv_istore_n (lv' := [(3, .int r_54), (2, .ref AT_he_nt), (0, .ref AT), (1, .int p1)]) hx hb dX7_forget_57 rfl hl (by decide) rfl (fun ls hl => ?_)
        refine lv_aload_n hx hb dX7_forget_58 rfl (lv_at hl 1 rfl) ?_
        obtain ⟨r_59, hc_59, hm⟩ := ob_s hm
        refine q_cv (q_rv (rest := []) ⟨hx, hb, hml, hown, hts⟩ hK hN hP hD (c_X3_empty l D cI cZ H.size AT_he_nt AT_he_nt_c 4 vT_he_nt_n r_59 hc_59) mb_X3_empty mv_X3_empty wl_X7_107 [3] rfl rfl rfl (Nat.le_of_ble_eq_true rfl) (Nat.le_of_ble_eq_true rfl) rfl hl.1 rfl (Nat.le_of_ble_eq_true rfl) ⟨Nat.le_refl 0, Nat.le_refl 0⟩ dX7_forget_59) hP hD hS hA [3] rfl rfl (fun H locs hP hD hS => ?_)
        have hP : va_P D vwCl (wd_X7_forget cI cZ AT AT_he AT_iz AT_io AT_tx AT_rd AT_fo AT_fi AT_he_sl AT_he_fl AT_he_ro AT_he_nt AT_he_mk AT_he_mo AT_he_mk_c AT_he_nt_c AT_he_ro_c vT_ab vT_be vT_bo vT_no vT_fu vT_he_ng vT_he_mk_n r_59 vT_he_ro_n) H := hP
        have hD : va_D A (wd_X7_forget cI cZ AT AT_he AT_iz AT_io AT_tx AT_rd AT_fo AT_fi AT_he_sl AT_he_fl AT_he_ro AT_he_nt AT_he_mk AT_he_mo AT_he_mk_c AT_he_nt_c AT_he_ro_c vT_ab vT_be vT_bo vT_no vT_fu vT_he_ng vT_he_mk_n r_59 vT_he_ro_n) := hD
        refine lv_iload_n hx hb dX7_forget_62 rfl (lv_at hl 0 rfl) ?_
        have hm := Option.some.inj hm
        subst hm
        exact q_iret (v := r_54) hx hb hr hlocks hP hS dX7_forget_63
    · have hm := it_s c_17 hm
      refine lv_aload_n hx hb dX7_forget_20 rfl (lv_at hl 0 rfl) ?_
      refine gf_X7_17 (v := .ref AT_he) hx hb hts hown hK hN hP 0 rfl rfl dX7_forget_21 ?_
      refine gf_X7_183 (v := .ref AT_he_ro) hx hb hts hown hK hN hP 1 rfl rfl dX7_forget_24 ?_
      refine lv_goto (tgt := 52) hx hb dX7_forget_27 (by decide) ?_
      refine lv_astore_n (lv' := [(2, .ref AT_he_ro), (0, .ref AT), (1, .int p1)]) hx hb dX7_forget_52 rfl hl (by decide) rfl (fun ls hl => ?_)
      refine lv_aload_n hx hb dX7_forget_53 rfl (lv_at hl 0 rfl) ?_
      obtain ⟨r_54, hc_54, hm⟩ := ob_s hm
      refine q_ci (q_rv (rest := []) ⟨hx, hb, hml, hown, hts⟩ hK hN hP hD (c_X3_size l D cI cZ H.size AT_he_ro AT_he_ro_c 3 vT_he_ro_n r_54 hc_54) mb_X3_size mv_X3_size wl_X7_70 [4] rfl rfl rfl (Nat.le_of_ble_eq_true rfl) (Nat.le_of_ble_eq_true rfl) rfl hl.1 rfl (Nat.le_of_ble_eq_true rfl) ⟨Nat.le_refl 0, Nat.le_refl 0⟩ dX7_forget_54) hP hD hS hA [4] rfl rfl (fun H locs hP hD hS => ?_)
      have hP : va_P D vwCl (wd_X7_forget cI cZ AT AT_he AT_iz AT_io AT_tx AT_rd AT_fo AT_fi AT_he_sl AT_he_fl AT_he_ro AT_he_nt AT_he_mk AT_he_mo AT_he_mk_c AT_he_nt_c AT_he_ro_c vT_ab vT_be vT_bo vT_no vT_fu vT_he_ng vT_he_mk_n vT_he_nt_n vT_he_ro_n) H := hP
      have hD : va_D A (wd_X7_forget cI cZ AT AT_he AT_iz AT_io AT_tx AT_rd AT_fo AT_fi AT_he_sl AT_he_fl AT_he_ro AT_he_nt AT_he_mk AT_he_mo AT_he_mk_c AT_he_nt_c AT_he_ro_c vT_ab vT_be vT_bo vT_no vT_fu vT_he_ng vT_he_mk_n vT_he_nt_n vT_he_ro_n) := hD
      refine lv_istore_n (lv' := [(3, .int r_54), (2, .ref AT_he_ro), (0, .ref AT), (1, .int p1)]) hx hb dX7_forget_57 rfl hl (by decide) rfl (fun ls hl => ?_)
      refine lv_aload_n hx hb dX7_forget_58 rfl (lv_at hl 1 rfl) ?_
      obtain ⟨r_59, hc_59, hm⟩ := ob_s hm
      refine q_cv (q_rv (rest := []) ⟨hx, hb, hml, hown, hts⟩ hK hN hP hD (c_X3_empty l D cI cZ H.size AT_he_ro AT_he_ro_c 3 vT_he_ro_n r_59 hc_59) mb_X3_empty mv_X3_empty wl_X7_107 [4] rfl rfl rfl (Nat.le_of_ble_eq_true rfl) (Nat.le_of_ble_eq_true rfl) rfl hl.1 rfl (Nat.le_of_ble_eq_true rfl) ⟨Nat.le_refl 0, Nat.le_refl 0⟩ dX7_forget_59) hP hD hS hA [4] rfl rfl (fun H locs hP hD hS => ?_)
      have hP : va_P D vwCl (wd_X7_forget cI cZ AT AT_he AT_iz AT_io AT_tx AT_rd AT_fo AT_fi AT_he_sl AT_he_fl AT_he_ro AT_he_nt AT_he_mk AT_he_mo AT_he_mk_c AT_he_nt_c AT_he_ro_c vT_ab vT_be vT_bo vT_no vT_fu vT_he_ng vT_he_mk_n vT_he_nt_n r_59) H := hP
      have hD : va_D A (wd_X7_forget cI cZ AT AT_he AT_iz AT_io AT_tx AT_rd AT_fo AT_fi AT_he_sl AT_he_fl AT_he_ro AT_he_nt AT_he_mk AT_he_mo AT_he_mk_c AT_he_nt_c AT_he_ro_c vT_ab vT_be vT_bo vT_no vT_fu vT_he_ng vT_he_mk_n vT_he_nt_n r_59) := hD
      refine lv_iload_n hx hb dX7_forget_62 rfl (lv_at hl 0 rfl) ?_
      have hm := Option.some.inj hm
      subst hm
      exact q_iret (v := r_54) hx hb hr hlocks hP hS dX7_forget_63
  · have hm := it_s c_6 hm
    refine lv_aload_n hx hb dX7_forget_9 rfl (lv_at hl 0 rfl) ?_
    refine lv_bipush (v := (-2)) hx hb dX7_forget_10 (by decide) ?_
    obtain ⟨r_12, hc_12, hm⟩ := ob_s hm
    refine q_ci (q_rv (rest := []) ⟨hx, hb, hml, hown, hts⟩ hK hN hP hD (c_X7_refused l D cI cZ H.size AT AT_he AT_iz AT_io AT_tx AT_rd AT_fo AT_fi vT_ab vT_be vT_bo vT_no vT_fu (-2) r_12 hc_12) mb_X7_refused mv_X7_refused wl_X7_81 [0] rfl rfl rfl (Nat.le_of_ble_eq_true rfl) (Nat.le_of_ble_eq_true rfl) rfl hl.1 rfl (Nat.le_of_ble_eq_true rfl) ⟨Nat.le_refl 0, Nat.le_refl 0⟩ dX7_forget_12) hP hD hS hA [0] rfl rfl (fun H locs hP hD hS => ?_)
    have hP : va_P D vwCl (wd_X7_forget cI cZ AT AT_he AT_iz AT_io AT_tx AT_rd AT_fo AT_fi AT_he_sl AT_he_fl AT_he_ro AT_he_nt AT_he_mk AT_he_mo AT_he_mk_c AT_he_nt_c AT_he_ro_c vT_ab vT_be r_12.2.1 r_12.2.2.1 r_12.2.2.2 vT_he_ng vT_he_mk_n vT_he_nt_n vT_he_ro_n) H := hP
    have hD : va_D A (wd_X7_forget cI cZ AT AT_he AT_iz AT_io AT_tx AT_rd AT_fo AT_fi AT_he_sl AT_he_fl AT_he_ro AT_he_nt AT_he_mk AT_he_mo AT_he_mk_c AT_he_nt_c AT_he_ro_c vT_ab vT_be r_12.2.1 r_12.2.2.1 r_12.2.2.2 vT_he_ng vT_he_mk_n vT_he_nt_n vT_he_ro_n) := hD
    have hm := Option.some.inj hm
    subst hm
    exact q_iret (v := r_12.1) hx hb hr hlocks hP hS dX7_forget_15
theorem mb_X7_is : q_mb yX7_is cX7_is 2 (some .int) 1 := ⟨wc_X7_is, wn_X7, by decide, by decide, by decide +kernel⟩
theorem mv_X7_is : q_mv yX7_is 7 := ⟨wi_X7_is, ws_X7_is, _, rfl, rfl⟩
def wd_X7_is (cI cZ : ClassId) (AT AT_he AT_iz AT_io AT_tx AT_rd AT_fo AT_fi AT_he_sl AT_he_fl AT_he_ro AT_he_nt AT_he_mk AT_he_mo AT_he_fl_c AT_fi_ft AT_fi_bv AT_fi_ta AT_he_nt_c : Nat) (vT_ab : Int32) (vT_be : Int32) (vT_bo : Int32) (vT_no : Int32) (vT_fu : Int32) (vT_he_ng : Int32) (vT_he_fl_n : Int32) (vT_he_nt_n : Int32) (fT_he_nt_c : Nat → Int32) : va_W := [(AT, .inr (7, [.ref AT_he, .ref AT_iz, .ref AT_io, .ref AT_tx, .ref AT_rd, .ref AT_fo, .ref AT_fi, .int vT_ab, .int vT_be, .int vT_bo, .int vT_no, .int vT_fu])), (AT_he, .inr (4, [.ref AT_he_sl, .ref AT_he_fl, .ref AT_he_ro, .ref AT_he_nt, .ref AT_he_mk, .ref AT_he_mo, .int vT_he_ng])), (AT_he_fl, .inr (3, [.int 3, .ref AT_he_fl_c, .int vT_he_fl_n])), (AT_fi, .inr (0, [.ref AT_he, .ref AT_fi_ft, .ref AT_fi_bv, .ref AT_fi_ta])), (AT_he_nt, .inr (3, [.int 4, .ref AT_he_nt_c, .int vT_he_nt_n])), (AT_he_nt_c, .inl (cI, 24, .inl fT_he_nt_c))]
def fm_X7_is (p1 : Int32) (vT_bo : Int32) (vT_no : Int32) (vT_fu : Int32) (vT_he_fl_n : Int32) (vT_he_nt_n : Int32) (fT_he_nt_c : Nat → Int32) : Option (Int32 × Int32 × Int32 × Int32) := Option.bind (fm_X7_isFlower p1 vT_he_fl_n) (fun r_2 => if r_2 = 0 then (Option.bind (fm_X7_refused (-2) vT_bo vT_no vT_fu) (fun r_11 => some (r_11.1, r_11.2.1, r_11.2.2.1, r_11.2.2.2))) else (Option.bind (fm_X0_flowerKinds p1 vT_he_nt_n fT_he_nt_c) (fun r_20 => some (r_20, vT_bo, vT_no, vT_fu))))
set_option maxHeartbeats 4000000 in
set_option maxRecDepth 100000 in
theorem c_X7_is (l : Launch) (D : va_G) (cI cZ : ClassId) (sz : Nat) (AT AT_he AT_iz AT_io AT_tx AT_rd AT_fo AT_fi AT_he_sl AT_he_fl AT_he_ro AT_he_nt AT_he_mk AT_he_mo AT_he_fl_c AT_fi_ft AT_fi_bv AT_fi_ta AT_he_nt_c : Nat) (vT_ab : Int32) (vT_be : Int32) (vT_bo : Int32) (vT_no : Int32) (vT_fu : Int32) (vT_he_ng : Int32) (vT_he_fl_n : Int32) (vT_he_nt_n : Int32) (fT_he_nt_c : Nat → Int32) (p1 : Int32) (out : (Int32 × Int32 × Int32 × Int32)) (hm : fm_X7_is p1 vT_bo vT_no vT_fu vT_he_fl_n vT_he_nt_n fT_he_nt_c = some out) : Met l yX7_is (Cond.code yX7_is cX7_is 2 (some .int) :: bg) { frames := 3, cells := 0, slots := 0, locals := 73 } (va_Pc [.ref AT, .int p1] (q_pre D cI cZ sz (wd_X7_is cI cZ AT AT_he AT_iz AT_io AT_tx AT_rd AT_fo AT_fi AT_he_sl AT_he_fl AT_he_ro AT_he_nt AT_he_mk AT_he_mo AT_he_fl_c AT_fi_ft AT_fi_bv AT_fi_ta AT_he_nt_c vT_ab vT_be vT_bo vT_no vT_fu vT_he_ng vT_he_fl_n vT_he_nt_n fT_he_nt_c))) (q_Qi D (wd_X7_is cI cZ AT AT_he AT_iz AT_io AT_tx AT_rd AT_fo AT_fi AT_he_sl AT_he_fl AT_he_ro AT_he_nt AT_he_mk AT_he_mo AT_he_fl_c AT_fi_ft AT_fi_bv AT_fi_ta AT_he_nt_c vT_ab vT_be out.2.1 out.2.2.1 out.2.2.2 vT_he_ng vT_he_fl_n vT_he_nt_n fT_he_nt_c) out.1 (va_A (wd_X7_is cI cZ AT AT_he AT_iz AT_io AT_tx AT_rd AT_fo AT_fi AT_he_sl AT_he_fl AT_he_ro AT_he_nt AT_he_mk AT_he_mo AT_he_fl_c AT_fi_ft AT_fi_bv AT_fi_ta AT_he_nt_c vT_ab vT_be vT_bo vT_no vT_fu vT_he_ng vT_he_fl_n vT_he_nt_n fT_he_nt_c) sz)) 0 0 (va_A (wd_X7_is cI cZ AT AT_he AT_iz AT_io AT_tx AT_rd AT_fo AT_fi AT_he_sl AT_he_fl AT_he_ro AT_he_nt AT_he_mk AT_he_mo AT_he_fl_c AT_fi_ft AT_fi_bv AT_fi_ta AT_he_nt_c vT_ab vT_be vT_bo vT_no vT_fu vT_he_ng vT_he_fl_n vT_he_nt_n fT_he_nt_c) sz) := by
  refine q_met (fun A => q_Qi D (wd_X7_is cI cZ AT AT_he AT_iz AT_io AT_tx AT_rd AT_fo AT_fi AT_he_sl AT_he_fl AT_he_ro AT_he_nt AT_he_mk AT_he_mo AT_he_fl_c AT_fi_ft AT_fi_bv AT_fi_ta AT_he_nt_c vT_ab vT_be out.2.1 out.2.2.1 out.2.2.2 vT_he_ng vT_he_fl_n vT_he_nt_n fT_he_nt_c) out.1 A) (by decide) (Nat.le_of_ble_eq_true rfl) ?_
  intro p e s m below meth c ls A hx hb hr hml hown hts hlocks _ hA hS hP hD hK hN hl
  have hown : s.vm.findClass RX7 = some m.cls := hown
  have hl : lv_has ls 2 [(0, .ref AT), (1, .int p1)] := hl
  unfold fm_X7_is at hm
  refine q_gen hS hP ?_
  intro H locs hP hS
  refine lv_aload_n hx hb dX7_is_0 rfl (lv_at hl 0 rfl) ?_
  refine lv_iload_n hx hb dX7_is_1 rfl (lv_at hl 1 rfl) ?_
  obtain ⟨r_2, hc_2, hm⟩ := ob_s hm
  refine q_ci (q_rv (rest := []) ⟨hx, hb, hml, hown, hts⟩ hK hN hP hD (c_X7_isFlower l D cI cZ H.size AT AT_he AT_iz AT_io AT_tx AT_rd AT_fo AT_fi AT_he_sl AT_he_fl AT_he_ro AT_he_nt AT_he_mk AT_he_mo AT_he_fl_c vT_ab vT_be vT_bo vT_no vT_fu vT_he_ng vT_he_fl_n p1 r_2 hc_2) mb_X7_isFlower mv_X7_isFlower wl_X7_145 [0, 1, 2] rfl rfl rfl (Nat.le_of_ble_eq_true rfl) (Nat.le_of_ble_eq_true rfl) rfl hl.1 rfl (Nat.le_of_ble_eq_true rfl) ⟨Nat.le_refl 0, Nat.le_refl 0⟩ dX7_is_2) hP hD hS hA [0, 1, 2] rfl rfl (fun H locs hP hD hS => ?_)
  have hP : va_P D vwCl (wd_X7_is cI cZ AT AT_he AT_iz AT_io AT_tx AT_rd AT_fo AT_fi AT_he_sl AT_he_fl AT_he_ro AT_he_nt AT_he_mk AT_he_mo AT_he_fl_c AT_fi_ft AT_fi_bv AT_fi_ta AT_he_nt_c vT_ab vT_be vT_bo vT_no vT_fu vT_he_ng vT_he_fl_n vT_he_nt_n fT_he_nt_c) H := hP
  have hD : va_D A (wd_X7_is cI cZ AT AT_he AT_iz AT_io AT_tx AT_rd AT_fo AT_fi AT_he_sl AT_he_fl AT_he_ro AT_he_nt AT_he_mk AT_he_mo AT_he_fl_c AT_fi_ft AT_fi_bv AT_fi_ta AT_he_nt_c vT_ab vT_be vT_bo vT_no vT_fu vT_he_ng vT_he_fl_n vT_he_nt_n fT_he_nt_c) := hD
  refine lv_if_ne (tgt := 15) hx hb dX7_is_5 (by decide) (fun c_5 => ?_) (fun c_5 => ?_)
  · have hm := it_n c_5 hm
    refine lv_aload_n hx hb dX7_is_15 rfl (lv_at hl 0 rfl) ?_
    refine gf_X7_56 (v := .ref AT_fi) hx hb hts hown hK hN hP 0 rfl rfl dX7_is_16 ?_
    refine lv_iload_n hx hb dX7_is_19 rfl (lv_at hl 1 rfl) ?_
    obtain ⟨r_20, hc_20, hm⟩ := ob_s hm
    refine q_ci (q_rv (rest := []) ⟨hx, hb, hml, hown, hts⟩ hK hN hP hD (c_X0_flowerKinds l D cI cZ H.size AT_fi AT_he AT_fi_ft AT_fi_bv AT_fi_ta AT_he_sl AT_he_fl AT_he_ro AT_he_nt AT_he_mk AT_he_mo AT_he_nt_c vT_he_ng vT_he_nt_n fT_he_nt_c p1 r_20 hc_20) mb_X0_flowerKinds mv_X0_flowerKinds wl_X7_207 [3, 1, 4, 5] rfl rfl rfl (Nat.le_of_ble_eq_true rfl) (Nat.le_of_ble_eq_true rfl) rfl hl.1 rfl (Nat.le_of_ble_eq_true rfl) ⟨Nat.le_refl 0, Nat.le_refl 0⟩ dX7_is_20) hP hD hS hA [3, 1, 4, 5] rfl rfl (fun H locs hP hD hS => ?_)
    have hP : va_P D vwCl (wd_X7_is cI cZ AT AT_he AT_iz AT_io AT_tx AT_rd AT_fo AT_fi AT_he_sl AT_he_fl AT_he_ro AT_he_nt AT_he_mk AT_he_mo AT_he_fl_c AT_fi_ft AT_fi_bv AT_fi_ta AT_he_nt_c vT_ab vT_be vT_bo vT_no vT_fu vT_he_ng vT_he_fl_n vT_he_nt_n fT_he_nt_c) H := hP
    have hD : va_D A (wd_X7_is cI cZ AT AT_he AT_iz AT_io AT_tx AT_rd AT_fo AT_fi AT_he_sl AT_he_fl AT_he_ro AT_he_nt AT_he_mk AT_he_mo AT_he_fl_c AT_fi_ft AT_fi_bv AT_fi_ta AT_he_nt_c vT_ab vT_be vT_bo vT_no vT_fu vT_he_ng vT_he_fl_n vT_he_nt_n fT_he_nt_c) := hD
    have hm := Option.some.inj hm
    subst hm
    exact q_iret (v := r_20) hx hb hr hlocks hP hS dX7_is_23
  · have hm := it_s c_5 hm
    refine lv_aload_n hx hb dX7_is_8 rfl (lv_at hl 0 rfl) ?_
    refine lv_bipush (v := (-2)) hx hb dX7_is_9 (by decide) ?_
    obtain ⟨r_11, hc_11, hm⟩ := ob_s hm
    refine q_ci (q_rv (rest := []) ⟨hx, hb, hml, hown, hts⟩ hK hN hP hD (c_X7_refused l D cI cZ H.size AT AT_he AT_iz AT_io AT_tx AT_rd AT_fo AT_fi vT_ab vT_be vT_bo vT_no vT_fu (-2) r_11 hc_11) mb_X7_refused mv_X7_refused wl_X7_81 [0] rfl rfl rfl (Nat.le_of_ble_eq_true rfl) (Nat.le_of_ble_eq_true rfl) rfl hl.1 rfl (Nat.le_of_ble_eq_true rfl) ⟨Nat.le_refl 0, Nat.le_refl 0⟩ dX7_is_11) hP hD hS hA [0] rfl rfl (fun H locs hP hD hS => ?_)
    have hP : va_P D vwCl (wd_X7_is cI cZ AT AT_he AT_iz AT_io AT_tx AT_rd AT_fo AT_fi AT_he_sl AT_he_fl AT_he_ro AT_he_nt AT_he_mk AT_he_mo AT_he_fl_c AT_fi_ft AT_fi_bv AT_fi_ta AT_he_nt_c vT_ab vT_be r_11.2.1 r_11.2.2.1 r_11.2.2.2 vT_he_ng vT_he_fl_n vT_he_nt_n fT_he_nt_c) H := hP
    have hD : va_D A (wd_X7_is cI cZ AT AT_he AT_iz AT_io AT_tx AT_rd AT_fo AT_fi AT_he_sl AT_he_fl AT_he_ro AT_he_nt AT_he_mk AT_he_mo AT_he_fl_c AT_fi_ft AT_fi_bv AT_fi_ta AT_he_nt_c vT_ab vT_be r_11.2.1 r_11.2.2.1 r_11.2.2.2 vT_he_ng vT_he_fl_n vT_he_nt_n fT_he_nt_c) := hD
    have hm := Option.some.inj hm
    subst hm
    exact q_iret (v := r_11.1) hx hb hr hlocks hP hS dX7_is_14
theorem mb_X7_look : q_mb yX7_look cX7_look 2 (some .int) 1 := ⟨wc_X7_look, wn_X7, by decide, by decide, by decide +kernel⟩
theorem mv_X7_look : q_mv yX7_look 7 := ⟨wi_X7_look, ws_X7_look, _, rfl, rfl⟩
def wd_X7_look (cI cZ : ClassId) (AT AT_he AT_iz AT_io AT_tx AT_rd AT_fo AT_fi AT_he_sl AT_he_fl AT_he_ro AT_he_nt AT_he_mk AT_he_mo AT_he_fl_c AT_fi_ft AT_fi_bv AT_fi_ta AT_he_nt_c AT_fi_ta_sn : Nat) (vT_ab : Int32) (vT_be : Int32) (vT_bo : Int32) (vT_no : Int32) (vT_fu : Int32) (vT_he_ng : Int32) (vT_he_fl_n : Int32) (vT_he_nt_n : Int32) (fT_he_nt_c : Nat → Int32) (vT_fi_ta_hi : Int32) (vT_fi_ta_ms : Int32) (vT_fi_ta_bl : Int32) (vT_fi_ta_fw : Int32) (fT_he_fl_c : Nat → Int32) (fT_fi_ta_sn : Nat → Int32) : va_W := [(AT, .inr (7, [.ref AT_he, .ref AT_iz, .ref AT_io, .ref AT_tx, .ref AT_rd, .ref AT_fo, .ref AT_fi, .int vT_ab, .int vT_be, .int vT_bo, .int vT_no, .int vT_fu])), (AT_he, .inr (4, [.ref AT_he_sl, .ref AT_he_fl, .ref AT_he_ro, .ref AT_he_nt, .ref AT_he_mk, .ref AT_he_mo, .int vT_he_ng])), (AT_he_fl, .inr (3, [.int 3, .ref AT_he_fl_c, .int vT_he_fl_n])), (AT_fi, .inr (0, [.ref AT_he, .ref AT_fi_ft, .ref AT_fi_bv, .ref AT_fi_ta])), (AT_he_nt, .inr (3, [.int 4, .ref AT_he_nt_c, .int vT_he_nt_n])), (AT_he_nt_c, .inl (cI, 24, .inl fT_he_nt_c)), (AT_fi_ta, .inr (6, [.ref AT_fi_ta_sn, .int vT_fi_ta_hi, .int vT_fi_ta_ms, .int vT_fi_ta_bl, .int vT_fi_ta_fw])), (AT_he_fl_c, .inl (cI, 18, .inl fT_he_fl_c)), (AT_fi_ta_sn, .inl (cI, 256, .inl fT_fi_ta_sn))]
def fm_X7_look (p1 : Int32) (vT_bo : Int32) (vT_no : Int32) (vT_fu : Int32) (vT_he_fl_n : Int32) (vT_he_nt_n : Int32) (fT_he_nt_c : Nat → Int32) (vT_fi_ta_hi : Int32) (vT_fi_ta_ms : Int32) (vT_fi_ta_bl : Int32) (vT_fi_ta_fw : Int32) (fT_he_fl_c : Nat → Int32) (fT_fi_ta_sn : Nat → Int32) : Option (Int32 × Int32 × Int32 × Int32 × Int32 × Int32 × Int32 × Int32 × (Nat → Int32)) := Option.bind (fm_X7_isFlower p1 vT_he_fl_n) (fun r_2 => if r_2 = 0 then (Option.bind (fm_X7_refused (-2) vT_bo vT_no vT_fu) (fun r_11 => some (r_11.1, r_11.2.1, r_11.2.2.1, r_11.2.2.2, vT_fi_ta_hi, vT_fi_ta_ms, vT_fi_ta_bl, vT_fi_ta_fw, fT_fi_ta_sn))) else (Option.bind (fm_X0_lookingNight p1 vT_he_nt_n fT_he_nt_c vT_fi_ta_hi vT_fi_ta_ms vT_fi_ta_bl vT_fi_ta_fw vT_he_fl_n fT_he_fl_c fT_fi_ta_sn) (fun r_20 => some (r_20.1, vT_bo, vT_no, vT_fu, r_20.2.1, r_20.2.2.1, r_20.2.2.2.1, r_20.2.2.2.2.1, r_20.2.2.2.2.2))))
set_option maxHeartbeats 4000000 in
set_option maxRecDepth 100000 in
theorem c_X7_look (l : Launch) (D : va_G) (cI cZ : ClassId) (sz : Nat) (AT AT_he AT_iz AT_io AT_tx AT_rd AT_fo AT_fi AT_he_sl AT_he_fl AT_he_ro AT_he_nt AT_he_mk AT_he_mo AT_he_fl_c AT_fi_ft AT_fi_bv AT_fi_ta AT_he_nt_c AT_fi_ta_sn : Nat) (vT_ab : Int32) (vT_be : Int32) (vT_bo : Int32) (vT_no : Int32) (vT_fu : Int32) (vT_he_ng : Int32) (vT_he_fl_n : Int32) (vT_he_nt_n : Int32) (fT_he_nt_c : Nat → Int32) (vT_fi_ta_hi : Int32) (vT_fi_ta_ms : Int32) (vT_fi_ta_bl : Int32) (vT_fi_ta_fw : Int32) (fT_he_fl_c : Nat → Int32) (fT_fi_ta_sn : Nat → Int32) (p1 : Int32) (out : (Int32 × Int32 × Int32 × Int32 × Int32 × Int32 × Int32 × Int32 × (Nat → Int32))) (hm : fm_X7_look p1 vT_bo vT_no vT_fu vT_he_fl_n vT_he_nt_n fT_he_nt_c vT_fi_ta_hi vT_fi_ta_ms vT_fi_ta_bl vT_fi_ta_fw fT_he_fl_c fT_fi_ta_sn = some out) : Met l yX7_look (Cond.code yX7_look cX7_look 2 (some .int) :: bg) { frames := 4, cells := 0, slots := 0, locals := 96 } (va_Pc [.ref AT, .int p1] (q_pre D cI cZ sz (wd_X7_look cI cZ AT AT_he AT_iz AT_io AT_tx AT_rd AT_fo AT_fi AT_he_sl AT_he_fl AT_he_ro AT_he_nt AT_he_mk AT_he_mo AT_he_fl_c AT_fi_ft AT_fi_bv AT_fi_ta AT_he_nt_c AT_fi_ta_sn vT_ab vT_be vT_bo vT_no vT_fu vT_he_ng vT_he_fl_n vT_he_nt_n fT_he_nt_c vT_fi_ta_hi vT_fi_ta_ms vT_fi_ta_bl vT_fi_ta_fw fT_he_fl_c fT_fi_ta_sn))) (q_Qi D (wd_X7_look cI cZ AT AT_he AT_iz AT_io AT_tx AT_rd AT_fo AT_fi AT_he_sl AT_he_fl AT_he_ro AT_he_nt AT_he_mk AT_he_mo AT_he_fl_c AT_fi_ft AT_fi_bv AT_fi_ta AT_he_nt_c AT_fi_ta_sn vT_ab vT_be out.2.1 out.2.2.1 out.2.2.2.1 vT_he_ng vT_he_fl_n vT_he_nt_n fT_he_nt_c out.2.2.2.2.1 out.2.2.2.2.2.1 out.2.2.2.2.2.2.1 out.2.2.2.2.2.2.2.1 fT_he_fl_c out.2.2.2.2.2.2.2.2) out.1 (va_A (wd_X7_look cI cZ AT AT_he AT_iz AT_io AT_tx AT_rd AT_fo AT_fi AT_he_sl AT_he_fl AT_he_ro AT_he_nt AT_he_mk AT_he_mo AT_he_fl_c AT_fi_ft AT_fi_bv AT_fi_ta AT_he_nt_c AT_fi_ta_sn vT_ab vT_be vT_bo vT_no vT_fu vT_he_ng vT_he_fl_n vT_he_nt_n fT_he_nt_c vT_fi_ta_hi vT_fi_ta_ms vT_fi_ta_bl vT_fi_ta_fw fT_he_fl_c fT_fi_ta_sn) sz)) 0 0 (va_A (wd_X7_look cI cZ AT AT_he AT_iz AT_io AT_tx AT_rd AT_fo AT_fi AT_he_sl AT_he_fl AT_he_ro AT_he_nt AT_he_mk AT_he_mo AT_he_fl_c AT_fi_ft AT_fi_bv AT_fi_ta AT_he_nt_c AT_fi_ta_sn vT_ab vT_be vT_bo vT_no vT_fu vT_he_ng vT_he_fl_n vT_he_nt_n fT_he_nt_c vT_fi_ta_hi vT_fi_ta_ms vT_fi_ta_bl vT_fi_ta_fw fT_he_fl_c fT_fi_ta_sn) sz) := by
  refine q_met (fun A => q_Qi D (wd_X7_look cI cZ AT AT_he AT_iz AT_io AT_tx AT_rd AT_fo AT_fi AT_he_sl AT_he_fl AT_he_ro AT_he_nt AT_he_mk AT_he_mo AT_he_fl_c AT_fi_ft AT_fi_bv AT_fi_ta AT_he_nt_c AT_fi_ta_sn vT_ab vT_be out.2.1 out.2.2.1 out.2.2.2.1 vT_he_ng vT_he_fl_n vT_he_nt_n fT_he_nt_c out.2.2.2.2.1 out.2.2.2.2.2.1 out.2.2.2.2.2.2.1 out.2.2.2.2.2.2.2.1 fT_he_fl_c out.2.2.2.2.2.2.2.2) out.1 A) (by decide) (Nat.le_of_ble_eq_true rfl) ?_
  intro p e s m below meth c ls A hx hb hr hml hown hts hlocks _ hA hS hP hD hK hN hl
  have hown : s.vm.findClass RX7 = some m.cls := hown
  have hl : lv_has ls 2 [(0, .ref AT), (1, .int p1)] := hl
  unfold fm_X7_look at hm
  refine q_gen hS hP ?_
  intro H locs hP hS
  refine lv_aload_n hx hb dX7_look_0 rfl (lv_at hl 0 rfl) ?_
  refine lv_iload_n hx hb dX7_look_1 rfl (lv_at hl 1 rfl) ?_
  obtain ⟨r_2, hc_2, hm⟩ := ob_s hm
  refine q_ci (q_rv (rest := []) ⟨hx, hb, hml, hown, hts⟩ hK hN hP hD (c_X7_isFlower l D cI cZ H.size AT AT_he AT_iz AT_io AT_tx AT_rd AT_fo AT_fi AT_he_sl AT_he_fl AT_he_ro AT_he_nt AT_he_mk AT_he_mo AT_he_fl_c vT_ab vT_be vT_bo vT_no vT_fu vT_he_ng vT_he_fl_n p1 r_2 hc_2) mb_X7_isFlower mv_X7_isFlower wl_X7_145 [0, 1, 2] rfl rfl rfl (Nat.le_of_ble_eq_true rfl) (Nat.le_of_ble_eq_true rfl) rfl hl.1 rfl (Nat.le_of_ble_eq_true rfl) ⟨Nat.le_refl 0, Nat.le_refl 0⟩ dX7_look_2) hP hD hS hA [0, 1, 2] rfl rfl (fun H locs hP hD hS => ?_)
  have hP : va_P D vwCl (wd_X7_look cI cZ AT AT_he AT_iz AT_io AT_tx AT_rd AT_fo AT_fi AT_he_sl AT_he_fl AT_he_ro AT_he_nt AT_he_mk AT_he_mo AT_he_fl_c AT_fi_ft AT_fi_bv AT_fi_ta AT_he_nt_c AT_fi_ta_sn vT_ab vT_be vT_bo vT_no vT_fu vT_he_ng vT_he_fl_n vT_he_nt_n fT_he_nt_c vT_fi_ta_hi vT_fi_ta_ms vT_fi_ta_bl vT_fi_ta_fw fT_he_fl_c fT_fi_ta_sn) H := hP
  have hD : va_D A (wd_X7_look cI cZ AT AT_he AT_iz AT_io AT_tx AT_rd AT_fo AT_fi AT_he_sl AT_he_fl AT_he_ro AT_he_nt AT_he_mk AT_he_mo AT_he_fl_c AT_fi_ft AT_fi_bv AT_fi_ta AT_he_nt_c AT_fi_ta_sn vT_ab vT_be vT_bo vT_no vT_fu vT_he_ng vT_he_fl_n vT_he_nt_n fT_he_nt_c vT_fi_ta_hi vT_fi_ta_ms vT_fi_ta_bl vT_fi_ta_fw fT_he_fl_c fT_fi_ta_sn) := hD
  refine lv_if_ne (tgt := 15) hx hb dX7_look_5 (by decide) (fun c_5 => ?_) (fun c_5 => ?_)
  · have hm := it_n c_5 hm
    refine lv_aload_n hx hb dX7_look_15 rfl (lv_at hl 0 rfl) ?_
    refine gf_X7_56 (v := .ref AT_fi) hx hb hts hown hK hN hP 0 rfl rfl dX7_look_16 ?_
    refine lv_iload_n hx hb dX7_look_19 rfl (lv_at hl 1 rfl) ?_
    obtain ⟨r_20, hc_20, hm⟩ := ob_s hm
    refine q_ci (q_rv (rest := []) ⟨hx, hb, hml, hown, hts⟩ hK hN hP hD (c_X0_lookingNight l D cI cZ H.size AT_fi AT_he AT_fi_ft AT_fi_bv AT_fi_ta AT_he_sl AT_he_fl AT_he_ro AT_he_nt AT_he_mk AT_he_mo AT_he_nt_c AT_fi_ta_sn AT_he_fl_c vT_he_ng vT_he_nt_n fT_he_nt_c vT_fi_ta_hi vT_fi_ta_ms vT_fi_ta_bl vT_fi_ta_fw vT_he_fl_n fT_he_fl_c fT_fi_ta_sn p1 r_20 hc_20) mb_X0_lookingNight mv_X0_lookingNight wl_X7_210 [3, 1, 4, 5, 6, 2, 7, 8] rfl rfl rfl (Nat.le_of_ble_eq_true rfl) (Nat.le_of_ble_eq_true rfl) rfl hl.1 rfl (Nat.le_of_ble_eq_true rfl) ⟨Nat.le_refl 0, Nat.le_refl 0⟩ dX7_look_20) hP hD hS hA [3, 1, 4, 5, 6, 2, 7, 8] rfl rfl (fun H locs hP hD hS => ?_)
    have hP : va_P D vwCl (wd_X7_look cI cZ AT AT_he AT_iz AT_io AT_tx AT_rd AT_fo AT_fi AT_he_sl AT_he_fl AT_he_ro AT_he_nt AT_he_mk AT_he_mo AT_he_fl_c AT_fi_ft AT_fi_bv AT_fi_ta AT_he_nt_c AT_fi_ta_sn vT_ab vT_be vT_bo vT_no vT_fu vT_he_ng vT_he_fl_n vT_he_nt_n fT_he_nt_c r_20.2.1 r_20.2.2.1 r_20.2.2.2.1 r_20.2.2.2.2.1 fT_he_fl_c r_20.2.2.2.2.2) H := hP
    have hD : va_D A (wd_X7_look cI cZ AT AT_he AT_iz AT_io AT_tx AT_rd AT_fo AT_fi AT_he_sl AT_he_fl AT_he_ro AT_he_nt AT_he_mk AT_he_mo AT_he_fl_c AT_fi_ft AT_fi_bv AT_fi_ta AT_he_nt_c AT_fi_ta_sn vT_ab vT_be vT_bo vT_no vT_fu vT_he_ng vT_he_fl_n vT_he_nt_n fT_he_nt_c r_20.2.1 r_20.2.2.1 r_20.2.2.2.1 r_20.2.2.2.2.1 fT_he_fl_c r_20.2.2.2.2.2) := hD
    have hm := Option.some.inj hm
    subst hm
    exact q_iret (v := r_20.1) hx hb hr hlocks hP hS dX7_look_23
  · have hm := it_s c_5 hm
    refine lv_aload_n hx hb dX7_look_8 rfl (lv_at hl 0 rfl) ?_
    refine lv_bipush (v := (-2)) hx hb dX7_look_9 (by decide) ?_
    obtain ⟨r_11, hc_11, hm⟩ := ob_s hm
    refine q_ci (q_rv (rest := []) ⟨hx, hb, hml, hown, hts⟩ hK hN hP hD (c_X7_refused l D cI cZ H.size AT AT_he AT_iz AT_io AT_tx AT_rd AT_fo AT_fi vT_ab vT_be vT_bo vT_no vT_fu (-2) r_11 hc_11) mb_X7_refused mv_X7_refused wl_X7_81 [0] rfl rfl rfl (Nat.le_of_ble_eq_true rfl) (Nat.le_of_ble_eq_true rfl) rfl hl.1 rfl (Nat.le_of_ble_eq_true rfl) ⟨Nat.le_refl 0, Nat.le_refl 0⟩ dX7_look_11) hP hD hS hA [0] rfl rfl (fun H locs hP hD hS => ?_)
    have hP : va_P D vwCl (wd_X7_look cI cZ AT AT_he AT_iz AT_io AT_tx AT_rd AT_fo AT_fi AT_he_sl AT_he_fl AT_he_ro AT_he_nt AT_he_mk AT_he_mo AT_he_fl_c AT_fi_ft AT_fi_bv AT_fi_ta AT_he_nt_c AT_fi_ta_sn vT_ab vT_be r_11.2.1 r_11.2.2.1 r_11.2.2.2 vT_he_ng vT_he_fl_n vT_he_nt_n fT_he_nt_c vT_fi_ta_hi vT_fi_ta_ms vT_fi_ta_bl vT_fi_ta_fw fT_he_fl_c fT_fi_ta_sn) H := hP
    have hD : va_D A (wd_X7_look cI cZ AT AT_he AT_iz AT_io AT_tx AT_rd AT_fo AT_fi AT_he_sl AT_he_fl AT_he_ro AT_he_nt AT_he_mk AT_he_mo AT_he_fl_c AT_fi_ft AT_fi_bv AT_fi_ta AT_he_nt_c AT_fi_ta_sn vT_ab vT_be r_11.2.1 r_11.2.2.1 r_11.2.2.2 vT_he_ng vT_he_fl_n vT_he_nt_n fT_he_nt_c vT_fi_ta_hi vT_fi_ta_ms vT_fi_ta_bl vT_fi_ta_fw fT_he_fl_c fT_fi_ta_sn) := hD
    have hm := Option.some.inj hm
    subst hm
    exact q_iret (v := r_11.1) hx hb hr hlocks hP hS dX7_look_14
theorem mb_X7_kinds : q_mb yX7_kinds cX7_kinds 2 (some .int) 1 := ⟨wc_X7_kinds, wn_X7, by decide, by decide, by decide +kernel⟩
theorem mv_X7_kinds : q_mv yX7_kinds 7 := ⟨wi_X7_kinds, ws_X7_kinds, _, rfl, rfl⟩
def wd_X7_kinds (cI cZ : ClassId) (AT AT_he AT_iz AT_io AT_tx AT_rd AT_fo AT_fi AT_he_sl AT_he_fl AT_he_ro AT_he_nt AT_he_mk AT_he_mo AT_he_sl_c AT_fi_ft AT_fi_bv AT_fi_ta AT_he_mk_c : Nat) (vT_ab : Int32) (vT_be : Int32) (vT_bo : Int32) (vT_no : Int32) (vT_fu : Int32) (vT_he_ng : Int32) (vT_he_sl_n : Int32) (vT_he_mk_n : Int32) (fT_he_mk_c : Nat → Int32) : va_W := [(AT, .inr (7, [.ref AT_he, .ref AT_iz, .ref AT_io, .ref AT_tx, .ref AT_rd, .ref AT_fo, .ref AT_fi, .int vT_ab, .int vT_be, .int vT_bo, .int vT_no, .int vT_fu])), (AT_he, .inr (4, [.ref AT_he_sl, .ref AT_he_fl, .ref AT_he_ro, .ref AT_he_nt, .ref AT_he_mk, .ref AT_he_mo, .int vT_he_ng])), (AT_he_sl, .inr (3, [.int 4, .ref AT_he_sl_c, .int vT_he_sl_n])), (AT_fi, .inr (0, [.ref AT_he, .ref AT_fi_ft, .ref AT_fi_bv, .ref AT_fi_ta])), (AT_he_mk, .inr (3, [.int 4, .ref AT_he_mk_c, .int vT_he_mk_n])), (AT_he_mk_c, .inl (cI, 24, .inl fT_he_mk_c))]
def fm_X7_kinds (p1 : Int32) (vT_bo : Int32) (vT_no : Int32) (vT_fu : Int32) (vT_he_sl_n : Int32) (vT_he_mk_n : Int32) (fT_he_mk_c : Nat → Int32) : Option (Int32 × Int32 × Int32 × Int32) := Option.bind (fm_X7_isSleeper p1 vT_he_sl_n) (fun r_2 => if r_2 = 0 then (Option.bind (fm_X7_refused (-2) vT_bo vT_no vT_fu) (fun r_11 => some (r_11.1, r_11.2.1, r_11.2.2.1, r_11.2.2.2))) else (Option.bind (fm_X0_sleeperKinds p1 vT_he_mk_n fT_he_mk_c) (fun r_20 => some (r_20, vT_bo, vT_no, vT_fu))))
set_option maxHeartbeats 4000000 in
set_option maxRecDepth 100000 in
theorem c_X7_kinds (l : Launch) (D : va_G) (cI cZ : ClassId) (sz : Nat) (AT AT_he AT_iz AT_io AT_tx AT_rd AT_fo AT_fi AT_he_sl AT_he_fl AT_he_ro AT_he_nt AT_he_mk AT_he_mo AT_he_sl_c AT_fi_ft AT_fi_bv AT_fi_ta AT_he_mk_c : Nat) (vT_ab : Int32) (vT_be : Int32) (vT_bo : Int32) (vT_no : Int32) (vT_fu : Int32) (vT_he_ng : Int32) (vT_he_sl_n : Int32) (vT_he_mk_n : Int32) (fT_he_mk_c : Nat → Int32) (p1 : Int32) (out : (Int32 × Int32 × Int32 × Int32)) (hm : fm_X7_kinds p1 vT_bo vT_no vT_fu vT_he_sl_n vT_he_mk_n fT_he_mk_c = some out) : Met l yX7_kinds (Cond.code yX7_kinds cX7_kinds 2 (some .int) :: bg) { frames := 3, cells := 0, slots := 0, locals := 73 } (va_Pc [.ref AT, .int p1] (q_pre D cI cZ sz (wd_X7_kinds cI cZ AT AT_he AT_iz AT_io AT_tx AT_rd AT_fo AT_fi AT_he_sl AT_he_fl AT_he_ro AT_he_nt AT_he_mk AT_he_mo AT_he_sl_c AT_fi_ft AT_fi_bv AT_fi_ta AT_he_mk_c vT_ab vT_be vT_bo vT_no vT_fu vT_he_ng vT_he_sl_n vT_he_mk_n fT_he_mk_c))) (q_Qi D (wd_X7_kinds cI cZ AT AT_he AT_iz AT_io AT_tx AT_rd AT_fo AT_fi AT_he_sl AT_he_fl AT_he_ro AT_he_nt AT_he_mk AT_he_mo AT_he_sl_c AT_fi_ft AT_fi_bv AT_fi_ta AT_he_mk_c vT_ab vT_be out.2.1 out.2.2.1 out.2.2.2 vT_he_ng vT_he_sl_n vT_he_mk_n fT_he_mk_c) out.1 (va_A (wd_X7_kinds cI cZ AT AT_he AT_iz AT_io AT_tx AT_rd AT_fo AT_fi AT_he_sl AT_he_fl AT_he_ro AT_he_nt AT_he_mk AT_he_mo AT_he_sl_c AT_fi_ft AT_fi_bv AT_fi_ta AT_he_mk_c vT_ab vT_be vT_bo vT_no vT_fu vT_he_ng vT_he_sl_n vT_he_mk_n fT_he_mk_c) sz)) 0 0 (va_A (wd_X7_kinds cI cZ AT AT_he AT_iz AT_io AT_tx AT_rd AT_fo AT_fi AT_he_sl AT_he_fl AT_he_ro AT_he_nt AT_he_mk AT_he_mo AT_he_sl_c AT_fi_ft AT_fi_bv AT_fi_ta AT_he_mk_c vT_ab vT_be vT_bo vT_no vT_fu vT_he_ng vT_he_sl_n vT_he_mk_n fT_he_mk_c) sz) := by
  refine q_met (fun A => q_Qi D (wd_X7_kinds cI cZ AT AT_he AT_iz AT_io AT_tx AT_rd AT_fo AT_fi AT_he_sl AT_he_fl AT_he_ro AT_he_nt AT_he_mk AT_he_mo AT_he_sl_c AT_fi_ft AT_fi_bv AT_fi_ta AT_he_mk_c vT_ab vT_be out.2.1 out.2.2.1 out.2.2.2 vT_he_ng vT_he_sl_n vT_he_mk_n fT_he_mk_c) out.1 A) (by decide) (Nat.le_of_ble_eq_true rfl) ?_
  intro p e s m below meth c ls A hx hb hr hml hown hts hlocks _ hA hS hP hD hK hN hl
  have hown : s.vm.findClass RX7 = some m.cls := hown
  have hl : lv_has ls 2 [(0, .ref AT), (1, .int p1)] := hl
  unfold fm_X7_kinds at hm
  refine q_gen hS hP ?_
  intro H locs hP hS
  refine lv_aload_n hx hb dX7_kinds_0 rfl (lv_at hl 0 rfl) ?_
  refine lv_iload_n hx hb dX7_kinds_1 rfl (lv_at hl 1 rfl) ?_
  obtain ⟨r_2, hc_2, hm⟩ := ob_s hm
  refine q_ci (q_rv (rest := []) ⟨hx, hb, hml, hown, hts⟩ hK hN hP hD (c_X7_isSleeper l D cI cZ H.size AT AT_he AT_iz AT_io AT_tx AT_rd AT_fo AT_fi AT_he_sl AT_he_fl AT_he_ro AT_he_nt AT_he_mk AT_he_mo AT_he_sl_c vT_ab vT_be vT_bo vT_no vT_fu vT_he_ng vT_he_sl_n p1 r_2 hc_2) mb_X7_isSleeper mv_X7_isSleeper wl_X7_135 [0, 1, 2] rfl rfl rfl (Nat.le_of_ble_eq_true rfl) (Nat.le_of_ble_eq_true rfl) rfl hl.1 rfl (Nat.le_of_ble_eq_true rfl) ⟨Nat.le_refl 0, Nat.le_refl 0⟩ dX7_kinds_2) hP hD hS hA [0, 1, 2] rfl rfl (fun H locs hP hD hS => ?_)
  have hP : va_P D vwCl (wd_X7_kinds cI cZ AT AT_he AT_iz AT_io AT_tx AT_rd AT_fo AT_fi AT_he_sl AT_he_fl AT_he_ro AT_he_nt AT_he_mk AT_he_mo AT_he_sl_c AT_fi_ft AT_fi_bv AT_fi_ta AT_he_mk_c vT_ab vT_be vT_bo vT_no vT_fu vT_he_ng vT_he_sl_n vT_he_mk_n fT_he_mk_c) H := hP
  have hD : va_D A (wd_X7_kinds cI cZ AT AT_he AT_iz AT_io AT_tx AT_rd AT_fo AT_fi AT_he_sl AT_he_fl AT_he_ro AT_he_nt AT_he_mk AT_he_mo AT_he_sl_c AT_fi_ft AT_fi_bv AT_fi_ta AT_he_mk_c vT_ab vT_be vT_bo vT_no vT_fu vT_he_ng vT_he_sl_n vT_he_mk_n fT_he_mk_c) := hD
  refine lv_if_ne (tgt := 15) hx hb dX7_kinds_5 (by decide) (fun c_5 => ?_) (fun c_5 => ?_)
  · have hm := it_n c_5 hm
    refine lv_aload_n hx hb dX7_kinds_15 rfl (lv_at hl 0 rfl) ?_
    refine gf_X7_56 (v := .ref AT_fi) hx hb hts hown hK hN hP 0 rfl rfl dX7_kinds_16 ?_
    refine lv_iload_n hx hb dX7_kinds_19 rfl (lv_at hl 1 rfl) ?_
    obtain ⟨r_20, hc_20, hm⟩ := ob_s hm
    refine q_ci (q_rv (rest := []) ⟨hx, hb, hml, hown, hts⟩ hK hN hP hD (c_X0_sleeperKinds l D cI cZ H.size AT_fi AT_he AT_fi_ft AT_fi_bv AT_fi_ta AT_he_sl AT_he_fl AT_he_ro AT_he_nt AT_he_mk AT_he_mo AT_he_mk_c vT_he_ng vT_he_mk_n fT_he_mk_c p1 r_20 hc_20) mb_X0_sleeperKinds mv_X0_sleeperKinds wl_X7_213 [3, 1, 4, 5] rfl rfl rfl (Nat.le_of_ble_eq_true rfl) (Nat.le_of_ble_eq_true rfl) rfl hl.1 rfl (Nat.le_of_ble_eq_true rfl) ⟨Nat.le_refl 0, Nat.le_refl 0⟩ dX7_kinds_20) hP hD hS hA [3, 1, 4, 5] rfl rfl (fun H locs hP hD hS => ?_)
    have hP : va_P D vwCl (wd_X7_kinds cI cZ AT AT_he AT_iz AT_io AT_tx AT_rd AT_fo AT_fi AT_he_sl AT_he_fl AT_he_ro AT_he_nt AT_he_mk AT_he_mo AT_he_sl_c AT_fi_ft AT_fi_bv AT_fi_ta AT_he_mk_c vT_ab vT_be vT_bo vT_no vT_fu vT_he_ng vT_he_sl_n vT_he_mk_n fT_he_mk_c) H := hP
    have hD : va_D A (wd_X7_kinds cI cZ AT AT_he AT_iz AT_io AT_tx AT_rd AT_fo AT_fi AT_he_sl AT_he_fl AT_he_ro AT_he_nt AT_he_mk AT_he_mo AT_he_sl_c AT_fi_ft AT_fi_bv AT_fi_ta AT_he_mk_c vT_ab vT_be vT_bo vT_no vT_fu vT_he_ng vT_he_sl_n vT_he_mk_n fT_he_mk_c) := hD
    have hm := Option.some.inj hm
    subst hm
    exact q_iret (v := r_20) hx hb hr hlocks hP hS dX7_kinds_23
  · have hm := it_s c_5 hm
    refine lv_aload_n hx hb dX7_kinds_8 rfl (lv_at hl 0 rfl) ?_
    refine lv_bipush (v := (-2)) hx hb dX7_kinds_9 (by decide) ?_
    obtain ⟨r_11, hc_11, hm⟩ := ob_s hm
    refine q_ci (q_rv (rest := []) ⟨hx, hb, hml, hown, hts⟩ hK hN hP hD (c_X7_refused l D cI cZ H.size AT AT_he AT_iz AT_io AT_tx AT_rd AT_fo AT_fi vT_ab vT_be vT_bo vT_no vT_fu (-2) r_11 hc_11) mb_X7_refused mv_X7_refused wl_X7_81 [0] rfl rfl rfl (Nat.le_of_ble_eq_true rfl) (Nat.le_of_ble_eq_true rfl) rfl hl.1 rfl (Nat.le_of_ble_eq_true rfl) ⟨Nat.le_refl 0, Nat.le_refl 0⟩ dX7_kinds_11) hP hD hS hA [0] rfl rfl (fun H locs hP hD hS => ?_)
    have hP : va_P D vwCl (wd_X7_kinds cI cZ AT AT_he AT_iz AT_io AT_tx AT_rd AT_fo AT_fi AT_he_sl AT_he_fl AT_he_ro AT_he_nt AT_he_mk AT_he_mo AT_he_sl_c AT_fi_ft AT_fi_bv AT_fi_ta AT_he_mk_c vT_ab vT_be r_11.2.1 r_11.2.2.1 r_11.2.2.2 vT_he_ng vT_he_sl_n vT_he_mk_n fT_he_mk_c) H := hP
    have hD : va_D A (wd_X7_kinds cI cZ AT AT_he AT_iz AT_io AT_tx AT_rd AT_fo AT_fi AT_he_sl AT_he_fl AT_he_ro AT_he_nt AT_he_mk AT_he_mo AT_he_sl_c AT_fi_ft AT_fi_bv AT_fi_ta AT_he_mk_c vT_ab vT_be r_11.2.1 r_11.2.2.1 r_11.2.2.2 vT_he_ng vT_he_sl_n vT_he_mk_n fT_he_mk_c) := hD
    have hm := Option.some.inj hm
    subst hm
    exact q_iret (v := r_11.1) hx hb hr hlocks hP hS dX7_kinds_14
theorem mb_X7_ask : q_mb yX7_ask cX7_ask 2 (some .int) 1 := ⟨wc_X7_ask, wn_X7, by decide, by decide, by decide +kernel⟩
theorem mv_X7_ask : q_mv yX7_ask 7 := ⟨wi_X7_ask, ws_X7_ask, _, rfl, rfl⟩
def wd_X7_ask (cI cZ : ClassId) (AT AT_he AT_iz AT_io AT_tx AT_rd AT_fo AT_fi AT_he_sl AT_he_fl AT_he_ro AT_he_nt AT_he_mk AT_he_mo AT_he_sl_c AT_fi_ft AT_fi_bv AT_fi_ta AT_he_mk_c AT_fi_ta_sn : Nat) (vT_ab : Int32) (vT_be : Int32) (vT_bo : Int32) (vT_no : Int32) (vT_fu : Int32) (vT_he_ng : Int32) (vT_he_sl_n : Int32) (vT_he_mk_n : Int32) (fT_he_mk_c : Nat → Int32) (vT_fi_ta_hi : Int32) (vT_fi_ta_ms : Int32) (vT_fi_ta_bl : Int32) (vT_fi_ta_fw : Int32) (fT_fi_ta_sn : Nat → Int32) : va_W := [(AT, .inr (7, [.ref AT_he, .ref AT_iz, .ref AT_io, .ref AT_tx, .ref AT_rd, .ref AT_fo, .ref AT_fi, .int vT_ab, .int vT_be, .int vT_bo, .int vT_no, .int vT_fu])), (AT_he, .inr (4, [.ref AT_he_sl, .ref AT_he_fl, .ref AT_he_ro, .ref AT_he_nt, .ref AT_he_mk, .ref AT_he_mo, .int vT_he_ng])), (AT_he_sl, .inr (3, [.int 4, .ref AT_he_sl_c, .int vT_he_sl_n])), (AT_fi, .inr (0, [.ref AT_he, .ref AT_fi_ft, .ref AT_fi_bv, .ref AT_fi_ta])), (AT_he_mk, .inr (3, [.int 4, .ref AT_he_mk_c, .int vT_he_mk_n])), (AT_he_mk_c, .inl (cI, 24, .inl fT_he_mk_c)), (AT_fi_ta, .inr (6, [.ref AT_fi_ta_sn, .int vT_fi_ta_hi, .int vT_fi_ta_ms, .int vT_fi_ta_bl, .int vT_fi_ta_fw])), (AT_fi_ta_sn, .inl (cI, 256, .inl fT_fi_ta_sn))]
def fm_X7_ask (p1 : Int32) (vT_bo : Int32) (vT_no : Int32) (vT_fu : Int32) (vT_he_sl_n : Int32) (vT_he_mk_n : Int32) (fT_he_mk_c : Nat → Int32) (vT_fi_ta_hi : Int32) (vT_fi_ta_ms : Int32) (vT_fi_ta_bl : Int32) (vT_fi_ta_fw : Int32) (fT_fi_ta_sn : Nat → Int32) : Option (Int32 × Int32 × Int32 × Int32 × Int32 × Int32 × Int32 × Int32 × (Nat → Int32)) := Option.bind (fm_X7_isSleeper p1 vT_he_sl_n) (fun r_2 => if r_2 = 0 then (Option.bind (fm_X7_refused (-2) vT_bo vT_no vT_fu) (fun r_11 => some (r_11.1, r_11.2.1, r_11.2.2.1, r_11.2.2.2, vT_fi_ta_hi, vT_fi_ta_ms, vT_fi_ta_bl, vT_fi_ta_fw, fT_fi_ta_sn))) else (Option.bind (fm_X0_asking p1 vT_he_mk_n fT_he_mk_c vT_fi_ta_hi vT_fi_ta_ms vT_fi_ta_bl vT_fi_ta_fw fT_fi_ta_sn) (fun r_20 => some (r_20.1, vT_bo, vT_no, vT_fu, r_20.2.1, r_20.2.2.1, r_20.2.2.2.1, r_20.2.2.2.2.1, r_20.2.2.2.2.2))))
set_option maxHeartbeats 4000000 in
set_option maxRecDepth 100000 in
theorem c_X7_ask (l : Launch) (D : va_G) (cI cZ : ClassId) (sz : Nat) (AT AT_he AT_iz AT_io AT_tx AT_rd AT_fo AT_fi AT_he_sl AT_he_fl AT_he_ro AT_he_nt AT_he_mk AT_he_mo AT_he_sl_c AT_fi_ft AT_fi_bv AT_fi_ta AT_he_mk_c AT_fi_ta_sn : Nat) (vT_ab : Int32) (vT_be : Int32) (vT_bo : Int32) (vT_no : Int32) (vT_fu : Int32) (vT_he_ng : Int32) (vT_he_sl_n : Int32) (vT_he_mk_n : Int32) (fT_he_mk_c : Nat → Int32) (vT_fi_ta_hi : Int32) (vT_fi_ta_ms : Int32) (vT_fi_ta_bl : Int32) (vT_fi_ta_fw : Int32) (fT_fi_ta_sn : Nat → Int32) (p1 : Int32) (out : (Int32 × Int32 × Int32 × Int32 × Int32 × Int32 × Int32 × Int32 × (Nat → Int32))) (hm : fm_X7_ask p1 vT_bo vT_no vT_fu vT_he_sl_n vT_he_mk_n fT_he_mk_c vT_fi_ta_hi vT_fi_ta_ms vT_fi_ta_bl vT_fi_ta_fw fT_fi_ta_sn = some out) : Met l yX7_ask (Cond.code yX7_ask cX7_ask 2 (some .int) :: bg) { frames := 4, cells := 0, slots := 0, locals := 96 } (va_Pc [.ref AT, .int p1] (q_pre D cI cZ sz (wd_X7_ask cI cZ AT AT_he AT_iz AT_io AT_tx AT_rd AT_fo AT_fi AT_he_sl AT_he_fl AT_he_ro AT_he_nt AT_he_mk AT_he_mo AT_he_sl_c AT_fi_ft AT_fi_bv AT_fi_ta AT_he_mk_c AT_fi_ta_sn vT_ab vT_be vT_bo vT_no vT_fu vT_he_ng vT_he_sl_n vT_he_mk_n fT_he_mk_c vT_fi_ta_hi vT_fi_ta_ms vT_fi_ta_bl vT_fi_ta_fw fT_fi_ta_sn))) (q_Qi D (wd_X7_ask cI cZ AT AT_he AT_iz AT_io AT_tx AT_rd AT_fo AT_fi AT_he_sl AT_he_fl AT_he_ro AT_he_nt AT_he_mk AT_he_mo AT_he_sl_c AT_fi_ft AT_fi_bv AT_fi_ta AT_he_mk_c AT_fi_ta_sn vT_ab vT_be out.2.1 out.2.2.1 out.2.2.2.1 vT_he_ng vT_he_sl_n vT_he_mk_n fT_he_mk_c out.2.2.2.2.1 out.2.2.2.2.2.1 out.2.2.2.2.2.2.1 out.2.2.2.2.2.2.2.1 out.2.2.2.2.2.2.2.2) out.1 (va_A (wd_X7_ask cI cZ AT AT_he AT_iz AT_io AT_tx AT_rd AT_fo AT_fi AT_he_sl AT_he_fl AT_he_ro AT_he_nt AT_he_mk AT_he_mo AT_he_sl_c AT_fi_ft AT_fi_bv AT_fi_ta AT_he_mk_c AT_fi_ta_sn vT_ab vT_be vT_bo vT_no vT_fu vT_he_ng vT_he_sl_n vT_he_mk_n fT_he_mk_c vT_fi_ta_hi vT_fi_ta_ms vT_fi_ta_bl vT_fi_ta_fw fT_fi_ta_sn) sz)) 0 0 (va_A (wd_X7_ask cI cZ AT AT_he AT_iz AT_io AT_tx AT_rd AT_fo AT_fi AT_he_sl AT_he_fl AT_he_ro AT_he_nt AT_he_mk AT_he_mo AT_he_sl_c AT_fi_ft AT_fi_bv AT_fi_ta AT_he_mk_c AT_fi_ta_sn vT_ab vT_be vT_bo vT_no vT_fu vT_he_ng vT_he_sl_n vT_he_mk_n fT_he_mk_c vT_fi_ta_hi vT_fi_ta_ms vT_fi_ta_bl vT_fi_ta_fw fT_fi_ta_sn) sz) := by
  refine q_met (fun A => q_Qi D (wd_X7_ask cI cZ AT AT_he AT_iz AT_io AT_tx AT_rd AT_fo AT_fi AT_he_sl AT_he_fl AT_he_ro AT_he_nt AT_he_mk AT_he_mo AT_he_sl_c AT_fi_ft AT_fi_bv AT_fi_ta AT_he_mk_c AT_fi_ta_sn vT_ab vT_be out.2.1 out.2.2.1 out.2.2.2.1 vT_he_ng vT_he_sl_n vT_he_mk_n fT_he_mk_c out.2.2.2.2.1 out.2.2.2.2.2.1 out.2.2.2.2.2.2.1 out.2.2.2.2.2.2.2.1 out.2.2.2.2.2.2.2.2) out.1 A) (by decide) (Nat.le_of_ble_eq_true rfl) ?_
  intro p e s m below meth c ls A hx hb hr hml hown hts hlocks _ hA hS hP hD hK hN hl
  have hown : s.vm.findClass RX7 = some m.cls := hown
  have hl : lv_has ls 2 [(0, .ref AT), (1, .int p1)] := hl
  unfold fm_X7_ask at hm
  refine q_gen hS hP ?_
  intro H locs hP hS
  refine lv_aload_n hx hb dX7_ask_0 rfl (lv_at hl 0 rfl) ?_
  refine lv_iload_n hx hb dX7_ask_1 rfl (lv_at hl 1 rfl) ?_
  obtain ⟨r_2, hc_2, hm⟩ := ob_s hm
  refine q_ci (q_rv (rest := []) ⟨hx, hb, hml, hown, hts⟩ hK hN hP hD (c_X7_isSleeper l D cI cZ H.size AT AT_he AT_iz AT_io AT_tx AT_rd AT_fo AT_fi AT_he_sl AT_he_fl AT_he_ro AT_he_nt AT_he_mk AT_he_mo AT_he_sl_c vT_ab vT_be vT_bo vT_no vT_fu vT_he_ng vT_he_sl_n p1 r_2 hc_2) mb_X7_isSleeper mv_X7_isSleeper wl_X7_135 [0, 1, 2] rfl rfl rfl (Nat.le_of_ble_eq_true rfl) (Nat.le_of_ble_eq_true rfl) rfl hl.1 rfl (Nat.le_of_ble_eq_true rfl) ⟨Nat.le_refl 0, Nat.le_refl 0⟩ dX7_ask_2) hP hD hS hA [0, 1, 2] rfl rfl (fun H locs hP hD hS => ?_)
  have hP : va_P D vwCl (wd_X7_ask cI cZ AT AT_he AT_iz AT_io AT_tx AT_rd AT_fo AT_fi AT_he_sl AT_he_fl AT_he_ro AT_he_nt AT_he_mk AT_he_mo AT_he_sl_c AT_fi_ft AT_fi_bv AT_fi_ta AT_he_mk_c AT_fi_ta_sn vT_ab vT_be vT_bo vT_no vT_fu vT_he_ng vT_he_sl_n vT_he_mk_n fT_he_mk_c vT_fi_ta_hi vT_fi_ta_ms vT_fi_ta_bl vT_fi_ta_fw fT_fi_ta_sn) H := hP
  have hD : va_D A (wd_X7_ask cI cZ AT AT_he AT_iz AT_io AT_tx AT_rd AT_fo AT_fi AT_he_sl AT_he_fl AT_he_ro AT_he_nt AT_he_mk AT_he_mo AT_he_sl_c AT_fi_ft AT_fi_bv AT_fi_ta AT_he_mk_c AT_fi_ta_sn vT_ab vT_be vT_bo vT_no vT_fu vT_he_ng vT_he_sl_n vT_he_mk_n fT_he_mk_c vT_fi_ta_hi vT_fi_ta_ms vT_fi_ta_bl vT_fi_ta_fw fT_fi_ta_sn) := hD
  refine lv_if_ne (tgt := 15) hx hb dX7_ask_5 (by decide) (fun c_5 => ?_) (fun c_5 => ?_)
  · have hm := it_n c_5 hm
    refine lv_aload_n hx hb dX7_ask_15 rfl (lv_at hl 0 rfl) ?_
    refine gf_X7_56 (v := .ref AT_fi) hx hb hts hown hK hN hP 0 rfl rfl dX7_ask_16 ?_
    refine lv_iload_n hx hb dX7_ask_19 rfl (lv_at hl 1 rfl) ?_
    obtain ⟨r_20, hc_20, hm⟩ := ob_s hm
    refine q_ci (q_rv (rest := []) ⟨hx, hb, hml, hown, hts⟩ hK hN hP hD (c_X0_asking l D cI cZ H.size AT_fi AT_he AT_fi_ft AT_fi_bv AT_fi_ta AT_he_sl AT_he_fl AT_he_ro AT_he_nt AT_he_mk AT_he_mo AT_he_mk_c AT_fi_ta_sn vT_he_ng vT_he_mk_n fT_he_mk_c vT_fi_ta_hi vT_fi_ta_ms vT_fi_ta_bl vT_fi_ta_fw fT_fi_ta_sn p1 r_20 hc_20) mb_X0_asking mv_X0_asking wl_X7_216 [3, 1, 4, 5, 6, 7] rfl rfl rfl (Nat.le_of_ble_eq_true rfl) (Nat.le_of_ble_eq_true rfl) rfl hl.1 rfl (Nat.le_of_ble_eq_true rfl) ⟨Nat.le_refl 0, Nat.le_refl 0⟩ dX7_ask_20) hP hD hS hA [3, 1, 4, 5, 6, 7] rfl rfl (fun H locs hP hD hS => ?_)
    have hP : va_P D vwCl (wd_X7_ask cI cZ AT AT_he AT_iz AT_io AT_tx AT_rd AT_fo AT_fi AT_he_sl AT_he_fl AT_he_ro AT_he_nt AT_he_mk AT_he_mo AT_he_sl_c AT_fi_ft AT_fi_bv AT_fi_ta AT_he_mk_c AT_fi_ta_sn vT_ab vT_be vT_bo vT_no vT_fu vT_he_ng vT_he_sl_n vT_he_mk_n fT_he_mk_c r_20.2.1 r_20.2.2.1 r_20.2.2.2.1 r_20.2.2.2.2.1 r_20.2.2.2.2.2) H := hP
    have hD : va_D A (wd_X7_ask cI cZ AT AT_he AT_iz AT_io AT_tx AT_rd AT_fo AT_fi AT_he_sl AT_he_fl AT_he_ro AT_he_nt AT_he_mk AT_he_mo AT_he_sl_c AT_fi_ft AT_fi_bv AT_fi_ta AT_he_mk_c AT_fi_ta_sn vT_ab vT_be vT_bo vT_no vT_fu vT_he_ng vT_he_sl_n vT_he_mk_n fT_he_mk_c r_20.2.1 r_20.2.2.1 r_20.2.2.2.1 r_20.2.2.2.2.1 r_20.2.2.2.2.2) := hD
    have hm := Option.some.inj hm
    subst hm
    exact q_iret (v := r_20.1) hx hb hr hlocks hP hS dX7_ask_23
  · have hm := it_s c_5 hm
    refine lv_aload_n hx hb dX7_ask_8 rfl (lv_at hl 0 rfl) ?_
    refine lv_bipush (v := (-2)) hx hb dX7_ask_9 (by decide) ?_
    obtain ⟨r_11, hc_11, hm⟩ := ob_s hm
    refine q_ci (q_rv (rest := []) ⟨hx, hb, hml, hown, hts⟩ hK hN hP hD (c_X7_refused l D cI cZ H.size AT AT_he AT_iz AT_io AT_tx AT_rd AT_fo AT_fi vT_ab vT_be vT_bo vT_no vT_fu (-2) r_11 hc_11) mb_X7_refused mv_X7_refused wl_X7_81 [0] rfl rfl rfl (Nat.le_of_ble_eq_true rfl) (Nat.le_of_ble_eq_true rfl) rfl hl.1 rfl (Nat.le_of_ble_eq_true rfl) ⟨Nat.le_refl 0, Nat.le_refl 0⟩ dX7_ask_11) hP hD hS hA [0] rfl rfl (fun H locs hP hD hS => ?_)
    have hP : va_P D vwCl (wd_X7_ask cI cZ AT AT_he AT_iz AT_io AT_tx AT_rd AT_fo AT_fi AT_he_sl AT_he_fl AT_he_ro AT_he_nt AT_he_mk AT_he_mo AT_he_sl_c AT_fi_ft AT_fi_bv AT_fi_ta AT_he_mk_c AT_fi_ta_sn vT_ab vT_be r_11.2.1 r_11.2.2.1 r_11.2.2.2 vT_he_ng vT_he_sl_n vT_he_mk_n fT_he_mk_c vT_fi_ta_hi vT_fi_ta_ms vT_fi_ta_bl vT_fi_ta_fw fT_fi_ta_sn) H := hP
    have hD : va_D A (wd_X7_ask cI cZ AT AT_he AT_iz AT_io AT_tx AT_rd AT_fo AT_fi AT_he_sl AT_he_fl AT_he_ro AT_he_nt AT_he_mk AT_he_mo AT_he_sl_c AT_fi_ft AT_fi_bv AT_fi_ta AT_he_mk_c AT_fi_ta_sn vT_ab vT_be r_11.2.1 r_11.2.2.1 r_11.2.2.2 vT_he_ng vT_he_sl_n vT_he_mk_n fT_he_mk_c vT_fi_ta_hi vT_fi_ta_ms vT_fi_ta_bl vT_fi_ta_fw fT_fi_ta_sn) := hD
    have hm := Option.some.inj hm
    subst hm
    exact q_iret (v := r_11.1) hx hb hr hlocks hP hS dX7_ask_14
theorem mb_X7_senders : q_mb yX7_senders cX7_senders 4 (some .int) 3 := ⟨wc_X7_senders, wn_X7, by decide, by decide, by decide +kernel⟩
theorem mv_X7_senders : q_mv yX7_senders 7 := ⟨wi_X7_senders, ws_X7_senders, _, rfl, rfl⟩
def wd_X7_senders (cI cZ : ClassId) (AT AT_he AT_iz AT_io AT_tx AT_rd AT_fo AT_fi AT_he_sl AT_he_fl AT_he_ro AT_he_nt AT_he_mk AT_he_mo AT_he_fl_c AT_fo_tr AT_fo_ga AT_fo_bb AT_fo_fg AT_fo_sg AT_he_sl_c : Nat) (vT_ab : Int32) (vT_be : Int32) (vT_bo : Int32) (vT_no : Int32) (vT_fu : Int32) (vT_he_ng : Int32) (vT_he_fl_n : Int32) (vT_he_sl_n : Int32) (fT_he_sl_c : Nat → Int32) (fT_he_fl_c : Nat → Int32) (fT_fo_fg : Nat → Int32) (fT_fo_sg : Nat → Int32) : va_W := [(AT, .inr (7, [.ref AT_he, .ref AT_iz, .ref AT_io, .ref AT_tx, .ref AT_rd, .ref AT_fo, .ref AT_fi, .int vT_ab, .int vT_be, .int vT_bo, .int vT_no, .int vT_fu])), (AT_he, .inr (4, [.ref AT_he_sl, .ref AT_he_fl, .ref AT_he_ro, .ref AT_he_nt, .ref AT_he_mk, .ref AT_he_mo, .int vT_he_ng])), (AT_he_fl, .inr (3, [.int 3, .ref AT_he_fl_c, .int vT_he_fl_n])), (AT_fo, .inr (1, [.ref AT_he, .ref AT_fo_tr, .ref AT_fo_ga, .ref AT_fo_bb, .ref AT_fo_fg, .ref AT_fo_sg])), (AT_he_sl, .inr (3, [.int 4, .ref AT_he_sl_c, .int vT_he_sl_n])), (AT_he_sl_c, .inl (cI, 24, .inl fT_he_sl_c)), (AT_he_fl_c, .inl (cI, 18, .inl fT_he_fl_c)), (AT_fo_fg, .inl (cI, 6, .inl fT_fo_fg)), (AT_fo_sg, .inl (cI, 6, .inl fT_fo_sg))]
def fm_X7_senders (p1 : Int32) (p2 : Int32) (p3 : Int32) (vT_bo : Int32) (vT_no : Int32) (vT_fu : Int32) (vT_he_ng : Int32) (vT_he_fl_n : Int32) (vT_he_sl_n : Int32) (fT_he_sl_c : Nat → Int32) (fT_he_fl_c : Nat → Int32) (fT_fo_fg : Nat → Int32) (fT_fo_sg : Nat → Int32) : Option (Int32 × Int32 × Int32 × Int32 × (Nat → Int32) × (Nat → Int32)) := Option.bind (fm_X7_isFlower p1 vT_he_fl_n) (fun r_2 => if r_2 = 0 then (Option.bind (fm_X7_refused (-2) vT_bo vT_no vT_fu) (fun r_29 => some ((-10), r_29.2.1, r_29.2.2.1, r_29.2.2.2, fT_fo_fg, fT_fo_sg))) else (Option.bind (fm_X7_isFlower p2 vT_he_fl_n) (fun r_10 => if r_10 = 0 then (Option.bind (fm_X7_refused (-2) vT_bo vT_no vT_fu) (fun r_29 => some ((-10), r_29.2.1, r_29.2.2.1, r_29.2.2.2, fT_fo_fg, fT_fo_sg))) else (if p1 = p2 then (Option.bind (fm_X7_refused (-2) vT_bo vT_no vT_fu) (fun r_29 => some ((-10), r_29.2.1, r_29.2.2.1, r_29.2.2.2, fT_fo_fg, fT_fo_sg))) else (if (-1) ≤ p3 then (Option.bind (fm_X1_restingPair p1 p2 p3 vT_he_ng vT_he_sl_n fT_he_sl_c vT_he_fl_n fT_he_fl_c fT_fo_fg fT_fo_sg) (fun r_43 => some (r_43.1, vT_bo, vT_no, vT_fu, r_43.2.1, r_43.2.2))) else (Option.bind (fm_X7_refused (-2) vT_bo vT_no vT_fu) (fun r_29 => some ((-10), r_29.2.1, r_29.2.2.1, r_29.2.2.2, fT_fo_fg, fT_fo_sg))))))))
set_option maxHeartbeats 4000000 in
set_option maxRecDepth 100000 in
theorem c_X7_senders (l : Launch) (D : va_G) (cI cZ : ClassId) (sz : Nat) (AT AT_he AT_iz AT_io AT_tx AT_rd AT_fo AT_fi AT_he_sl AT_he_fl AT_he_ro AT_he_nt AT_he_mk AT_he_mo AT_he_fl_c AT_fo_tr AT_fo_ga AT_fo_bb AT_fo_fg AT_fo_sg AT_he_sl_c : Nat) (vT_ab : Int32) (vT_be : Int32) (vT_bo : Int32) (vT_no : Int32) (vT_fu : Int32) (vT_he_ng : Int32) (vT_he_fl_n : Int32) (vT_he_sl_n : Int32) (fT_he_sl_c : Nat → Int32) (fT_he_fl_c : Nat → Int32) (fT_fo_fg : Nat → Int32) (fT_fo_sg : Nat → Int32) (p1 : Int32) (p2 : Int32) (p3 : Int32) (out : (Int32 × Int32 × Int32 × Int32 × (Nat → Int32) × (Nat → Int32))) (hm : fm_X7_senders p1 p2 p3 vT_bo vT_no vT_fu vT_he_ng vT_he_fl_n vT_he_sl_n fT_he_sl_c fT_he_fl_c fT_fo_fg fT_fo_sg = some out) : Met l yX7_senders (Cond.code yX7_senders cX7_senders 4 (some .int) :: bg) { frames := 5, cells := 0, slots := 0, locals := 120 } (va_Pc [.ref AT, .int p1, .int p2, .int p3] (q_pre D cI cZ sz (wd_X7_senders cI cZ AT AT_he AT_iz AT_io AT_tx AT_rd AT_fo AT_fi AT_he_sl AT_he_fl AT_he_ro AT_he_nt AT_he_mk AT_he_mo AT_he_fl_c AT_fo_tr AT_fo_ga AT_fo_bb AT_fo_fg AT_fo_sg AT_he_sl_c vT_ab vT_be vT_bo vT_no vT_fu vT_he_ng vT_he_fl_n vT_he_sl_n fT_he_sl_c fT_he_fl_c fT_fo_fg fT_fo_sg))) (q_Qi D (wd_X7_senders cI cZ AT AT_he AT_iz AT_io AT_tx AT_rd AT_fo AT_fi AT_he_sl AT_he_fl AT_he_ro AT_he_nt AT_he_mk AT_he_mo AT_he_fl_c AT_fo_tr AT_fo_ga AT_fo_bb AT_fo_fg AT_fo_sg AT_he_sl_c vT_ab vT_be out.2.1 out.2.2.1 out.2.2.2.1 vT_he_ng vT_he_fl_n vT_he_sl_n fT_he_sl_c fT_he_fl_c out.2.2.2.2.1 out.2.2.2.2.2) out.1 (va_A (wd_X7_senders cI cZ AT AT_he AT_iz AT_io AT_tx AT_rd AT_fo AT_fi AT_he_sl AT_he_fl AT_he_ro AT_he_nt AT_he_mk AT_he_mo AT_he_fl_c AT_fo_tr AT_fo_ga AT_fo_bb AT_fo_fg AT_fo_sg AT_he_sl_c vT_ab vT_be vT_bo vT_no vT_fu vT_he_ng vT_he_fl_n vT_he_sl_n fT_he_sl_c fT_he_fl_c fT_fo_fg fT_fo_sg) sz)) 0 0 (va_A (wd_X7_senders cI cZ AT AT_he AT_iz AT_io AT_tx AT_rd AT_fo AT_fi AT_he_sl AT_he_fl AT_he_ro AT_he_nt AT_he_mk AT_he_mo AT_he_fl_c AT_fo_tr AT_fo_ga AT_fo_bb AT_fo_fg AT_fo_sg AT_he_sl_c vT_ab vT_be vT_bo vT_no vT_fu vT_he_ng vT_he_fl_n vT_he_sl_n fT_he_sl_c fT_he_fl_c fT_fo_fg fT_fo_sg) sz) := by
  refine q_met (fun A => q_Qi D (wd_X7_senders cI cZ AT AT_he AT_iz AT_io AT_tx AT_rd AT_fo AT_fi AT_he_sl AT_he_fl AT_he_ro AT_he_nt AT_he_mk AT_he_mo AT_he_fl_c AT_fo_tr AT_fo_ga AT_fo_bb AT_fo_fg AT_fo_sg AT_he_sl_c vT_ab vT_be out.2.1 out.2.2.1 out.2.2.2.1 vT_he_ng vT_he_fl_n vT_he_sl_n fT_he_sl_c fT_he_fl_c out.2.2.2.2.1 out.2.2.2.2.2) out.1 A) (by decide) (Nat.le_of_ble_eq_true rfl) ?_
  intro p e s m below meth c ls A hx hb hr hml hown hts hlocks _ hA hS hP hD hK hN hl
  have hown : s.vm.findClass RX7 = some m.cls := hown
  have hl : lv_has ls 4 [(0, .ref AT), (1, .int p1), (2, .int p2), (3, .int p3)] := hl
  unfold fm_X7_senders at hm
  refine q_gen hS hP ?_
  intro H locs hP hS
  refine lv_aload_n hx hb dX7_senders_0 rfl (lv_at hl 0 rfl) ?_
  refine lv_iload_n hx hb dX7_senders_1 rfl (lv_at hl 1 rfl) ?_
  obtain ⟨r_2, hc_2, hm⟩ := ob_s hm
  refine q_ci (q_rv (rest := []) ⟨hx, hb, hml, hown, hts⟩ hK hN hP hD (c_X7_isFlower l D cI cZ H.size AT AT_he AT_iz AT_io AT_tx AT_rd AT_fo AT_fi AT_he_sl AT_he_fl AT_he_ro AT_he_nt AT_he_mk AT_he_mo AT_he_fl_c vT_ab vT_be vT_bo vT_no vT_fu vT_he_ng vT_he_fl_n p1 r_2 hc_2) mb_X7_isFlower mv_X7_isFlower wl_X7_145 [0, 1, 2] rfl rfl rfl (Nat.le_of_ble_eq_true rfl) (Nat.le_of_ble_eq_true rfl) rfl hl.1 rfl (Nat.le_of_ble_eq_true rfl) ⟨Nat.le_refl 0, Nat.le_refl 0⟩ dX7_senders_2) hP hD hS hA [0, 1, 2] rfl rfl (fun H locs hP hD hS => ?_)
  have hP : va_P D vwCl (wd_X7_senders cI cZ AT AT_he AT_iz AT_io AT_tx AT_rd AT_fo AT_fi AT_he_sl AT_he_fl AT_he_ro AT_he_nt AT_he_mk AT_he_mo AT_he_fl_c AT_fo_tr AT_fo_ga AT_fo_bb AT_fo_fg AT_fo_sg AT_he_sl_c vT_ab vT_be vT_bo vT_no vT_fu vT_he_ng vT_he_fl_n vT_he_sl_n fT_he_sl_c fT_he_fl_c fT_fo_fg fT_fo_sg) H := hP
  have hD : va_D A (wd_X7_senders cI cZ AT AT_he AT_iz AT_io AT_tx AT_rd AT_fo AT_fi AT_he_sl AT_he_fl AT_he_ro AT_he_nt AT_he_mk AT_he_mo AT_he_fl_c AT_fo_tr AT_fo_ga AT_fo_bb AT_fo_fg AT_fo_sg AT_he_sl_c vT_ab vT_be vT_bo vT_no vT_fu vT_he_ng vT_he_fl_n vT_he_sl_n fT_he_sl_c fT_he_fl_c fT_fo_fg fT_fo_sg) := hD
  refine lv_if_eq (tgt := 26) hx hb dX7_senders_5 (by decide) (fun c_5 => ?_) (fun c_5 => ?_)
  · have hm := it_s c_5 hm
    refine lv_aload_n hx hb dX7_senders_26 rfl (lv_at hl 0 rfl) ?_
    refine lv_bipush (v := (-2)) hx hb dX7_senders_27 (by decide) ?_
    obtain ⟨r_29, hc_29, hm⟩ := ob_s hm
    refine q_ci (q_rv (rest := []) ⟨hx, hb, hml, hown, hts⟩ hK hN hP hD (c_X7_refused l D cI cZ H.size AT AT_he AT_iz AT_io AT_tx AT_rd AT_fo AT_fi vT_ab vT_be vT_bo vT_no vT_fu (-2) r_29 hc_29) mb_X7_refused mv_X7_refused wl_X7_81 [0] rfl rfl rfl (Nat.le_of_ble_eq_true rfl) (Nat.le_of_ble_eq_true rfl) rfl hl.1 rfl (Nat.le_of_ble_eq_true rfl) ⟨Nat.le_refl 0, Nat.le_refl 0⟩ dX7_senders_29) hP hD hS hA [0] rfl rfl (fun H locs hP hD hS => ?_)
    have hP : va_P D vwCl (wd_X7_senders cI cZ AT AT_he AT_iz AT_io AT_tx AT_rd AT_fo AT_fi AT_he_sl AT_he_fl AT_he_ro AT_he_nt AT_he_mk AT_he_mo AT_he_fl_c AT_fo_tr AT_fo_ga AT_fo_bb AT_fo_fg AT_fo_sg AT_he_sl_c vT_ab vT_be r_29.2.1 r_29.2.2.1 r_29.2.2.2 vT_he_ng vT_he_fl_n vT_he_sl_n fT_he_sl_c fT_he_fl_c fT_fo_fg fT_fo_sg) H := hP
    have hD : va_D A (wd_X7_senders cI cZ AT AT_he AT_iz AT_io AT_tx AT_rd AT_fo AT_fi AT_he_sl AT_he_fl AT_he_ro AT_he_nt AT_he_mk AT_he_mo AT_he_fl_c AT_fo_tr AT_fo_ga AT_fo_bb AT_fo_fg AT_fo_sg AT_he_sl_c vT_ab vT_be r_29.2.1 r_29.2.2.1 r_29.2.2.2 vT_he_ng vT_he_fl_n vT_he_sl_n fT_he_sl_c fT_he_fl_c fT_fo_fg fT_fo_sg) := hD
    refine lv_pop hx hb dX7_senders_32 rfl ?_
    refine lv_bipush (v := (-10)) hx hb dX7_senders_33 (by decide) ?_
    have hm := Option.some.inj hm
    subst hm
    exact q_iret (v := (-10)) hx hb hr hlocks hP hS dX7_senders_35
  · have hm := it_n c_5 hm
    refine lv_aload_n hx hb dX7_senders_8 rfl (lv_at hl 0 rfl) ?_
    refine lv_iload_n hx hb dX7_senders_9 rfl (lv_at hl 2 rfl) ?_
    obtain ⟨r_10, hc_10, hm⟩ := ob_s hm
    refine q_ci (q_rv (rest := []) ⟨hx, hb, hml, hown, hts⟩ hK hN hP hD (c_X7_isFlower l D cI cZ H.size AT AT_he AT_iz AT_io AT_tx AT_rd AT_fo AT_fi AT_he_sl AT_he_fl AT_he_ro AT_he_nt AT_he_mk AT_he_mo AT_he_fl_c vT_ab vT_be vT_bo vT_no vT_fu vT_he_ng vT_he_fl_n p2 r_10 hc_10) mb_X7_isFlower mv_X7_isFlower wl_X7_145 [0, 1, 2] rfl rfl rfl (Nat.le_of_ble_eq_true rfl) (Nat.le_of_ble_eq_true rfl) rfl hl.1 rfl (Nat.le_of_ble_eq_true rfl) ⟨Nat.le_refl 0, Nat.le_refl 0⟩ dX7_senders_10) hP hD hS hA [0, 1, 2] rfl rfl (fun H locs hP hD hS => ?_)
    have hP : va_P D vwCl (wd_X7_senders cI cZ AT AT_he AT_iz AT_io AT_tx AT_rd AT_fo AT_fi AT_he_sl AT_he_fl AT_he_ro AT_he_nt AT_he_mk AT_he_mo AT_he_fl_c AT_fo_tr AT_fo_ga AT_fo_bb AT_fo_fg AT_fo_sg AT_he_sl_c vT_ab vT_be vT_bo vT_no vT_fu vT_he_ng vT_he_fl_n vT_he_sl_n fT_he_sl_c fT_he_fl_c fT_fo_fg fT_fo_sg) H := hP
    have hD : va_D A (wd_X7_senders cI cZ AT AT_he AT_iz AT_io AT_tx AT_rd AT_fo AT_fi AT_he_sl AT_he_fl AT_he_ro AT_he_nt AT_he_mk AT_he_mo AT_he_fl_c AT_fo_tr AT_fo_ga AT_fo_bb AT_fo_fg AT_fo_sg AT_he_sl_c vT_ab vT_be vT_bo vT_no vT_fu vT_he_ng vT_he_fl_n vT_he_sl_n fT_he_sl_c fT_he_fl_c fT_fo_fg fT_fo_sg) := hD
    refine lv_if_eq (tgt := 26) hx hb dX7_senders_13 (by decide) (fun c_13 => ?_) (fun c_13 => ?_)
    · have hm := it_s c_13 hm
      refine lv_aload_n hx hb dX7_senders_26 rfl (lv_at hl 0 rfl) ?_
      refine lv_bipush (v := (-2)) hx hb dX7_senders_27 (by decide) ?_
      obtain ⟨r_29, hc_29, hm⟩ := ob_s hm
      refine q_ci (q_rv (rest := []) ⟨hx, hb, hml, hown, hts⟩ hK hN hP hD (c_X7_refused l D cI cZ H.size AT AT_he AT_iz AT_io AT_tx AT_rd AT_fo AT_fi vT_ab vT_be vT_bo vT_no vT_fu (-2) r_29 hc_29) mb_X7_refused mv_X7_refused wl_X7_81 [0] rfl rfl rfl (Nat.le_of_ble_eq_true rfl) (Nat.le_of_ble_eq_true rfl) rfl hl.1 rfl (Nat.le_of_ble_eq_true rfl) ⟨Nat.le_refl 0, Nat.le_refl 0⟩ dX7_senders_29) hP hD hS hA [0] rfl rfl (fun H locs hP hD hS => ?_)
      have hP : va_P D vwCl (wd_X7_senders cI cZ AT AT_he AT_iz AT_io AT_tx AT_rd AT_fo AT_fi AT_he_sl AT_he_fl AT_he_ro AT_he_nt AT_he_mk AT_he_mo AT_he_fl_c AT_fo_tr AT_fo_ga AT_fo_bb AT_fo_fg AT_fo_sg AT_he_sl_c vT_ab vT_be r_29.2.1 r_29.2.2.1 r_29.2.2.2 vT_he_ng vT_he_fl_n vT_he_sl_n fT_he_sl_c fT_he_fl_c fT_fo_fg fT_fo_sg) H := hP
      have hD : va_D A (wd_X7_senders cI cZ AT AT_he AT_iz AT_io AT_tx AT_rd AT_fo AT_fi AT_he_sl AT_he_fl AT_he_ro AT_he_nt AT_he_mk AT_he_mo AT_he_fl_c AT_fo_tr AT_fo_ga AT_fo_bb AT_fo_fg AT_fo_sg AT_he_sl_c vT_ab vT_be r_29.2.1 r_29.2.2.1 r_29.2.2.2 vT_he_ng vT_he_fl_n vT_he_sl_n fT_he_sl_c fT_he_fl_c fT_fo_fg fT_fo_sg) := hD
      refine lv_pop hx hb dX7_senders_32 rfl ?_
      refine lv_bipush (v := (-10)) hx hb dX7_senders_33 (by decide) ?_
      have hm := Option.some.inj hm
      subst hm
      exact q_iret (v := (-10)) hx hb hr hlocks hP hS dX7_senders_35
    · have hm := it_n c_13 hm
      refine lv_iload_n hx hb dX7_senders_16 rfl (lv_at hl 1 rfl) ?_
      refine lv_iload_n hx hb dX7_senders_17 rfl (lv_at hl 2 rfl) ?_
      refine lv_icmp_eq (tgt := 26) hx hb dX7_senders_18 (by decide) (fun c_18 => ?_) (fun c_18 => ?_)
      · have hm := it_s c_18 hm
        refine lv_aload_n hx hb dX7_senders_26 rfl (lv_at hl 0 rfl) ?_
        refine lv_bipush (v := (-2)) hx hb dX7_senders_27 (by decide) ?_
        obtain ⟨r_29, hc_29, hm⟩ := ob_s hm
        refine q_ci (q_rv (rest := []) ⟨hx, hb, hml, hown, hts⟩ hK hN hP hD (c_X7_refused l D cI cZ H.size AT AT_he AT_iz AT_io AT_tx AT_rd AT_fo AT_fi vT_ab vT_be vT_bo vT_no vT_fu (-2) r_29 hc_29) mb_X7_refused mv_X7_refused wl_X7_81 [0] rfl rfl rfl (Nat.le_of_ble_eq_true rfl) (Nat.le_of_ble_eq_true rfl) rfl hl.1 rfl (Nat.le_of_ble_eq_true rfl) ⟨Nat.le_refl 0, Nat.le_refl 0⟩ dX7_senders_29) hP hD hS hA [0] rfl rfl (fun H locs hP hD hS => ?_)
        have hP : va_P D vwCl (wd_X7_senders cI cZ AT AT_he AT_iz AT_io AT_tx AT_rd AT_fo AT_fi AT_he_sl AT_he_fl AT_he_ro AT_he_nt AT_he_mk AT_he_mo AT_he_fl_c AT_fo_tr AT_fo_ga AT_fo_bb AT_fo_fg AT_fo_sg AT_he_sl_c vT_ab vT_be r_29.2.1 r_29.2.2.1 r_29.2.2.2 vT_he_ng vT_he_fl_n vT_he_sl_n fT_he_sl_c fT_he_fl_c fT_fo_fg fT_fo_sg) H := hP
        have hD : va_D A (wd_X7_senders cI cZ AT AT_he AT_iz AT_io AT_tx AT_rd AT_fo AT_fi AT_he_sl AT_he_fl AT_he_ro AT_he_nt AT_he_mk AT_he_mo AT_he_fl_c AT_fo_tr AT_fo_ga AT_fo_bb AT_fo_fg AT_fo_sg AT_he_sl_c vT_ab vT_be r_29.2.1 r_29.2.2.1 r_29.2.2.2 vT_he_ng vT_he_fl_n vT_he_sl_n fT_he_sl_c fT_he_fl_c fT_fo_fg fT_fo_sg) := hD
        refine lv_pop hx hb dX7_senders_32 rfl ?_
        refine lv_bipush (v := (-10)) hx hb dX7_senders_33 (by decide) ?_
        have hm := Option.some.inj hm
        subst hm
        exact q_iret (v := (-10)) hx hb hr hlocks hP hS dX7_senders_35
      · have hm := it_n c_18 hm
        refine lv_iload_n hx hb dX7_senders_21 rfl (lv_at hl 3 rfl) ?_
        refine lv_iconst (v := (-1)) hx hb dX7_senders_22 (by decide) ?_
        refine lv_icmp_ge (tgt := 36) hx hb dX7_senders_23 (by decide) (fun c_23 => ?_) (fun c_23 => ?_)
        · have hm := it_s c_23 hm
          refine lv_aload_n hx hb dX7_senders_36 rfl (lv_at hl 0 rfl) ?_
          refine gf_X7_49 (v := .ref AT_fo) hx hb hts hown hK hN hP 0 rfl rfl dX7_senders_37 ?_
          refine lv_iload_n hx hb dX7_senders_40 rfl (lv_at hl 1 rfl) ?_
          refine lv_iload_n hx hb dX7_senders_41 rfl (lv_at hl 2 rfl) ?_
          refine lv_iload_n hx hb dX7_senders_42 rfl (lv_at hl 3 rfl) ?_
          obtain ⟨r_43, hc_43, hm⟩ := ob_s hm
          refine q_ci (q_rv (rest := []) ⟨hx, hb, hml, hown, hts⟩ hK hN hP hD (c_X1_restingPair l D cI cZ H.size AT_fo AT_he AT_fo_tr AT_fo_ga AT_fo_bb AT_fo_fg AT_fo_sg AT_he_sl AT_he_fl AT_he_ro AT_he_nt AT_he_mk AT_he_mo AT_he_sl_c AT_he_fl_c vT_he_ng vT_he_sl_n fT_he_sl_c vT_he_fl_n fT_he_fl_c fT_fo_fg fT_fo_sg p1 p2 p3 r_43 hc_43) mb_X1_restingPair mv_X1_restingPair wl_X7_219 [3, 1, 4, 5, 2, 6, 7, 8] rfl rfl rfl (Nat.le_of_ble_eq_true rfl) (Nat.le_of_ble_eq_true rfl) rfl hl.1 rfl (Nat.le_of_ble_eq_true rfl) ⟨Nat.le_refl 0, Nat.le_refl 0⟩ dX7_senders_43) hP hD hS hA [3, 1, 4, 5, 2, 6, 7, 8] rfl rfl (fun H locs hP hD hS => ?_)
          have hP : va_P D vwCl (wd_X7_senders cI cZ AT AT_he AT_iz AT_io AT_tx AT_rd AT_fo AT_fi AT_he_sl AT_he_fl AT_he_ro AT_he_nt AT_he_mk AT_he_mo AT_he_fl_c AT_fo_tr AT_fo_ga AT_fo_bb AT_fo_fg AT_fo_sg AT_he_sl_c vT_ab vT_be vT_bo vT_no vT_fu vT_he_ng vT_he_fl_n vT_he_sl_n fT_he_sl_c fT_he_fl_c r_43.2.1 r_43.2.2) H := hP
          have hD : va_D A (wd_X7_senders cI cZ AT AT_he AT_iz AT_io AT_tx AT_rd AT_fo AT_fi AT_he_sl AT_he_fl AT_he_ro AT_he_nt AT_he_mk AT_he_mo AT_he_fl_c AT_fo_tr AT_fo_ga AT_fo_bb AT_fo_fg AT_fo_sg AT_he_sl_c vT_ab vT_be vT_bo vT_no vT_fu vT_he_ng vT_he_fl_n vT_he_sl_n fT_he_sl_c fT_he_fl_c r_43.2.1 r_43.2.2) := hD
          have hm := Option.some.inj hm
          subst hm
          exact q_iret (v := r_43.1) hx hb hr hlocks hP hS dX7_senders_46
        · have hm := it_n c_23 hm
          refine lv_aload_n hx hb dX7_senders_26 rfl (lv_at hl 0 rfl) ?_
          refine lv_bipush (v := (-2)) hx hb dX7_senders_27 (by decide) ?_
          obtain ⟨r_29, hc_29, hm⟩ := ob_s hm
          refine q_ci (q_rv (rest := []) ⟨hx, hb, hml, hown, hts⟩ hK hN hP hD (c_X7_refused l D cI cZ H.size AT AT_he AT_iz AT_io AT_tx AT_rd AT_fo AT_fi vT_ab vT_be vT_bo vT_no vT_fu (-2) r_29 hc_29) mb_X7_refused mv_X7_refused wl_X7_81 [0] rfl rfl rfl (Nat.le_of_ble_eq_true rfl) (Nat.le_of_ble_eq_true rfl) rfl hl.1 rfl (Nat.le_of_ble_eq_true rfl) ⟨Nat.le_refl 0, Nat.le_refl 0⟩ dX7_senders_29) hP hD hS hA [0] rfl rfl (fun H locs hP hD hS => ?_)
          have hP : va_P D vwCl (wd_X7_senders cI cZ AT AT_he AT_iz AT_io AT_tx AT_rd AT_fo AT_fi AT_he_sl AT_he_fl AT_he_ro AT_he_nt AT_he_mk AT_he_mo AT_he_fl_c AT_fo_tr AT_fo_ga AT_fo_bb AT_fo_fg AT_fo_sg AT_he_sl_c vT_ab vT_be r_29.2.1 r_29.2.2.1 r_29.2.2.2 vT_he_ng vT_he_fl_n vT_he_sl_n fT_he_sl_c fT_he_fl_c fT_fo_fg fT_fo_sg) H := hP
          have hD : va_D A (wd_X7_senders cI cZ AT AT_he AT_iz AT_io AT_tx AT_rd AT_fo AT_fi AT_he_sl AT_he_fl AT_he_ro AT_he_nt AT_he_mk AT_he_mo AT_he_fl_c AT_fo_tr AT_fo_ga AT_fo_bb AT_fo_fg AT_fo_sg AT_he_sl_c vT_ab vT_be r_29.2.1 r_29.2.2.1 r_29.2.2.2 vT_he_ng vT_he_fl_n vT_he_sl_n fT_he_sl_c fT_he_fl_c fT_fo_fg fT_fo_sg) := hD
          refine lv_pop hx hb dX7_senders_32 rfl ?_
          refine lv_bipush (v := (-10)) hx hb dX7_senders_33 (by decide) ?_
          have hm := Option.some.inj hm
          subst hm
          exact q_iret (v := (-10)) hx hb hr hlocks hP hS dX7_senders_35
theorem pf_X7_60 {p : Program} {l : Launch} {e : Env} {R : Room} {s : State} {m : MethodId} {args : Array Value} {below : List Frame} {meth : Method} {c : Code} {H : Heap} {locs : List Loc} {cells slots : Nat} {Q : State → Prop} {pc : Nat} {ls : Array Slot} {cc : ByteArray} {D : va_G} {cI cZ : ClassId} {ws : va_W} {A : Nat → Prop} {a : Nat} {rest fs : List Value} {x : Int32} (hx : p.tables.exec = Jvm.exec) (hb : c.code = cc) (hts : ∀ w ∈ bg, w.before args s = true) (hown : s.vm.findClass RX7 = some m.cls) (hK : va_K D vwCl (q_tys cI cZ) s) (hN : q_N s) (hP : va_P D vwCl ws H) (hD : va_D A ws) (hS : va_S A s.heap H locs) (q0 : Nat) (he : ws[q0]? = some (a, .inr (7, fs))) (hdg : decode cc pc = .ok (.putfield 60, 3)) (kk : ∀ (H1 : Heap) (locs1 : List Loc), va_P D vwCl (ws.set q0 (a, .inr (7, fs.set 7 (.int x)))) H1 → va_D A (ws.set q0 (a, .inr (7, fs.set 7 (.int x)))) → va_S A s.heap H1 locs1 → W p l e R s m args below meth c H1 locs1 cells slots Q (F0 m (pc + 3) ls rest)) (hl : 7 < fs.length := by exact Nat.le_of_ble_eq_true rfl) : W p l e R s m args below meth c H locs cells slots Q (F0 m pc ls (.int x :: .ref a :: rest)) :=
  va_put (C := RX7) (T := TX7) (N := 12) (ty := .int) hx hb hts wu_X7 tyX7 tyX7_ok nmX7 hown hK hP hD hS q0 he rfl 7 (by decide) (hts _ wf_X7_60) (fun _ h9 => h9) rfl (by decide +kernel) rfl rfl hl hdg kk
theorem pf_X7_64 {p : Program} {l : Launch} {e : Env} {R : Room} {s : State} {m : MethodId} {args : Array Value} {below : List Frame} {meth : Method} {c : Code} {H : Heap} {locs : List Loc} {cells slots : Nat} {Q : State → Prop} {pc : Nat} {ls : Array Slot} {cc : ByteArray} {D : va_G} {cI cZ : ClassId} {ws : va_W} {A : Nat → Prop} {a : Nat} {rest fs : List Value} {x : Int32} (hx : p.tables.exec = Jvm.exec) (hb : c.code = cc) (hts : ∀ w ∈ bg, w.before args s = true) (hown : s.vm.findClass RX7 = some m.cls) (hK : va_K D vwCl (q_tys cI cZ) s) (hN : q_N s) (hP : va_P D vwCl ws H) (hD : va_D A ws) (hS : va_S A s.heap H locs) (q0 : Nat) (he : ws[q0]? = some (a, .inr (7, fs))) (hdg : decode cc pc = .ok (.putfield 64, 3)) (kk : ∀ (H1 : Heap) (locs1 : List Loc), va_P D vwCl (ws.set q0 (a, .inr (7, fs.set 8 (.int x)))) H1 → va_D A (ws.set q0 (a, .inr (7, fs.set 8 (.int x)))) → va_S A s.heap H1 locs1 → W p l e R s m args below meth c H1 locs1 cells slots Q (F0 m (pc + 3) ls rest)) (hl : 8 < fs.length := by exact Nat.le_of_ble_eq_true rfl) : W p l e R s m args below meth c H locs cells slots Q (F0 m pc ls (.int x :: .ref a :: rest)) :=
  va_put (C := RX7) (T := TX7) (N := 12) (ty := .int) hx hb hts wu_X7 tyX7 tyX7_ok nmX7 hown hK hP hD hS q0 he rfl 8 (by decide) (hts _ wf_X7_64) (fun _ h9 => h9) rfl (by decide +kernel) rfl rfl hl hdg kk
theorem mb_X7_keepTenths : q_mb yX7_keepTenths cX7_keepTenths 3 none 1 := ⟨wc_X7_keepTenths, wn_X7, by decide, by decide, by decide +kernel⟩
theorem mv_X7_keepTenths : q_mv yX7_keepTenths 7 := ⟨wi_X7_keepTenths, ws_X7_keepTenths, _, rfl, rfl⟩
def wd_X7_keepTenths (cI cZ : ClassId) (AT AT_he AT_iz AT_io AT_tx AT_rd AT_fo AT_fi : Nat) (vT_ab : Int32) (vT_be : Int32) (vT_bo : Int32) (vT_no : Int32) (vT_fu : Int32) : va_W := [(AT, .inr (7, [.ref AT_he, .ref AT_iz, .ref AT_io, .ref AT_tx, .ref AT_rd, .ref AT_fo, .ref AT_fi, .int vT_ab, .int vT_be, .int vT_bo, .int vT_no, .int vT_fu]))]
def fL_X7_keepTenths_14 (p1 : Int32) : Nat → Int32 → Int32 → Int32 → Option (Int32 × Int32)
  | 0, _, _, _ => none
  | fu + 1, x2, vT_ab, vT_be => if x2 ≤ 1 then (some (vT_ab, vT_be)) else (nzi x2 (if (10 - 10 / x2 * x2) = 0 then (if (p1 - p1 / x2 * x2) = 0 then (some ((p1 / x2), (10 / x2))) else (fL_X7_keepTenths_14 p1 fu (x2 + (-1)) vT_ab vT_be)) else (fL_X7_keepTenths_14 p1 fu (x2 + (-1)) vT_ab vT_be)))
def fm_X7_keepTenths (p1 : Int32) (vT_ab : Int32) (vT_be : Int32) : Option (Int32 × Int32) := fL_X7_keepTenths_14 p1 FU 10 p1 10
set_option maxHeartbeats 4000000 in
set_option maxRecDepth 100000 in
theorem c_X7_keepTenths (l : Launch) (D : va_G) (cI cZ : ClassId) (sz : Nat) (AT AT_he AT_iz AT_io AT_tx AT_rd AT_fo AT_fi : Nat) (vT_ab : Int32) (vT_be : Int32) (vT_bo : Int32) (vT_no : Int32) (vT_fu : Int32) (p1 : Int32) (out : (Int32 × Int32)) (hm : fm_X7_keepTenths p1 vT_ab vT_be = some out) : Met l yX7_keepTenths (Cond.code yX7_keepTenths cX7_keepTenths 3 none :: bg) { frames := 0, cells := 0, slots := 0, locals := 0 } (va_Pc [.ref AT, .int p1] (q_pre D cI cZ sz (wd_X7_keepTenths cI cZ AT AT_he AT_iz AT_io AT_tx AT_rd AT_fo AT_fi vT_ab vT_be vT_bo vT_no vT_fu))) (q_Qv D (wd_X7_keepTenths cI cZ AT AT_he AT_iz AT_io AT_tx AT_rd AT_fo AT_fi out.1 out.2 vT_bo vT_no vT_fu) (va_A (wd_X7_keepTenths cI cZ AT AT_he AT_iz AT_io AT_tx AT_rd AT_fo AT_fi vT_ab vT_be vT_bo vT_no vT_fu) sz)) 0 0 (va_A (wd_X7_keepTenths cI cZ AT AT_he AT_iz AT_io AT_tx AT_rd AT_fo AT_fi vT_ab vT_be vT_bo vT_no vT_fu) sz) := by
  refine q_met (fun A => q_Qv D (wd_X7_keepTenths cI cZ AT AT_he AT_iz AT_io AT_tx AT_rd AT_fo AT_fi out.1 out.2 vT_bo vT_no vT_fu) A) (by decide) (Nat.le_of_ble_eq_true rfl) ?_
  intro p e s m below meth c ls A hx hb hr hml hown hts hlocks _ hA hS hP hD hK hN hl
  have hown : s.vm.findClass RX7 = some m.cls := hown
  have hl : lv_has ls 3 [(0, .ref AT), (1, .int p1)] := hl
  have hL_14 : ∀ (fu_14 : Nat) (x2 : Int32) (vT_ab : Int32) (vT_be : Int32) (H : Heap) (locs : List Loc) (ls : Array Slot), fL_X7_keepTenths_14 p1 fu_14 x2 vT_ab vT_be = some out → va_P D vwCl (wd_X7_keepTenths cI cZ AT AT_he AT_iz AT_io AT_tx AT_rd AT_fo AT_fi vT_ab vT_be vT_bo vT_no vT_fu) H → va_D A (wd_X7_keepTenths cI cZ AT AT_he AT_iz AT_io AT_tx AT_rd AT_fo AT_fi vT_ab vT_be vT_bo vT_no vT_fu) → va_S A s.heap H locs → lv_has ls 3 [(2, .int x2), (0, .ref AT), (1, .int p1)] → W p l e { frames := 0, cells := 0, slots := 0, locals := 0 } s m ([.ref AT, .int p1] : List Value).toArray below meth c H locs 0 0 (MQ below (q_Qv D (wd_X7_keepTenths cI cZ AT AT_he AT_iz AT_io AT_tx AT_rd AT_fo AT_fi out.1 out.2 vT_bo vT_no vT_fu) A) ([.ref AT, .int p1] : List Value).toArray s 0 0 A) (F0 m 14 ls []) := by
    intro fu_14
    induction fu_14 with
    | zero => intro x2 vT_ab vT_be H locs ls hm hP hD hS hl; exact absurd (show (none : Option (Int32 × Int32)) = some out from hm) (fun h => nomatch h)
    | succ fu_14 ih_14 =>
      intro x2 vT_ab vT_be H locs ls hm hP hD hS hl
      rw [fL_X7_keepTenths_14] at hm
      refine lv_iload_n hx hb dX7_keepTenths_14 rfl (lv_at hl 0 rfl) ?_
      refine lv_iconst (v := 1) hx hb dX7_keepTenths_15 (by decide) ?_
      refine lv_icmp_le (tgt := 54) hx hb dX7_keepTenths_16 (by decide) (fun c_16 => ?_) (fun c_16 => ?_)
      · have hm := it_s c_16 hm
        have hm := Option.some.inj hm
        subst hm
        exact q_vret hx hb hr hlocks hP hS dX7_keepTenths_54
      · have hm := it_n c_16 hm
        refine lv_bipush (v := 10) hx hb dX7_keepTenths_19 (by decide) ?_
        refine lv_iload_n hx hb dX7_keepTenths_21 rfl (lv_at hl 0 rfl) ?_
        obtain ⟨hz_22, hm⟩ := nzi_s hm
        refine lv_irem hx hb dX7_keepTenths_22 hz_22 ?_
        refine lv_if_ne (tgt := 48) hx hb dX7_keepTenths_23 (by decide) (fun c_23 => ?_) (fun c_23 => ?_)
        · have hm := it_n c_23 hm
          refine lv_iinc (v := (x2 + (-1))) (lv' := [(2, .int (x2 + (-1))), (0, .ref AT), (1, .int p1)]) hx hb dX7_keepTenths_48 hl (k := 0) rfl rfl (by decide) rfl (fun ls hl => ?_)
          refine lv_goto (tgt := 14) hx hb dX7_keepTenths_51 (by decide) ?_
          exact ih_14 (x2 + (-1)) vT_ab vT_be H locs ls hm hP hD hS (lv_sub hl [0, 1, 2] rfl)
        · have hm := it_s c_23 hm
          refine lv_iload_n hx hb dX7_keepTenths_26 rfl (lv_at hl 2 rfl) ?_
          refine lv_iload_n hx hb dX7_keepTenths_27 rfl (lv_at hl 0 rfl) ?_
          refine lv_irem hx hb dX7_keepTenths_28 hz_22 ?_
          refine lv_if_ne (tgt := 48) hx hb dX7_keepTenths_29 (by decide) (fun c_29 => ?_) (fun c_29 => ?_)
          · have hm := it_n c_29 hm
            refine lv_iinc (v := (x2 + (-1))) (lv' := [(2, .int (x2 + (-1))), (0, .ref AT), (1, .int p1)]) hx hb dX7_keepTenths_48 hl (k := 0) rfl rfl (by decide) rfl (fun ls hl => ?_)
            refine lv_goto (tgt := 14) hx hb dX7_keepTenths_51 (by decide) ?_
            exact ih_14 (x2 + (-1)) vT_ab vT_be H locs ls hm hP hD hS (lv_sub hl [0, 1, 2] rfl)
          · have hm := it_s c_29 hm
            refine lv_aload_n hx hb dX7_keepTenths_32 rfl (lv_at hl 1 rfl) ?_
            refine lv_iload_n hx hb dX7_keepTenths_33 rfl (lv_at hl 2 rfl) ?_
            refine lv_iload_n hx hb dX7_keepTenths_34 rfl (lv_at hl 0 rfl) ?_
            refine lv_idiv hx hb dX7_keepTenths_35 hz_22 ?_
            refine pf_X7_60 hx hb hts hown hK hN hP hD hS 0 rfl dX7_keepTenths_36 (fun H locs hP hD hS => ?_)
            have hP : va_P D vwCl (wd_X7_keepTenths cI cZ AT AT_he AT_iz AT_io AT_tx AT_rd AT_fo AT_fi (p1 / x2) vT_be vT_bo vT_no vT_fu) H := hP
            have hD : va_D A (wd_X7_keepTenths cI cZ AT AT_he AT_iz AT_io AT_tx AT_rd AT_fo AT_fi (p1 / x2) vT_be vT_bo vT_no vT_fu) := hD
            refine lv_aload_n hx hb dX7_keepTenths_39 rfl (lv_at hl 1 rfl) ?_
            refine lv_bipush (v := 10) hx hb dX7_keepTenths_40 (by decide) ?_
            refine lv_iload_n hx hb dX7_keepTenths_42 rfl (lv_at hl 0 rfl) ?_
            refine lv_idiv hx hb dX7_keepTenths_43 hz_22 ?_
            refine pf_X7_64 hx hb hts hown hK hN hP hD hS 0 rfl dX7_keepTenths_44 (fun H locs hP hD hS => ?_)
            have hP : va_P D vwCl (wd_X7_keepTenths cI cZ AT AT_he AT_iz AT_io AT_tx AT_rd AT_fo AT_fi (p1 / x2) (10 / x2) vT_bo vT_no vT_fu) H := hP
            have hD : va_D A (wd_X7_keepTenths cI cZ AT AT_he AT_iz AT_io AT_tx AT_rd AT_fo AT_fi (p1 / x2) (10 / x2) vT_bo vT_no vT_fu) := hD
            have hm := Option.some.inj hm
            subst hm
            exact q_vret hx hb hr hlocks hP hS dX7_keepTenths_47
  unfold fm_X7_keepTenths at hm
  refine q_gen hS hP ?_
  intro H locs hP hS
  refine lv_aload_n hx hb dX7_keepTenths_0 rfl (lv_at hl 0 rfl) ?_
  refine lv_iload_n hx hb dX7_keepTenths_1 rfl (lv_at hl 1 rfl) ?_
  refine pf_X7_60 hx hb hts hown hK hN hP hD hS 0 rfl dX7_keepTenths_2 (fun H locs hP hD hS => ?_)
  have hP : va_P D vwCl (wd_X7_keepTenths cI cZ AT AT_he AT_iz AT_io AT_tx AT_rd AT_fo AT_fi p1 vT_be vT_bo vT_no vT_fu) H := hP
  have hD : va_D A (wd_X7_keepTenths cI cZ AT AT_he AT_iz AT_io AT_tx AT_rd AT_fo AT_fi p1 vT_be vT_bo vT_no vT_fu) := hD
  refine lv_aload_n hx hb dX7_keepTenths_5 rfl (lv_at hl 0 rfl) ?_
  refine lv_bipush (v := 10) hx hb dX7_keepTenths_6 (by decide) ?_
  refine pf_X7_64 hx hb hts hown hK hN hP hD hS 0 rfl dX7_keepTenths_8 (fun H locs hP hD hS => ?_)
  have hP : va_P D vwCl (wd_X7_keepTenths cI cZ AT AT_he AT_iz AT_io AT_tx AT_rd AT_fo AT_fi p1 10 vT_bo vT_no vT_fu) H := hP
  have hD : va_D A (wd_X7_keepTenths cI cZ AT AT_he AT_iz AT_io AT_tx AT_rd AT_fo AT_fi p1 10 vT_bo vT_no vT_fu) := hD
  refine lv_bipush (v := 10) hx hb dX7_keepTenths_11 (by decide) ?_
  refine lv_istore_n (lv' := [(2, .int 10), (0, .ref AT), (1, .int p1)]) hx hb dX7_keepTenths_13 rfl hl (by decide) rfl (fun ls hl => ?_)
  exact hL_14 FU 10 p1 10 H locs ls hm hP hD hS (lv_sub hl [0, 1, 2] rfl)
theorem mb_X7_slips : q_mb yX7_slips cX7_slips 3 (some .int) 2 := ⟨wc_X7_slips, wn_X7, by decide, by decide, by decide +kernel⟩
theorem mv_X7_slips : q_mv yX7_slips 7 := ⟨wi_X7_slips, ws_X7_slips, _, rfl, rfl⟩
def wd_X7_slips (cI cZ : ClassId) (AT AT_he AT_iz AT_io AT_tx AT_rd AT_fo AT_fi AT_he_sl AT_he_fl AT_he_ro AT_he_nt AT_he_mk AT_he_mo AT_he_sl_c AT_fo_tr AT_fo_ga AT_fo_bb AT_fo_fg AT_fo_sg AT_he_fl_c : Nat) (vT_ab : Int32) (vT_be : Int32) (vT_bo : Int32) (vT_no : Int32) (vT_fu : Int32) (vT_he_ng : Int32) (vT_he_sl_n : Int32) (vT_he_fl_n : Int32) (fT_he_fl_c : Nat → Int32) (fT_he_sl_c : Nat → Int32) : va_W := [(AT, .inr (7, [.ref AT_he, .ref AT_iz, .ref AT_io, .ref AT_tx, .ref AT_rd, .ref AT_fo, .ref AT_fi, .int vT_ab, .int vT_be, .int vT_bo, .int vT_no, .int vT_fu])), (AT_he, .inr (4, [.ref AT_he_sl, .ref AT_he_fl, .ref AT_he_ro, .ref AT_he_nt, .ref AT_he_mk, .ref AT_he_mo, .int vT_he_ng])), (AT_he_sl, .inr (3, [.int 4, .ref AT_he_sl_c, .int vT_he_sl_n])), (AT_fo, .inr (1, [.ref AT_he, .ref AT_fo_tr, .ref AT_fo_ga, .ref AT_fo_bb, .ref AT_fo_fg, .ref AT_fo_sg])), (AT_he_fl, .inr (3, [.int 3, .ref AT_he_fl_c, .int vT_he_fl_n])), (AT_he_fl_c, .inl (cI, 18, .inl fT_he_fl_c)), (AT_he_sl_c, .inl (cI, 24, .inl fT_he_sl_c))]
def fm_X7_slips (p1 : Int32) (p2 : Int32) (vT_ab : Int32) (vT_be : Int32) (vT_bo : Int32) (vT_no : Int32) (vT_fu : Int32) (vT_he_ng : Int32) (vT_he_sl_n : Int32) (vT_he_fl_n : Int32) (fT_he_fl_c : Nat → Int32) (fT_he_sl_c : Nat → Int32) : Option (Int32 × Int32 × Int32 × Int32 × Int32 × Int32) := Option.bind (fm_X7_isSleeper p1 vT_he_sl_n) (fun r_2 => if r_2 = 0 then (Option.bind (fm_X7_refused (-2) vT_bo vT_no vT_fu) (fun r_21 => some (r_21.1, vT_ab, vT_be, r_21.2.1, r_21.2.2.1, r_21.2.2.2))) else (Option.bind (fm_X7_within p2 0 10) (fun r_12 => if r_12 = 0 then (Option.bind (fm_X7_refused (-2) vT_bo vT_no vT_fu) (fun r_21 => some (r_21.1, vT_ab, vT_be, r_21.2.1, r_21.2.2.1, r_21.2.2.2))) else (Option.bind (fm_X1_tenthsBelieved p1 p2 vT_he_ng vT_he_fl_n fT_he_fl_c vT_he_sl_n fT_he_sl_c) (fun r_32 => Option.bind (fm_X7_keepTenths r_32 vT_ab vT_be) (fun r_35 => some (1, r_35.1, r_35.2, vT_bo, vT_no, vT_fu)))))))
set_option maxHeartbeats 4000000 in
set_option maxRecDepth 100000 in
theorem c_X7_slips (l : Launch) (D : va_G) (cI cZ : ClassId) (sz : Nat) (AT AT_he AT_iz AT_io AT_tx AT_rd AT_fo AT_fi AT_he_sl AT_he_fl AT_he_ro AT_he_nt AT_he_mk AT_he_mo AT_he_sl_c AT_fo_tr AT_fo_ga AT_fo_bb AT_fo_fg AT_fo_sg AT_he_fl_c : Nat) (vT_ab : Int32) (vT_be : Int32) (vT_bo : Int32) (vT_no : Int32) (vT_fu : Int32) (vT_he_ng : Int32) (vT_he_sl_n : Int32) (vT_he_fl_n : Int32) (fT_he_fl_c : Nat → Int32) (fT_he_sl_c : Nat → Int32) (p1 : Int32) (p2 : Int32) (out : (Int32 × Int32 × Int32 × Int32 × Int32 × Int32)) (hm : fm_X7_slips p1 p2 vT_ab vT_be vT_bo vT_no vT_fu vT_he_ng vT_he_sl_n vT_he_fl_n fT_he_fl_c fT_he_sl_c = some out) : Met l yX7_slips (Cond.code yX7_slips cX7_slips 3 (some .int) :: bg) { frames := 4, cells := 0, slots := 0, locals := 96 } (va_Pc [.ref AT, .int p1, .int p2] (q_pre D cI cZ sz (wd_X7_slips cI cZ AT AT_he AT_iz AT_io AT_tx AT_rd AT_fo AT_fi AT_he_sl AT_he_fl AT_he_ro AT_he_nt AT_he_mk AT_he_mo AT_he_sl_c AT_fo_tr AT_fo_ga AT_fo_bb AT_fo_fg AT_fo_sg AT_he_fl_c vT_ab vT_be vT_bo vT_no vT_fu vT_he_ng vT_he_sl_n vT_he_fl_n fT_he_fl_c fT_he_sl_c))) (q_Qi D (wd_X7_slips cI cZ AT AT_he AT_iz AT_io AT_tx AT_rd AT_fo AT_fi AT_he_sl AT_he_fl AT_he_ro AT_he_nt AT_he_mk AT_he_mo AT_he_sl_c AT_fo_tr AT_fo_ga AT_fo_bb AT_fo_fg AT_fo_sg AT_he_fl_c out.2.1 out.2.2.1 out.2.2.2.1 out.2.2.2.2.1 out.2.2.2.2.2 vT_he_ng vT_he_sl_n vT_he_fl_n fT_he_fl_c fT_he_sl_c) out.1 (va_A (wd_X7_slips cI cZ AT AT_he AT_iz AT_io AT_tx AT_rd AT_fo AT_fi AT_he_sl AT_he_fl AT_he_ro AT_he_nt AT_he_mk AT_he_mo AT_he_sl_c AT_fo_tr AT_fo_ga AT_fo_bb AT_fo_fg AT_fo_sg AT_he_fl_c vT_ab vT_be vT_bo vT_no vT_fu vT_he_ng vT_he_sl_n vT_he_fl_n fT_he_fl_c fT_he_sl_c) sz)) 0 0 (va_A (wd_X7_slips cI cZ AT AT_he AT_iz AT_io AT_tx AT_rd AT_fo AT_fi AT_he_sl AT_he_fl AT_he_ro AT_he_nt AT_he_mk AT_he_mo AT_he_sl_c AT_fo_tr AT_fo_ga AT_fo_bb AT_fo_fg AT_fo_sg AT_he_fl_c vT_ab vT_be vT_bo vT_no vT_fu vT_he_ng vT_he_sl_n vT_he_fl_n fT_he_fl_c fT_he_sl_c) sz) := by
  refine q_met (fun A => q_Qi D (wd_X7_slips cI cZ AT AT_he AT_iz AT_io AT_tx AT_rd AT_fo AT_fi AT_he_sl AT_he_fl AT_he_ro AT_he_nt AT_he_mk AT_he_mo AT_he_sl_c AT_fo_tr AT_fo_ga AT_fo_bb AT_fo_fg AT_fo_sg AT_he_fl_c out.2.1 out.2.2.1 out.2.2.2.1 out.2.2.2.2.1 out.2.2.2.2.2 vT_he_ng vT_he_sl_n vT_he_fl_n fT_he_fl_c fT_he_sl_c) out.1 A) (by decide) (Nat.le_of_ble_eq_true rfl) ?_
  intro p e s m below meth c ls A hx hb hr hml hown hts hlocks _ hA hS hP hD hK hN hl
  have hown : s.vm.findClass RX7 = some m.cls := hown
  have hl : lv_has ls 3 [(0, .ref AT), (1, .int p1), (2, .int p2)] := hl
  unfold fm_X7_slips at hm
  refine q_gen hS hP ?_
  intro H locs hP hS
  refine lv_aload_n hx hb dX7_slips_0 rfl (lv_at hl 0 rfl) ?_
  refine lv_iload_n hx hb dX7_slips_1 rfl (lv_at hl 1 rfl) ?_
  obtain ⟨r_2, hc_2, hm⟩ := ob_s hm
  refine q_ci (q_rv (rest := []) ⟨hx, hb, hml, hown, hts⟩ hK hN hP hD (c_X7_isSleeper l D cI cZ H.size AT AT_he AT_iz AT_io AT_tx AT_rd AT_fo AT_fi AT_he_sl AT_he_fl AT_he_ro AT_he_nt AT_he_mk AT_he_mo AT_he_sl_c vT_ab vT_be vT_bo vT_no vT_fu vT_he_ng vT_he_sl_n p1 r_2 hc_2) mb_X7_isSleeper mv_X7_isSleeper wl_X7_135 [0, 1, 2] rfl rfl rfl (Nat.le_of_ble_eq_true rfl) (Nat.le_of_ble_eq_true rfl) rfl hl.1 rfl (Nat.le_of_ble_eq_true rfl) ⟨Nat.le_refl 0, Nat.le_refl 0⟩ dX7_slips_2) hP hD hS hA [0, 1, 2] rfl rfl (fun H locs hP hD hS => ?_)
  have hP : va_P D vwCl (wd_X7_slips cI cZ AT AT_he AT_iz AT_io AT_tx AT_rd AT_fo AT_fi AT_he_sl AT_he_fl AT_he_ro AT_he_nt AT_he_mk AT_he_mo AT_he_sl_c AT_fo_tr AT_fo_ga AT_fo_bb AT_fo_fg AT_fo_sg AT_he_fl_c vT_ab vT_be vT_bo vT_no vT_fu vT_he_ng vT_he_sl_n vT_he_fl_n fT_he_fl_c fT_he_sl_c) H := hP
  have hD : va_D A (wd_X7_slips cI cZ AT AT_he AT_iz AT_io AT_tx AT_rd AT_fo AT_fi AT_he_sl AT_he_fl AT_he_ro AT_he_nt AT_he_mk AT_he_mo AT_he_sl_c AT_fo_tr AT_fo_ga AT_fo_bb AT_fo_fg AT_fo_sg AT_he_fl_c vT_ab vT_be vT_bo vT_no vT_fu vT_he_ng vT_he_sl_n vT_he_fl_n fT_he_fl_c fT_he_sl_c) := hD
  refine lv_if_eq (tgt := 18) hx hb dX7_slips_5 (by decide) (fun c_5 => ?_) (fun c_5 => ?_)
  · have hm := it_s c_5 hm
    refine lv_aload_n hx hb dX7_slips_18 rfl (lv_at hl 0 rfl) ?_
    refine lv_bipush (v := (-2)) hx hb dX7_slips_19 (by decide) ?_
    obtain ⟨r_21, hc_21, hm⟩ := ob_s hm
    refine q_ci (q_rv (rest := []) ⟨hx, hb, hml, hown, hts⟩ hK hN hP hD (c_X7_refused l D cI cZ H.size AT AT_he AT_iz AT_io AT_tx AT_rd AT_fo AT_fi vT_ab vT_be vT_bo vT_no vT_fu (-2) r_21 hc_21) mb_X7_refused mv_X7_refused wl_X7_81 [0] rfl rfl rfl (Nat.le_of_ble_eq_true rfl) (Nat.le_of_ble_eq_true rfl) rfl hl.1 rfl (Nat.le_of_ble_eq_true rfl) ⟨Nat.le_refl 0, Nat.le_refl 0⟩ dX7_slips_21) hP hD hS hA [0] rfl rfl (fun H locs hP hD hS => ?_)
    have hP : va_P D vwCl (wd_X7_slips cI cZ AT AT_he AT_iz AT_io AT_tx AT_rd AT_fo AT_fi AT_he_sl AT_he_fl AT_he_ro AT_he_nt AT_he_mk AT_he_mo AT_he_sl_c AT_fo_tr AT_fo_ga AT_fo_bb AT_fo_fg AT_fo_sg AT_he_fl_c vT_ab vT_be r_21.2.1 r_21.2.2.1 r_21.2.2.2 vT_he_ng vT_he_sl_n vT_he_fl_n fT_he_fl_c fT_he_sl_c) H := hP
    have hD : va_D A (wd_X7_slips cI cZ AT AT_he AT_iz AT_io AT_tx AT_rd AT_fo AT_fi AT_he_sl AT_he_fl AT_he_ro AT_he_nt AT_he_mk AT_he_mo AT_he_sl_c AT_fo_tr AT_fo_ga AT_fo_bb AT_fo_fg AT_fo_sg AT_he_fl_c vT_ab vT_be r_21.2.1 r_21.2.2.1 r_21.2.2.2 vT_he_ng vT_he_sl_n vT_he_fl_n fT_he_fl_c fT_he_sl_c) := hD
    have hm := Option.some.inj hm
    subst hm
    exact q_iret (v := r_21.1) hx hb hr hlocks hP hS dX7_slips_24
  · have hm := it_n c_5 hm
    refine lv_iload_n hx hb dX7_slips_8 rfl (lv_at hl 2 rfl) ?_
    refine lv_iconst (v := 0) hx hb dX7_slips_9 (by decide) ?_
    refine lv_bipush (v := 10) hx hb dX7_slips_10 (by decide) ?_
    obtain ⟨r_12, hc_12, hm⟩ := ob_s hm
    refine q_ci (q_rs (rest := []) ⟨hx, hb, hml, hown, hts⟩ hK hN hP hD (c_X7_within l D cI cZ H.size p2 0 10 r_12 hc_12) mb_X7_within wt_X7_within wl_X7_77 [] rfl rfl (Nat.le_of_ble_eq_true rfl) (Nat.le_of_ble_eq_true rfl) rfl hl.1 rfl (Nat.le_of_ble_eq_true rfl) ⟨Nat.le_refl 0, Nat.le_refl 0⟩ dX7_slips_12) hP hD hS hA [] rfl rfl (fun H locs hP hD hS => ?_)
    have hP : va_P D vwCl (wd_X7_slips cI cZ AT AT_he AT_iz AT_io AT_tx AT_rd AT_fo AT_fi AT_he_sl AT_he_fl AT_he_ro AT_he_nt AT_he_mk AT_he_mo AT_he_sl_c AT_fo_tr AT_fo_ga AT_fo_bb AT_fo_fg AT_fo_sg AT_he_fl_c vT_ab vT_be vT_bo vT_no vT_fu vT_he_ng vT_he_sl_n vT_he_fl_n fT_he_fl_c fT_he_sl_c) H := hP
    have hD : va_D A (wd_X7_slips cI cZ AT AT_he AT_iz AT_io AT_tx AT_rd AT_fo AT_fi AT_he_sl AT_he_fl AT_he_ro AT_he_nt AT_he_mk AT_he_mo AT_he_sl_c AT_fo_tr AT_fo_ga AT_fo_bb AT_fo_fg AT_fo_sg AT_he_fl_c vT_ab vT_be vT_bo vT_no vT_fu vT_he_ng vT_he_sl_n vT_he_fl_n fT_he_fl_c fT_he_sl_c) := hD
    refine lv_if_ne (tgt := 25) hx hb dX7_slips_15 (by decide) (fun c_15 => ?_) (fun c_15 => ?_)
    · have hm := it_n c_15 hm
      refine lv_aload_n hx hb dX7_slips_25 rfl (lv_at hl 0 rfl) ?_
      refine lv_aload_n hx hb dX7_slips_26 rfl (lv_at hl 0 rfl) ?_
      refine gf_X7_49 (v := .ref AT_fo) hx hb hts hown hK hN hP 0 rfl rfl dX7_slips_27 ?_
      refine lv_iload_n hx hb dX7_slips_30 rfl (lv_at hl 1 rfl) ?_
      refine lv_iload_n hx hb dX7_slips_31 rfl (lv_at hl 2 rfl) ?_
      obtain ⟨r_32, hc_32, hm⟩ := ob_s hm
      refine q_ci (q_rv (rest := [.ref AT]) ⟨hx, hb, hml, hown, hts⟩ hK hN hP hD (c_X1_tenthsBelieved l D cI cZ H.size AT_fo AT_he AT_fo_tr AT_fo_ga AT_fo_bb AT_fo_fg AT_fo_sg AT_he_sl AT_he_fl AT_he_ro AT_he_nt AT_he_mk AT_he_mo AT_he_fl_c AT_he_sl_c vT_he_ng vT_he_fl_n fT_he_fl_c vT_he_sl_n fT_he_sl_c p1 p2 r_32 hc_32) mb_X1_tenthsBelieved mv_X1_tenthsBelieved wl_X7_222 [3, 1, 4, 5, 2, 6] rfl rfl rfl (Nat.le_of_ble_eq_true rfl) (Nat.le_of_ble_eq_true rfl) rfl hl.1 rfl (Nat.le_of_ble_eq_true rfl) ⟨Nat.le_refl 0, Nat.le_refl 0⟩ dX7_slips_32) hP hD hS hA [3, 1, 4, 5, 2, 6] rfl rfl (fun H locs hP hD hS => ?_)
      have hP : va_P D vwCl (wd_X7_slips cI cZ AT AT_he AT_iz AT_io AT_tx AT_rd AT_fo AT_fi AT_he_sl AT_he_fl AT_he_ro AT_he_nt AT_he_mk AT_he_mo AT_he_sl_c AT_fo_tr AT_fo_ga AT_fo_bb AT_fo_fg AT_fo_sg AT_he_fl_c vT_ab vT_be vT_bo vT_no vT_fu vT_he_ng vT_he_sl_n vT_he_fl_n fT_he_fl_c fT_he_sl_c) H := hP
      have hD : va_D A (wd_X7_slips cI cZ AT AT_he AT_iz AT_io AT_tx AT_rd AT_fo AT_fi AT_he_sl AT_he_fl AT_he_ro AT_he_nt AT_he_mk AT_he_mo AT_he_sl_c AT_fo_tr AT_fo_ga AT_fo_bb AT_fo_fg AT_fo_sg AT_he_fl_c vT_ab vT_be vT_bo vT_no vT_fu vT_he_ng vT_he_sl_n vT_he_fl_n fT_he_fl_c fT_he_sl_c) := hD
      obtain ⟨r_35, hc_35, hm⟩ := ob_s hm
      refine q_cv (q_rv (rest := []) ⟨hx, hb, hml, hown, hts⟩ hK hN hP hD (c_X7_keepTenths l D cI cZ H.size AT AT_he AT_iz AT_io AT_tx AT_rd AT_fo AT_fi vT_ab vT_be vT_bo vT_no vT_fu r_32 r_35 hc_35) mb_X7_keepTenths mv_X7_keepTenths wl_X7_225 [0] rfl rfl rfl (Nat.le_of_ble_eq_true rfl) (Nat.le_of_ble_eq_true rfl) rfl hl.1 rfl (Nat.le_of_ble_eq_true rfl) ⟨Nat.le_refl 0, Nat.le_refl 0⟩ dX7_slips_35) hP hD hS hA [0] rfl rfl (fun H locs hP hD hS => ?_)
      have hP : va_P D vwCl (wd_X7_slips cI cZ AT AT_he AT_iz AT_io AT_tx AT_rd AT_fo AT_fi AT_he_sl AT_he_fl AT_he_ro AT_he_nt AT_he_mk AT_he_mo AT_he_sl_c AT_fo_tr AT_fo_ga AT_fo_bb AT_fo_fg AT_fo_sg AT_he_fl_c r_35.1 r_35.2 vT_bo vT_no vT_fu vT_he_ng vT_he_sl_n vT_he_fl_n fT_he_fl_c fT_he_sl_c) H := hP
      have hD : va_D A (wd_X7_slips cI cZ AT AT_he AT_iz AT_io AT_tx AT_rd AT_fo AT_fi AT_he_sl AT_he_fl AT_he_ro AT_he_nt AT_he_mk AT_he_mo AT_he_sl_c AT_fo_tr AT_fo_ga AT_fo_bb AT_fo_fg AT_fo_sg AT_he_fl_c r_35.1 r_35.2 vT_bo vT_no vT_fu vT_he_ng vT_he_sl_n vT_he_fl_n fT_he_fl_c fT_he_sl_c) := hD
      refine lv_iconst (v := 1) hx hb dX7_slips_38 (by decide) ?_
      have hm := Option.some.inj hm
      subst hm
      exact q_iret (v := 1) hx hb hr hlocks hP hS dX7_slips_39
    · have hm := it_s c_15 hm
      refine lv_aload_n hx hb dX7_slips_18 rfl (lv_at hl 0 rfl) ?_
      refine lv_bipush (v := (-2)) hx hb dX7_slips_19 (by decide) ?_
      obtain ⟨r_21, hc_21, hm⟩ := ob_s hm
      refine q_ci (q_rv (rest := []) ⟨hx, hb, hml, hown, hts⟩ hK hN hP hD (c_X7_refused l D cI cZ H.size AT AT_he AT_iz AT_io AT_tx AT_rd AT_fo AT_fi vT_ab vT_be vT_bo vT_no vT_fu (-2) r_21 hc_21) mb_X7_refused mv_X7_refused wl_X7_81 [0] rfl rfl rfl (Nat.le_of_ble_eq_true rfl) (Nat.le_of_ble_eq_true rfl) rfl hl.1 rfl (Nat.le_of_ble_eq_true rfl) ⟨Nat.le_refl 0, Nat.le_refl 0⟩ dX7_slips_21) hP hD hS hA [0] rfl rfl (fun H locs hP hD hS => ?_)
      have hP : va_P D vwCl (wd_X7_slips cI cZ AT AT_he AT_iz AT_io AT_tx AT_rd AT_fo AT_fi AT_he_sl AT_he_fl AT_he_ro AT_he_nt AT_he_mk AT_he_mo AT_he_sl_c AT_fo_tr AT_fo_ga AT_fo_bb AT_fo_fg AT_fo_sg AT_he_fl_c vT_ab vT_be r_21.2.1 r_21.2.2.1 r_21.2.2.2 vT_he_ng vT_he_sl_n vT_he_fl_n fT_he_fl_c fT_he_sl_c) H := hP
      have hD : va_D A (wd_X7_slips cI cZ AT AT_he AT_iz AT_io AT_tx AT_rd AT_fo AT_fi AT_he_sl AT_he_fl AT_he_ro AT_he_nt AT_he_mk AT_he_mo AT_he_sl_c AT_fo_tr AT_fo_ga AT_fo_bb AT_fo_fg AT_fo_sg AT_he_fl_c vT_ab vT_be r_21.2.1 r_21.2.2.1 r_21.2.2.2 vT_he_ng vT_he_sl_n vT_he_fl_n fT_he_fl_c fT_he_sl_c) := hD
      have hm := Option.some.inj hm
      subst hm
      exact q_iret (v := r_21.1) hx hb hr hlocks hP hS dX7_slips_24
theorem mb_X7_decades : q_mb yX7_decades cX7_decades 3 (some .int) 2 := ⟨wc_X7_decades, wn_X7, by decide, by decide, by decide +kernel⟩
theorem mv_X7_decades : q_mv yX7_decades 7 := ⟨wi_X7_decades, ws_X7_decades, _, rfl, rfl⟩
def wd_X7_decades (cI cZ : ClassId) (AT AT_he AT_iz AT_io AT_tx AT_rd AT_fo AT_fi AT_fo_tr AT_fo_ga AT_fo_bb AT_fo_fg AT_fo_sg AT_fo_tr_sl AT_fo_tr_fl AT_fo_tr_ro AT_fo_tr_nt AT_fo_tr_mk AT_fo_tr_mo AT_he_sl AT_he_fl AT_he_ro AT_he_nt AT_he_mk AT_he_mo AT_fo_tr_sl_c AT_he_sl_c AT_fo_tr_fl_c AT_he_fl_c AT_fo_tr_ro_c AT_he_ro_c AT_fo_tr_nt_c AT_he_nt_c AT_fo_tr_mk_c AT_he_mk_c AT_fo_tr_mo_c AT_he_mo_c : Nat) (vT_ab : Int32) (vT_be : Int32) (vT_bo : Int32) (vT_no : Int32) (vT_fu : Int32) (vT_fo_tr_ng : Int32) (vT_he_ng : Int32) (vT_fo_tr_sl_n : Int32) (vT_he_sl_n : Int32) (fT_he_sl_c : Nat → Int32) (fT_fo_tr_sl_c : Nat → Int32) (vT_fo_tr_fl_n : Int32) (vT_he_fl_n : Int32) (fT_he_fl_c : Nat → Int32) (fT_fo_tr_fl_c : Nat → Int32) (vT_fo_tr_ro_n : Int32) (vT_he_ro_n : Int32) (fT_he_ro_c : Nat → Int32) (fT_fo_tr_ro_c : Nat → Int32) (vT_fo_tr_nt_n : Int32) (vT_he_nt_n : Int32) (fT_he_nt_c : Nat → Int32) (fT_fo_tr_nt_c : Nat → Int32) (vT_fo_tr_mk_n : Int32) (vT_he_mk_n : Int32) (fT_he_mk_c : Nat → Int32) (fT_fo_tr_mk_c : Nat → Int32) (vT_fo_tr_mo_n : Int32) (vT_he_mo_n : Int32) (fT_he_mo_c : Nat → Int32) (fT_fo_tr_mo_c : Nat → Int32) : va_W := [(AT, .inr (7, [.ref AT_he, .ref AT_iz, .ref AT_io, .ref AT_tx, .ref AT_rd, .ref AT_fo, .ref AT_fi, .int vT_ab, .int vT_be, .int vT_bo, .int vT_no, .int vT_fu])), (AT_fo, .inr (1, [.ref AT_he, .ref AT_fo_tr, .ref AT_fo_ga, .ref AT_fo_bb, .ref AT_fo_fg, .ref AT_fo_sg])), (AT_fo_tr, .inr (4, [.ref AT_fo_tr_sl, .ref AT_fo_tr_fl, .ref AT_fo_tr_ro, .ref AT_fo_tr_nt, .ref AT_fo_tr_mk, .ref AT_fo_tr_mo, .int vT_fo_tr_ng])), (AT_he, .inr (4, [.ref AT_he_sl, .ref AT_he_fl, .ref AT_he_ro, .ref AT_he_nt, .ref AT_he_mk, .ref AT_he_mo, .int vT_he_ng])), (AT_fo_tr_sl, .inr (3, [.int 4, .ref AT_fo_tr_sl_c, .int vT_fo_tr_sl_n])), (AT_he_sl, .inr (3, [.int 4, .ref AT_he_sl_c, .int vT_he_sl_n])), (AT_he_sl_c, .inl (cI, 24, .inl fT_he_sl_c)), (AT_fo_tr_sl_c, .inl (cI, 24, .inl fT_fo_tr_sl_c)), (AT_fo_tr_fl, .inr (3, [.int 3, .ref AT_fo_tr_fl_c, .int vT_fo_tr_fl_n])), (AT_he_fl, .inr (3, [.int 3, .ref AT_he_fl_c, .int vT_he_fl_n])), (AT_he_fl_c, .inl (cI, 18, .inl fT_he_fl_c)), (AT_fo_tr_fl_c, .inl (cI, 18, .inl fT_fo_tr_fl_c)), (AT_fo_tr_ro, .inr (3, [.int 3, .ref AT_fo_tr_ro_c, .int vT_fo_tr_ro_n])), (AT_he_ro, .inr (3, [.int 3, .ref AT_he_ro_c, .int vT_he_ro_n])), (AT_he_ro_c, .inl (cI, 15, .inl fT_he_ro_c)), (AT_fo_tr_ro_c, .inl (cI, 15, .inl fT_fo_tr_ro_c)), (AT_fo_tr_nt, .inr (3, [.int 4, .ref AT_fo_tr_nt_c, .int vT_fo_tr_nt_n])), (AT_he_nt, .inr (3, [.int 4, .ref AT_he_nt_c, .int vT_he_nt_n])), (AT_he_nt_c, .inl (cI, 24, .inl fT_he_nt_c)), (AT_fo_tr_nt_c, .inl (cI, 24, .inl fT_fo_tr_nt_c)), (AT_fo_tr_mk, .inr (3, [.int 4, .ref AT_fo_tr_mk_c, .int vT_fo_tr_mk_n])), (AT_he_mk, .inr (3, [.int 4, .ref AT_he_mk_c, .int vT_he_mk_n])), (AT_he_mk_c, .inl (cI, 24, .inl fT_he_mk_c)), (AT_fo_tr_mk_c, .inl (cI, 24, .inl fT_fo_tr_mk_c)), (AT_fo_tr_mo, .inr (3, [.int 25, .ref AT_fo_tr_mo_c, .int vT_fo_tr_mo_n])), (AT_he_mo, .inr (3, [.int 25, .ref AT_he_mo_c, .int vT_he_mo_n])), (AT_he_mo_c, .inl (cI, 200, .inl fT_he_mo_c)), (AT_fo_tr_mo_c, .inl (cI, 200, .inl fT_fo_tr_mo_c))]
def fm_X7_decades (p1 : Int32) (p2 : Int32) (vT_bo : Int32) (vT_no : Int32) (vT_fu : Int32) (vT_fo_tr_ng : Int32) (vT_he_ng : Int32) (vT_fo_tr_sl_n : Int32) (vT_he_sl_n : Int32) (fT_he_sl_c : Nat → Int32) (fT_fo_tr_sl_c : Nat → Int32) (vT_fo_tr_fl_n : Int32) (vT_he_fl_n : Int32) (fT_he_fl_c : Nat → Int32) (fT_fo_tr_fl_c : Nat → Int32) (vT_fo_tr_ro_n : Int32) (vT_he_ro_n : Int32) (fT_he_ro_c : Nat → Int32) (fT_fo_tr_ro_c : Nat → Int32) (vT_fo_tr_nt_n : Int32) (vT_he_nt_n : Int32) (fT_he_nt_c : Nat → Int32) (fT_fo_tr_nt_c : Nat → Int32) (vT_fo_tr_mk_n : Int32) (vT_he_mk_n : Int32) (fT_he_mk_c : Nat → Int32) (fT_fo_tr_mk_c : Nat → Int32) (vT_fo_tr_mo_n : Int32) (vT_he_mo_n : Int32) (fT_he_mo_c : Nat → Int32) (fT_fo_tr_mo_c : Nat → Int32) : Option (Int32 × Int32 × Int32 × Int32 × Int32 × Int32 × (Nat → Int32) × Int32 × (Nat → Int32) × Int32 × (Nat → Int32) × Int32 × (Nat → Int32) × Int32 × (Nat → Int32) × Int32 × (Nat → Int32)) := Option.bind (fm_X7_within p1 0 999999) (fun r_4 => if r_4 = 0 then (Option.bind (fm_X7_refused (-2) vT_bo vT_no vT_fu) (fun r_23 => some (r_23.1, r_23.2.1, r_23.2.2.1, r_23.2.2.2, vT_fo_tr_ng, vT_fo_tr_sl_n, fT_fo_tr_sl_c, vT_fo_tr_fl_n, fT_fo_tr_fl_c, vT_fo_tr_ro_n, fT_fo_tr_ro_c, vT_fo_tr_nt_n, fT_fo_tr_nt_c, vT_fo_tr_mk_n, fT_fo_tr_mk_c, vT_fo_tr_mo_n, fT_fo_tr_mo_c))) else (Option.bind (fm_X7_within p2 0 60) (fun r_14 => if r_14 = 0 then (Option.bind (fm_X7_refused (-2) vT_bo vT_no vT_fu) (fun r_23 => some (r_23.1, r_23.2.1, r_23.2.2.1, r_23.2.2.2, vT_fo_tr_ng, vT_fo_tr_sl_n, fT_fo_tr_sl_c, vT_fo_tr_fl_n, fT_fo_tr_fl_c, vT_fo_tr_ro_n, fT_fo_tr_ro_c, vT_fo_tr_nt_n, fT_fo_tr_nt_c, vT_fo_tr_mk_n, fT_fo_tr_mk_c, vT_fo_tr_mo_n, fT_fo_tr_mo_c))) else (Option.bind (fm_X1_doingBehindDecades p1 p2 vT_fo_tr_ng vT_he_ng vT_fo_tr_sl_n vT_he_sl_n fT_he_sl_c fT_fo_tr_sl_c vT_fo_tr_fl_n vT_he_fl_n fT_he_fl_c fT_fo_tr_fl_c vT_fo_tr_ro_n vT_he_ro_n fT_he_ro_c fT_fo_tr_ro_c vT_fo_tr_nt_n vT_he_nt_n fT_he_nt_c fT_fo_tr_nt_c vT_fo_tr_mk_n vT_he_mk_n fT_he_mk_c fT_fo_tr_mk_c vT_fo_tr_mo_n vT_he_mo_n fT_he_mo_c fT_fo_tr_mo_c) (fun r_33 => some (r_33.1, vT_bo, vT_no, vT_fu, r_33.2.1, r_33.2.2.1, r_33.2.2.2.1, r_33.2.2.2.2.1, r_33.2.2.2.2.2.1, r_33.2.2.2.2.2.2.1, r_33.2.2.2.2.2.2.2.1, r_33.2.2.2.2.2.2.2.2.1, r_33.2.2.2.2.2.2.2.2.2.1, r_33.2.2.2.2.2.2.2.2.2.2.1, r_33.2.2.2.2.2.2.2.2.2.2.2.1, r_33.2.2.2.2.2.2.2.2.2.2.2.2.1, r_33.2.2.2.2.2.2.2.2.2.2.2.2.2))))))
set_option maxHeartbeats 4000000 in
set_option maxRecDepth 100000 in
theorem c_X7_decades (l : Launch) (D : va_G) (cI cZ : ClassId) (sz : Nat) (AT AT_he AT_iz AT_io AT_tx AT_rd AT_fo AT_fi AT_fo_tr AT_fo_ga AT_fo_bb AT_fo_fg AT_fo_sg AT_fo_tr_sl AT_fo_tr_fl AT_fo_tr_ro AT_fo_tr_nt AT_fo_tr_mk AT_fo_tr_mo AT_he_sl AT_he_fl AT_he_ro AT_he_nt AT_he_mk AT_he_mo AT_fo_tr_sl_c AT_he_sl_c AT_fo_tr_fl_c AT_he_fl_c AT_fo_tr_ro_c AT_he_ro_c AT_fo_tr_nt_c AT_he_nt_c AT_fo_tr_mk_c AT_he_mk_c AT_fo_tr_mo_c AT_he_mo_c : Nat) (vT_ab : Int32) (vT_be : Int32) (vT_bo : Int32) (vT_no : Int32) (vT_fu : Int32) (vT_fo_tr_ng : Int32) (vT_he_ng : Int32) (vT_fo_tr_sl_n : Int32) (vT_he_sl_n : Int32) (fT_he_sl_c : Nat → Int32) (fT_fo_tr_sl_c : Nat → Int32) (vT_fo_tr_fl_n : Int32) (vT_he_fl_n : Int32) (fT_he_fl_c : Nat → Int32) (fT_fo_tr_fl_c : Nat → Int32) (vT_fo_tr_ro_n : Int32) (vT_he_ro_n : Int32) (fT_he_ro_c : Nat → Int32) (fT_fo_tr_ro_c : Nat → Int32) (vT_fo_tr_nt_n : Int32) (vT_he_nt_n : Int32) (fT_he_nt_c : Nat → Int32) (fT_fo_tr_nt_c : Nat → Int32) (vT_fo_tr_mk_n : Int32) (vT_he_mk_n : Int32) (fT_he_mk_c : Nat → Int32) (fT_fo_tr_mk_c : Nat → Int32) (vT_fo_tr_mo_n : Int32) (vT_he_mo_n : Int32) (fT_he_mo_c : Nat → Int32) (fT_fo_tr_mo_c : Nat → Int32) (p1 : Int32) (p2 : Int32) (out : (Int32 × Int32 × Int32 × Int32 × Int32 × Int32 × (Nat → Int32) × Int32 × (Nat → Int32) × Int32 × (Nat → Int32) × Int32 × (Nat → Int32) × Int32 × (Nat → Int32) × Int32 × (Nat → Int32))) (hm : fm_X7_decades p1 p2 vT_bo vT_no vT_fu vT_fo_tr_ng vT_he_ng vT_fo_tr_sl_n vT_he_sl_n fT_he_sl_c fT_fo_tr_sl_c vT_fo_tr_fl_n vT_he_fl_n fT_he_fl_c fT_fo_tr_fl_c vT_fo_tr_ro_n vT_he_ro_n fT_he_ro_c fT_fo_tr_ro_c vT_fo_tr_nt_n vT_he_nt_n fT_he_nt_c fT_fo_tr_nt_c vT_fo_tr_mk_n vT_he_mk_n fT_he_mk_c fT_fo_tr_mk_c vT_fo_tr_mo_n vT_he_mo_n fT_he_mo_c fT_fo_tr_mo_c = some out) : Met l yX7_decades (Cond.code yX7_decades cX7_decades 3 (some .int) :: bg) { frames := 5, cells := 0, slots := 0, locals := 124 } (va_Pc [.ref AT, .int p1, .int p2] (q_pre D cI cZ sz (wd_X7_decades cI cZ AT AT_he AT_iz AT_io AT_tx AT_rd AT_fo AT_fi AT_fo_tr AT_fo_ga AT_fo_bb AT_fo_fg AT_fo_sg AT_fo_tr_sl AT_fo_tr_fl AT_fo_tr_ro AT_fo_tr_nt AT_fo_tr_mk AT_fo_tr_mo AT_he_sl AT_he_fl AT_he_ro AT_he_nt AT_he_mk AT_he_mo AT_fo_tr_sl_c AT_he_sl_c AT_fo_tr_fl_c AT_he_fl_c AT_fo_tr_ro_c AT_he_ro_c AT_fo_tr_nt_c AT_he_nt_c AT_fo_tr_mk_c AT_he_mk_c AT_fo_tr_mo_c AT_he_mo_c vT_ab vT_be vT_bo vT_no vT_fu vT_fo_tr_ng vT_he_ng vT_fo_tr_sl_n vT_he_sl_n fT_he_sl_c fT_fo_tr_sl_c vT_fo_tr_fl_n vT_he_fl_n fT_he_fl_c fT_fo_tr_fl_c vT_fo_tr_ro_n vT_he_ro_n fT_he_ro_c fT_fo_tr_ro_c vT_fo_tr_nt_n vT_he_nt_n fT_he_nt_c fT_fo_tr_nt_c vT_fo_tr_mk_n vT_he_mk_n fT_he_mk_c fT_fo_tr_mk_c vT_fo_tr_mo_n vT_he_mo_n fT_he_mo_c fT_fo_tr_mo_c))) (q_Qi D (wd_X7_decades cI cZ AT AT_he AT_iz AT_io AT_tx AT_rd AT_fo AT_fi AT_fo_tr AT_fo_ga AT_fo_bb AT_fo_fg AT_fo_sg AT_fo_tr_sl AT_fo_tr_fl AT_fo_tr_ro AT_fo_tr_nt AT_fo_tr_mk AT_fo_tr_mo AT_he_sl AT_he_fl AT_he_ro AT_he_nt AT_he_mk AT_he_mo AT_fo_tr_sl_c AT_he_sl_c AT_fo_tr_fl_c AT_he_fl_c AT_fo_tr_ro_c AT_he_ro_c AT_fo_tr_nt_c AT_he_nt_c AT_fo_tr_mk_c AT_he_mk_c AT_fo_tr_mo_c AT_he_mo_c vT_ab vT_be out.2.1 out.2.2.1 out.2.2.2.1 out.2.2.2.2.1 vT_he_ng out.2.2.2.2.2.1 vT_he_sl_n fT_he_sl_c out.2.2.2.2.2.2.1 out.2.2.2.2.2.2.2.1 vT_he_fl_n fT_he_fl_c out.2.2.2.2.2.2.2.2.1 out.2.2.2.2.2.2.2.2.2.1 vT_he_ro_n fT_he_ro_c out.2.2.2.2.2.2.2.2.2.2.1 out.2.2.2.2.2.2.2.2.2.2.2.1 vT_he_nt_n fT_he_nt_c out.2.2.2.2.2.2.2.2.2.2.2.2.1 out.2.2.2.2.2.2.2.2.2.2.2.2.2.1 vT_he_mk_n fT_he_mk_c out.2.2.2.2.2.2.2.2.2.2.2.2.2.2.1 out.2.2.2.2.2.2.2.2.2.2.2.2.2.2.2.1 vT_he_mo_n fT_he_mo_c out.2.2.2.2.2.2.2.2.2.2.2.2.2.2.2.2) out.1 (va_A (wd_X7_decades cI cZ AT AT_he AT_iz AT_io AT_tx AT_rd AT_fo AT_fi AT_fo_tr AT_fo_ga AT_fo_bb AT_fo_fg AT_fo_sg AT_fo_tr_sl AT_fo_tr_fl AT_fo_tr_ro AT_fo_tr_nt AT_fo_tr_mk AT_fo_tr_mo AT_he_sl AT_he_fl AT_he_ro AT_he_nt AT_he_mk AT_he_mo AT_fo_tr_sl_c AT_he_sl_c AT_fo_tr_fl_c AT_he_fl_c AT_fo_tr_ro_c AT_he_ro_c AT_fo_tr_nt_c AT_he_nt_c AT_fo_tr_mk_c AT_he_mk_c AT_fo_tr_mo_c AT_he_mo_c vT_ab vT_be vT_bo vT_no vT_fu vT_fo_tr_ng vT_he_ng vT_fo_tr_sl_n vT_he_sl_n fT_he_sl_c fT_fo_tr_sl_c vT_fo_tr_fl_n vT_he_fl_n fT_he_fl_c fT_fo_tr_fl_c vT_fo_tr_ro_n vT_he_ro_n fT_he_ro_c fT_fo_tr_ro_c vT_fo_tr_nt_n vT_he_nt_n fT_he_nt_c fT_fo_tr_nt_c vT_fo_tr_mk_n vT_he_mk_n fT_he_mk_c fT_fo_tr_mk_c vT_fo_tr_mo_n vT_he_mo_n fT_he_mo_c fT_fo_tr_mo_c) sz)) 0 0 (va_A (wd_X7_decades cI cZ AT AT_he AT_iz AT_io AT_tx AT_rd AT_fo AT_fi AT_fo_tr AT_fo_ga AT_fo_bb AT_fo_fg AT_fo_sg AT_fo_tr_sl AT_fo_tr_fl AT_fo_tr_ro AT_fo_tr_nt AT_fo_tr_mk AT_fo_tr_mo AT_he_sl AT_he_fl AT_he_ro AT_he_nt AT_he_mk AT_he_mo AT_fo_tr_sl_c AT_he_sl_c AT_fo_tr_fl_c AT_he_fl_c AT_fo_tr_ro_c AT_he_ro_c AT_fo_tr_nt_c AT_he_nt_c AT_fo_tr_mk_c AT_he_mk_c AT_fo_tr_mo_c AT_he_mo_c vT_ab vT_be vT_bo vT_no vT_fu vT_fo_tr_ng vT_he_ng vT_fo_tr_sl_n vT_he_sl_n fT_he_sl_c fT_fo_tr_sl_c vT_fo_tr_fl_n vT_he_fl_n fT_he_fl_c fT_fo_tr_fl_c vT_fo_tr_ro_n vT_he_ro_n fT_he_ro_c fT_fo_tr_ro_c vT_fo_tr_nt_n vT_he_nt_n fT_he_nt_c fT_fo_tr_nt_c vT_fo_tr_mk_n vT_he_mk_n fT_he_mk_c fT_fo_tr_mk_c vT_fo_tr_mo_n vT_he_mo_n fT_he_mo_c fT_fo_tr_mo_c) sz) := by
  refine q_met (fun A => q_Qi D (wd_X7_decades cI cZ AT AT_he AT_iz AT_io AT_tx AT_rd AT_fo AT_fi AT_fo_tr AT_fo_ga AT_fo_bb AT_fo_fg AT_fo_sg AT_fo_tr_sl AT_fo_tr_fl AT_fo_tr_ro AT_fo_tr_nt AT_fo_tr_mk AT_fo_tr_mo AT_he_sl AT_he_fl AT_he_ro AT_he_nt AT_he_mk AT_he_mo AT_fo_tr_sl_c AT_he_sl_c AT_fo_tr_fl_c AT_he_fl_c AT_fo_tr_ro_c AT_he_ro_c AT_fo_tr_nt_c AT_he_nt_c AT_fo_tr_mk_c AT_he_mk_c AT_fo_tr_mo_c AT_he_mo_c vT_ab vT_be out.2.1 out.2.2.1 out.2.2.2.1 out.2.2.2.2.1 vT_he_ng out.2.2.2.2.2.1 vT_he_sl_n fT_he_sl_c out.2.2.2.2.2.2.1 out.2.2.2.2.2.2.2.1 vT_he_fl_n fT_he_fl_c out.2.2.2.2.2.2.2.2.1 out.2.2.2.2.2.2.2.2.2.1 vT_he_ro_n fT_he_ro_c out.2.2.2.2.2.2.2.2.2.2.1 out.2.2.2.2.2.2.2.2.2.2.2.1 vT_he_nt_n fT_he_nt_c out.2.2.2.2.2.2.2.2.2.2.2.2.1 out.2.2.2.2.2.2.2.2.2.2.2.2.2.1 vT_he_mk_n fT_he_mk_c out.2.2.2.2.2.2.2.2.2.2.2.2.2.2.1 out.2.2.2.2.2.2.2.2.2.2.2.2.2.2.2.1 vT_he_mo_n fT_he_mo_c out.2.2.2.2.2.2.2.2.2.2.2.2.2.2.2.2) out.1 A) (by decide) (Nat.le_of_ble_eq_true rfl) ?_
  intro p e s m below meth c ls A hx hb hr hml hown hts hlocks _ hA hS hP hD hK hN hl
  have hown : s.vm.findClass RX7 = some m.cls := hown
  have hl : lv_has ls 3 [(0, .ref AT), (1, .int p1), (2, .int p2)] := hl
  unfold fm_X7_decades at hm
  refine q_gen hS hP ?_
  intro H locs hP hS
  refine lv_iload_n hx hb dX7_decades_0 rfl (lv_at hl 1 rfl) ?_
  refine lv_iconst (v := 0) hx hb dX7_decades_1 (by decide) ?_
  refine lv_ldc (v := 999999) hx hb hown (hts _ wv_X7_228) dX7_decades_2 ?_
  obtain ⟨r_4, hc_4, hm⟩ := ob_s hm
  refine q_ci (q_rs (rest := []) ⟨hx, hb, hml, hown, hts⟩ hK hN hP hD (c_X7_within l D cI cZ H.size p1 0 999999 r_4 hc_4) mb_X7_within wt_X7_within wl_X7_77 [] rfl rfl (Nat.le_of_ble_eq_true rfl) (Nat.le_of_ble_eq_true rfl) rfl hl.1 rfl (Nat.le_of_ble_eq_true rfl) ⟨Nat.le_refl 0, Nat.le_refl 0⟩ dX7_decades_4) hP hD hS hA [] rfl rfl (fun H locs hP hD hS => ?_)
  have hP : va_P D vwCl (wd_X7_decades cI cZ AT AT_he AT_iz AT_io AT_tx AT_rd AT_fo AT_fi AT_fo_tr AT_fo_ga AT_fo_bb AT_fo_fg AT_fo_sg AT_fo_tr_sl AT_fo_tr_fl AT_fo_tr_ro AT_fo_tr_nt AT_fo_tr_mk AT_fo_tr_mo AT_he_sl AT_he_fl AT_he_ro AT_he_nt AT_he_mk AT_he_mo AT_fo_tr_sl_c AT_he_sl_c AT_fo_tr_fl_c AT_he_fl_c AT_fo_tr_ro_c AT_he_ro_c AT_fo_tr_nt_c AT_he_nt_c AT_fo_tr_mk_c AT_he_mk_c AT_fo_tr_mo_c AT_he_mo_c vT_ab vT_be vT_bo vT_no vT_fu vT_fo_tr_ng vT_he_ng vT_fo_tr_sl_n vT_he_sl_n fT_he_sl_c fT_fo_tr_sl_c vT_fo_tr_fl_n vT_he_fl_n fT_he_fl_c fT_fo_tr_fl_c vT_fo_tr_ro_n vT_he_ro_n fT_he_ro_c fT_fo_tr_ro_c vT_fo_tr_nt_n vT_he_nt_n fT_he_nt_c fT_fo_tr_nt_c vT_fo_tr_mk_n vT_he_mk_n fT_he_mk_c fT_fo_tr_mk_c vT_fo_tr_mo_n vT_he_mo_n fT_he_mo_c fT_fo_tr_mo_c) H := hP
  have hD : va_D A (wd_X7_decades cI cZ AT AT_he AT_iz AT_io AT_tx AT_rd AT_fo AT_fi AT_fo_tr AT_fo_ga AT_fo_bb AT_fo_fg AT_fo_sg AT_fo_tr_sl AT_fo_tr_fl AT_fo_tr_ro AT_fo_tr_nt AT_fo_tr_mk AT_fo_tr_mo AT_he_sl AT_he_fl AT_he_ro AT_he_nt AT_he_mk AT_he_mo AT_fo_tr_sl_c AT_he_sl_c AT_fo_tr_fl_c AT_he_fl_c AT_fo_tr_ro_c AT_he_ro_c AT_fo_tr_nt_c AT_he_nt_c AT_fo_tr_mk_c AT_he_mk_c AT_fo_tr_mo_c AT_he_mo_c vT_ab vT_be vT_bo vT_no vT_fu vT_fo_tr_ng vT_he_ng vT_fo_tr_sl_n vT_he_sl_n fT_he_sl_c fT_fo_tr_sl_c vT_fo_tr_fl_n vT_he_fl_n fT_he_fl_c fT_fo_tr_fl_c vT_fo_tr_ro_n vT_he_ro_n fT_he_ro_c fT_fo_tr_ro_c vT_fo_tr_nt_n vT_he_nt_n fT_he_nt_c fT_fo_tr_nt_c vT_fo_tr_mk_n vT_he_mk_n fT_he_mk_c fT_fo_tr_mk_c vT_fo_tr_mo_n vT_he_mo_n fT_he_mo_c fT_fo_tr_mo_c) := hD
  refine lv_if_eq (tgt := 20) hx hb dX7_decades_7 (by decide) (fun c_7 => ?_) (fun c_7 => ?_)
  · have hm := it_s c_7 hm
    refine lv_aload_n hx hb dX7_decades_20 rfl (lv_at hl 0 rfl) ?_
    refine lv_bipush (v := (-2)) hx hb dX7_decades_21 (by decide) ?_
    obtain ⟨r_23, hc_23, hm⟩ := ob_s hm
    refine q_ci (q_rv (rest := []) ⟨hx, hb, hml, hown, hts⟩ hK hN hP hD (c_X7_refused l D cI cZ H.size AT AT_he AT_iz AT_io AT_tx AT_rd AT_fo AT_fi vT_ab vT_be vT_bo vT_no vT_fu (-2) r_23 hc_23) mb_X7_refused mv_X7_refused wl_X7_81 [0] rfl rfl rfl (Nat.le_of_ble_eq_true rfl) (Nat.le_of_ble_eq_true rfl) rfl hl.1 rfl (Nat.le_of_ble_eq_true rfl) ⟨Nat.le_refl 0, Nat.le_refl 0⟩ dX7_decades_23) hP hD hS hA [0] rfl rfl (fun H locs hP hD hS => ?_)
    have hP : va_P D vwCl (wd_X7_decades cI cZ AT AT_he AT_iz AT_io AT_tx AT_rd AT_fo AT_fi AT_fo_tr AT_fo_ga AT_fo_bb AT_fo_fg AT_fo_sg AT_fo_tr_sl AT_fo_tr_fl AT_fo_tr_ro AT_fo_tr_nt AT_fo_tr_mk AT_fo_tr_mo AT_he_sl AT_he_fl AT_he_ro AT_he_nt AT_he_mk AT_he_mo AT_fo_tr_sl_c AT_he_sl_c AT_fo_tr_fl_c AT_he_fl_c AT_fo_tr_ro_c AT_he_ro_c AT_fo_tr_nt_c AT_he_nt_c AT_fo_tr_mk_c AT_he_mk_c AT_fo_tr_mo_c AT_he_mo_c vT_ab vT_be r_23.2.1 r_23.2.2.1 r_23.2.2.2 vT_fo_tr_ng vT_he_ng vT_fo_tr_sl_n vT_he_sl_n fT_he_sl_c fT_fo_tr_sl_c vT_fo_tr_fl_n vT_he_fl_n fT_he_fl_c fT_fo_tr_fl_c vT_fo_tr_ro_n vT_he_ro_n fT_he_ro_c fT_fo_tr_ro_c vT_fo_tr_nt_n vT_he_nt_n fT_he_nt_c fT_fo_tr_nt_c vT_fo_tr_mk_n vT_he_mk_n fT_he_mk_c fT_fo_tr_mk_c vT_fo_tr_mo_n vT_he_mo_n fT_he_mo_c fT_fo_tr_mo_c) H := hP
    have hD : va_D A (wd_X7_decades cI cZ AT AT_he AT_iz AT_io AT_tx AT_rd AT_fo AT_fi AT_fo_tr AT_fo_ga AT_fo_bb AT_fo_fg AT_fo_sg AT_fo_tr_sl AT_fo_tr_fl AT_fo_tr_ro AT_fo_tr_nt AT_fo_tr_mk AT_fo_tr_mo AT_he_sl AT_he_fl AT_he_ro AT_he_nt AT_he_mk AT_he_mo AT_fo_tr_sl_c AT_he_sl_c AT_fo_tr_fl_c AT_he_fl_c AT_fo_tr_ro_c AT_he_ro_c AT_fo_tr_nt_c AT_he_nt_c AT_fo_tr_mk_c AT_he_mk_c AT_fo_tr_mo_c AT_he_mo_c vT_ab vT_be r_23.2.1 r_23.2.2.1 r_23.2.2.2 vT_fo_tr_ng vT_he_ng vT_fo_tr_sl_n vT_he_sl_n fT_he_sl_c fT_fo_tr_sl_c vT_fo_tr_fl_n vT_he_fl_n fT_he_fl_c fT_fo_tr_fl_c vT_fo_tr_ro_n vT_he_ro_n fT_he_ro_c fT_fo_tr_ro_c vT_fo_tr_nt_n vT_he_nt_n fT_he_nt_c fT_fo_tr_nt_c vT_fo_tr_mk_n vT_he_mk_n fT_he_mk_c fT_fo_tr_mk_c vT_fo_tr_mo_n vT_he_mo_n fT_he_mo_c fT_fo_tr_mo_c) := hD
    have hm := Option.some.inj hm
    subst hm
    exact q_iret (v := r_23.1) hx hb hr hlocks hP hS dX7_decades_26
  · have hm := it_n c_7 hm
    refine lv_iload_n hx hb dX7_decades_10 rfl (lv_at hl 2 rfl) ?_
    refine lv_iconst (v := 0) hx hb dX7_decades_11 (by decide) ?_
    refine lv_bipush (v := 60) hx hb dX7_decades_12 (by decide) ?_
    obtain ⟨r_14, hc_14, hm⟩ := ob_s hm
    refine q_ci (q_rs (rest := []) ⟨hx, hb, hml, hown, hts⟩ hK hN hP hD (c_X7_within l D cI cZ H.size p2 0 60 r_14 hc_14) mb_X7_within wt_X7_within wl_X7_77 [] rfl rfl (Nat.le_of_ble_eq_true rfl) (Nat.le_of_ble_eq_true rfl) rfl hl.1 rfl (Nat.le_of_ble_eq_true rfl) ⟨Nat.le_refl 0, Nat.le_refl 0⟩ dX7_decades_14) hP hD hS hA [] rfl rfl (fun H locs hP hD hS => ?_)
    have hP : va_P D vwCl (wd_X7_decades cI cZ AT AT_he AT_iz AT_io AT_tx AT_rd AT_fo AT_fi AT_fo_tr AT_fo_ga AT_fo_bb AT_fo_fg AT_fo_sg AT_fo_tr_sl AT_fo_tr_fl AT_fo_tr_ro AT_fo_tr_nt AT_fo_tr_mk AT_fo_tr_mo AT_he_sl AT_he_fl AT_he_ro AT_he_nt AT_he_mk AT_he_mo AT_fo_tr_sl_c AT_he_sl_c AT_fo_tr_fl_c AT_he_fl_c AT_fo_tr_ro_c AT_he_ro_c AT_fo_tr_nt_c AT_he_nt_c AT_fo_tr_mk_c AT_he_mk_c AT_fo_tr_mo_c AT_he_mo_c vT_ab vT_be vT_bo vT_no vT_fu vT_fo_tr_ng vT_he_ng vT_fo_tr_sl_n vT_he_sl_n fT_he_sl_c fT_fo_tr_sl_c vT_fo_tr_fl_n vT_he_fl_n fT_he_fl_c fT_fo_tr_fl_c vT_fo_tr_ro_n vT_he_ro_n fT_he_ro_c fT_fo_tr_ro_c vT_fo_tr_nt_n vT_he_nt_n fT_he_nt_c fT_fo_tr_nt_c vT_fo_tr_mk_n vT_he_mk_n fT_he_mk_c fT_fo_tr_mk_c vT_fo_tr_mo_n vT_he_mo_n fT_he_mo_c fT_fo_tr_mo_c) H := hP
    have hD : va_D A (wd_X7_decades cI cZ AT AT_he AT_iz AT_io AT_tx AT_rd AT_fo AT_fi AT_fo_tr AT_fo_ga AT_fo_bb AT_fo_fg AT_fo_sg AT_fo_tr_sl AT_fo_tr_fl AT_fo_tr_ro AT_fo_tr_nt AT_fo_tr_mk AT_fo_tr_mo AT_he_sl AT_he_fl AT_he_ro AT_he_nt AT_he_mk AT_he_mo AT_fo_tr_sl_c AT_he_sl_c AT_fo_tr_fl_c AT_he_fl_c AT_fo_tr_ro_c AT_he_ro_c AT_fo_tr_nt_c AT_he_nt_c AT_fo_tr_mk_c AT_he_mk_c AT_fo_tr_mo_c AT_he_mo_c vT_ab vT_be vT_bo vT_no vT_fu vT_fo_tr_ng vT_he_ng vT_fo_tr_sl_n vT_he_sl_n fT_he_sl_c fT_fo_tr_sl_c vT_fo_tr_fl_n vT_he_fl_n fT_he_fl_c fT_fo_tr_fl_c vT_fo_tr_ro_n vT_he_ro_n fT_he_ro_c fT_fo_tr_ro_c vT_fo_tr_nt_n vT_he_nt_n fT_he_nt_c fT_fo_tr_nt_c vT_fo_tr_mk_n vT_he_mk_n fT_he_mk_c fT_fo_tr_mk_c vT_fo_tr_mo_n vT_he_mo_n fT_he_mo_c fT_fo_tr_mo_c) := hD
    refine lv_if_ne (tgt := 27) hx hb dX7_decades_17 (by decide) (fun c_17 => ?_) (fun c_17 => ?_)
    · have hm := it_n c_17 hm
      refine lv_aload_n hx hb dX7_decades_27 rfl (lv_at hl 0 rfl) ?_
      refine gf_X7_49 (v := .ref AT_fo) hx hb hts hown hK hN hP 0 rfl rfl dX7_decades_28 ?_
      refine lv_iload_n hx hb dX7_decades_31 rfl (lv_at hl 1 rfl) ?_
      refine lv_iload_n hx hb dX7_decades_32 rfl (lv_at hl 2 rfl) ?_
      obtain ⟨r_33, hc_33, hm⟩ := ob_s hm
      refine q_ci (q_rv (rest := []) ⟨hx, hb, hml, hown, hts⟩ hK hN hP hD (c_X1_doingBehindDecades l D cI cZ H.size AT_fo AT_he AT_fo_tr AT_fo_ga AT_fo_bb AT_fo_fg AT_fo_sg AT_fo_tr_sl AT_fo_tr_fl AT_fo_tr_ro AT_fo_tr_nt AT_fo_tr_mk AT_fo_tr_mo AT_he_sl AT_he_fl AT_he_ro AT_he_nt AT_he_mk AT_he_mo AT_fo_tr_sl_c AT_he_sl_c AT_fo_tr_fl_c AT_he_fl_c AT_fo_tr_ro_c AT_he_ro_c AT_fo_tr_nt_c AT_he_nt_c AT_fo_tr_mk_c AT_he_mk_c AT_fo_tr_mo_c AT_he_mo_c vT_fo_tr_ng vT_he_ng vT_fo_tr_sl_n vT_he_sl_n fT_he_sl_c fT_fo_tr_sl_c vT_fo_tr_fl_n vT_he_fl_n fT_he_fl_c fT_fo_tr_fl_c vT_fo_tr_ro_n vT_he_ro_n fT_he_ro_c fT_fo_tr_ro_c vT_fo_tr_nt_n vT_he_nt_n fT_he_nt_c fT_fo_tr_nt_c vT_fo_tr_mk_n vT_he_mk_n fT_he_mk_c fT_fo_tr_mk_c vT_fo_tr_mo_n vT_he_mo_n fT_he_mo_c fT_fo_tr_mo_c p1 p2 r_33 hc_33) mb_X1_doingBehindDecades mv_X1_doingBehindDecades wl_X7_229 [1, 2, 3, 4, 5, 6, 7, 8, 9, 10, 11, 12, 13, 14, 15, 16, 17, 18, 19, 20, 21, 22, 23, 24, 25, 26, 27] rfl rfl rfl (Nat.le_of_ble_eq_true rfl) (Nat.le_of_ble_eq_true rfl) rfl hl.1 rfl (Nat.le_of_ble_eq_true rfl) ⟨Nat.le_refl 0, Nat.le_refl 0⟩ dX7_decades_33) hP hD hS hA [1, 2, 3, 4, 5, 6, 7, 8, 9, 10, 11, 12, 13, 14, 15, 16, 17, 18, 19, 20, 21, 22, 23, 24, 25, 26, 27] rfl rfl (fun H locs hP hD hS => ?_)
      have hP : va_P D vwCl (wd_X7_decades cI cZ AT AT_he AT_iz AT_io AT_tx AT_rd AT_fo AT_fi AT_fo_tr AT_fo_ga AT_fo_bb AT_fo_fg AT_fo_sg AT_fo_tr_sl AT_fo_tr_fl AT_fo_tr_ro AT_fo_tr_nt AT_fo_tr_mk AT_fo_tr_mo AT_he_sl AT_he_fl AT_he_ro AT_he_nt AT_he_mk AT_he_mo AT_fo_tr_sl_c AT_he_sl_c AT_fo_tr_fl_c AT_he_fl_c AT_fo_tr_ro_c AT_he_ro_c AT_fo_tr_nt_c AT_he_nt_c AT_fo_tr_mk_c AT_he_mk_c AT_fo_tr_mo_c AT_he_mo_c vT_ab vT_be vT_bo vT_no vT_fu r_33.2.1 vT_he_ng r_33.2.2.1 vT_he_sl_n fT_he_sl_c r_33.2.2.2.1 r_33.2.2.2.2.1 vT_he_fl_n fT_he_fl_c r_33.2.2.2.2.2.1 r_33.2.2.2.2.2.2.1 vT_he_ro_n fT_he_ro_c r_33.2.2.2.2.2.2.2.1 r_33.2.2.2.2.2.2.2.2.1 vT_he_nt_n fT_he_nt_c r_33.2.2.2.2.2.2.2.2.2.1 r_33.2.2.2.2.2.2.2.2.2.2.1 vT_he_mk_n fT_he_mk_c r_33.2.2.2.2.2.2.2.2.2.2.2.1 r_33.2.2.2.2.2.2.2.2.2.2.2.2.1 vT_he_mo_n fT_he_mo_c r_33.2.2.2.2.2.2.2.2.2.2.2.2.2) H := hP
      have hD : va_D A (wd_X7_decades cI cZ AT AT_he AT_iz AT_io AT_tx AT_rd AT_fo AT_fi AT_fo_tr AT_fo_ga AT_fo_bb AT_fo_fg AT_fo_sg AT_fo_tr_sl AT_fo_tr_fl AT_fo_tr_ro AT_fo_tr_nt AT_fo_tr_mk AT_fo_tr_mo AT_he_sl AT_he_fl AT_he_ro AT_he_nt AT_he_mk AT_he_mo AT_fo_tr_sl_c AT_he_sl_c AT_fo_tr_fl_c AT_he_fl_c AT_fo_tr_ro_c AT_he_ro_c AT_fo_tr_nt_c AT_he_nt_c AT_fo_tr_mk_c AT_he_mk_c AT_fo_tr_mo_c AT_he_mo_c vT_ab vT_be vT_bo vT_no vT_fu r_33.2.1 vT_he_ng r_33.2.2.1 vT_he_sl_n fT_he_sl_c r_33.2.2.2.1 r_33.2.2.2.2.1 vT_he_fl_n fT_he_fl_c r_33.2.2.2.2.2.1 r_33.2.2.2.2.2.2.1 vT_he_ro_n fT_he_ro_c r_33.2.2.2.2.2.2.2.1 r_33.2.2.2.2.2.2.2.2.1 vT_he_nt_n fT_he_nt_c r_33.2.2.2.2.2.2.2.2.2.1 r_33.2.2.2.2.2.2.2.2.2.2.1 vT_he_mk_n fT_he_mk_c r_33.2.2.2.2.2.2.2.2.2.2.2.1 r_33.2.2.2.2.2.2.2.2.2.2.2.2.1 vT_he_mo_n fT_he_mo_c r_33.2.2.2.2.2.2.2.2.2.2.2.2.2) := hD
      have hm := Option.some.inj hm
      subst hm
      exact q_iret (v := r_33.1) hx hb hr hlocks hP hS dX7_decades_36
    · have hm := it_s c_17 hm
      refine lv_aload_n hx hb dX7_decades_20 rfl (lv_at hl 0 rfl) ?_
      refine lv_bipush (v := (-2)) hx hb dX7_decades_21 (by decide) ?_
      obtain ⟨r_23, hc_23, hm⟩ := ob_s hm
      refine q_ci (q_rv (rest := []) ⟨hx, hb, hml, hown, hts⟩ hK hN hP hD (c_X7_refused l D cI cZ H.size AT AT_he AT_iz AT_io AT_tx AT_rd AT_fo AT_fi vT_ab vT_be vT_bo vT_no vT_fu (-2) r_23 hc_23) mb_X7_refused mv_X7_refused wl_X7_81 [0] rfl rfl rfl (Nat.le_of_ble_eq_true rfl) (Nat.le_of_ble_eq_true rfl) rfl hl.1 rfl (Nat.le_of_ble_eq_true rfl) ⟨Nat.le_refl 0, Nat.le_refl 0⟩ dX7_decades_23) hP hD hS hA [0] rfl rfl (fun H locs hP hD hS => ?_)
      have hP : va_P D vwCl (wd_X7_decades cI cZ AT AT_he AT_iz AT_io AT_tx AT_rd AT_fo AT_fi AT_fo_tr AT_fo_ga AT_fo_bb AT_fo_fg AT_fo_sg AT_fo_tr_sl AT_fo_tr_fl AT_fo_tr_ro AT_fo_tr_nt AT_fo_tr_mk AT_fo_tr_mo AT_he_sl AT_he_fl AT_he_ro AT_he_nt AT_he_mk AT_he_mo AT_fo_tr_sl_c AT_he_sl_c AT_fo_tr_fl_c AT_he_fl_c AT_fo_tr_ro_c AT_he_ro_c AT_fo_tr_nt_c AT_he_nt_c AT_fo_tr_mk_c AT_he_mk_c AT_fo_tr_mo_c AT_he_mo_c vT_ab vT_be r_23.2.1 r_23.2.2.1 r_23.2.2.2 vT_fo_tr_ng vT_he_ng vT_fo_tr_sl_n vT_he_sl_n fT_he_sl_c fT_fo_tr_sl_c vT_fo_tr_fl_n vT_he_fl_n fT_he_fl_c fT_fo_tr_fl_c vT_fo_tr_ro_n vT_he_ro_n fT_he_ro_c fT_fo_tr_ro_c vT_fo_tr_nt_n vT_he_nt_n fT_he_nt_c fT_fo_tr_nt_c vT_fo_tr_mk_n vT_he_mk_n fT_he_mk_c fT_fo_tr_mk_c vT_fo_tr_mo_n vT_he_mo_n fT_he_mo_c fT_fo_tr_mo_c) H := hP
      have hD : va_D A (wd_X7_decades cI cZ AT AT_he AT_iz AT_io AT_tx AT_rd AT_fo AT_fi AT_fo_tr AT_fo_ga AT_fo_bb AT_fo_fg AT_fo_sg AT_fo_tr_sl AT_fo_tr_fl AT_fo_tr_ro AT_fo_tr_nt AT_fo_tr_mk AT_fo_tr_mo AT_he_sl AT_he_fl AT_he_ro AT_he_nt AT_he_mk AT_he_mo AT_fo_tr_sl_c AT_he_sl_c AT_fo_tr_fl_c AT_he_fl_c AT_fo_tr_ro_c AT_he_ro_c AT_fo_tr_nt_c AT_he_nt_c AT_fo_tr_mk_c AT_he_mk_c AT_fo_tr_mo_c AT_he_mo_c vT_ab vT_be r_23.2.1 r_23.2.2.1 r_23.2.2.2 vT_fo_tr_ng vT_he_ng vT_fo_tr_sl_n vT_he_sl_n fT_he_sl_c fT_fo_tr_sl_c vT_fo_tr_fl_n vT_he_fl_n fT_he_fl_c fT_fo_tr_fl_c vT_fo_tr_ro_n vT_he_ro_n fT_he_ro_c fT_fo_tr_ro_c vT_fo_tr_nt_n vT_he_nt_n fT_he_nt_c fT_fo_tr_nt_c vT_fo_tr_mk_n vT_he_mk_n fT_he_mk_c fT_fo_tr_mk_c vT_fo_tr_mo_n vT_he_mo_n fT_he_mo_c fT_fo_tr_mo_c) := hD
      have hm := Option.some.inj hm
      subst hm
      exact q_iret (v := r_23.1) hx hb hr hlocks hP hS dX7_decades_26
theorem gf_X7_64 {p : Program} {l : Launch} {e : Env} {R : Room} {s : State} {m : MethodId} {args : Array Value} {below : List Frame} {meth : Method} {c : Code} {H : Heap} {locs : List Loc} {cells slots : Nat} {Q : State → Prop} {pc : Nat} {ls : Array Slot} {cc : ByteArray} {D : va_G} {cI cZ : ClassId} {ws : va_W} {a : Nat} {rest fs : List Value} (hx : p.tables.exec = Jvm.exec) (hb : c.code = cc) (hts : ∀ w ∈ bg, w.before args s = true) (hown : s.vm.findClass RX7 = some m.cls) (hK : va_K D vwCl (q_tys cI cZ) s) (hN : q_N s) (hP : va_P D vwCl ws H) (q0 : Nat) (he : ws[q0]? = some (a, .inr (7, fs))) {v : Value} (hv : fs[8]? = some v) (hdg : decode cc pc = .ok (.getfield 64, 3)) (kk : W p l e R s m args below meth c H locs cells slots Q (F0 m (pc + 3) ls (v :: rest))) : W p l e R s m args below meth c H locs cells slots Q (F0 m pc ls (.ref a :: rest)) :=
  va_get (C := RX7) (T := TX7) (N := 12) hx hb hts wu_X7 hown hK hP q0 he rfl 8 (by decide) (hts _ wf_X7_64) (fun _ h9 => h9) hv hdg kk
theorem gf_X7_60 {p : Program} {l : Launch} {e : Env} {R : Room} {s : State} {m : MethodId} {args : Array Value} {below : List Frame} {meth : Method} {c : Code} {H : Heap} {locs : List Loc} {cells slots : Nat} {Q : State → Prop} {pc : Nat} {ls : Array Slot} {cc : ByteArray} {D : va_G} {cI cZ : ClassId} {ws : va_W} {a : Nat} {rest fs : List Value} (hx : p.tables.exec = Jvm.exec) (hb : c.code = cc) (hts : ∀ w ∈ bg, w.before args s = true) (hown : s.vm.findClass RX7 = some m.cls) (hK : va_K D vwCl (q_tys cI cZ) s) (hN : q_N s) (hP : va_P D vwCl ws H) (q0 : Nat) (he : ws[q0]? = some (a, .inr (7, fs))) {v : Value} (hv : fs[7]? = some v) (hdg : decode cc pc = .ok (.getfield 60, 3)) (kk : W p l e R s m args below meth c H locs cells slots Q (F0 m (pc + 3) ls (v :: rest))) : W p l e R s m args below meth c H locs cells slots Q (F0 m pc ls (.ref a :: rest)) :=
  va_get (C := RX7) (T := TX7) (N := 12) hx hb hts wu_X7 hown hK hP q0 he rfl 7 (by decide) (hts _ wf_X7_60) (fun _ h9 => h9) hv hdg kk
theorem mb_X7_part : q_mb yX7_part cX7_part 2 (some .long) 1 := ⟨wc_X7_part, wn_X7, by decide, by decide, by decide +kernel⟩
theorem mv_X7_part : q_mv yX7_part 7 := ⟨wi_X7_part, ws_X7_part, _, rfl, rfl⟩
def wd_X7_part (cI cZ : ClassId) (AT AT_he AT_iz AT_io AT_tx AT_rd AT_fo AT_fi : Nat) (vT_ab : Int32) (vT_be : Int32) (vT_bo : Int32) (vT_no : Int32) (vT_fu : Int32) : va_W := [(AT, .inr (7, [.ref AT_he, .ref AT_iz, .ref AT_io, .ref AT_tx, .ref AT_rd, .ref AT_fo, .ref AT_fi, .int vT_ab, .int vT_be, .int vT_bo, .int vT_no, .int vT_fu]))]
def fm_X7_part (p1 : Int32) (vT_ab : Int32) (vT_be : Int32) (vT_bo : Int32) (vT_no : Int32) (vT_fu : Int32) : Option (Int64 × Int32 × Int32 × Int32) := Option.bind (fm_X7_within p1 0 1) (fun r_3 => if r_3 = 0 then (Option.bind (fm_X7_refused (-2) vT_bo vT_no vT_fu) (fun r_12 => some ((Int32.toInt64 r_12.1), r_12.2.1, r_12.2.2.1, r_12.2.2.2))) else (if p1 = 0 then (some ((Int32.toInt64 vT_ab), vT_bo, vT_no, vT_fu)) else (some ((Int32.toInt64 vT_be), vT_bo, vT_no, vT_fu))))
set_option maxHeartbeats 4000000 in
set_option maxRecDepth 100000 in
theorem c_X7_part (l : Launch) (D : va_G) (cI cZ : ClassId) (sz : Nat) (AT AT_he AT_iz AT_io AT_tx AT_rd AT_fo AT_fi : Nat) (vT_ab : Int32) (vT_be : Int32) (vT_bo : Int32) (vT_no : Int32) (vT_fu : Int32) (p1 : Int32) (out : (Int64 × Int32 × Int32 × Int32)) (hm : fm_X7_part p1 vT_ab vT_be vT_bo vT_no vT_fu = some out) : Met l yX7_part (Cond.code yX7_part cX7_part 2 (some .long) :: bg) { frames := 1, cells := 0, slots := 0, locals := 22 } (va_Pc [.ref AT, .int p1] (q_pre D cI cZ sz (wd_X7_part cI cZ AT AT_he AT_iz AT_io AT_tx AT_rd AT_fo AT_fi vT_ab vT_be vT_bo vT_no vT_fu))) (q_Ql D (wd_X7_part cI cZ AT AT_he AT_iz AT_io AT_tx AT_rd AT_fo AT_fi vT_ab vT_be out.2.1 out.2.2.1 out.2.2.2) out.1 (va_A (wd_X7_part cI cZ AT AT_he AT_iz AT_io AT_tx AT_rd AT_fo AT_fi vT_ab vT_be vT_bo vT_no vT_fu) sz)) 0 0 (va_A (wd_X7_part cI cZ AT AT_he AT_iz AT_io AT_tx AT_rd AT_fo AT_fi vT_ab vT_be vT_bo vT_no vT_fu) sz) := by
  refine q_met (fun A => q_Ql D (wd_X7_part cI cZ AT AT_he AT_iz AT_io AT_tx AT_rd AT_fo AT_fi vT_ab vT_be out.2.1 out.2.2.1 out.2.2.2) out.1 A) (by decide) (Nat.le_of_ble_eq_true rfl) ?_
  intro p e s m below meth c ls A hx hb hr hml hown hts hlocks _ hA hS hP hD hK hN hl
  have hown : s.vm.findClass RX7 = some m.cls := hown
  have hl : lv_has ls 2 [(0, .ref AT), (1, .int p1)] := hl
  unfold fm_X7_part at hm
  refine q_gen hS hP ?_
  intro H locs hP hS
  refine lv_iload_n hx hb dX7_part_0 rfl (lv_at hl 1 rfl) ?_
  refine lv_iconst (v := 0) hx hb dX7_part_1 (by decide) ?_
  refine lv_iconst (v := 1) hx hb dX7_part_2 (by decide) ?_
  obtain ⟨r_3, hc_3, hm⟩ := ob_s hm
  refine q_ci (q_rs (rest := []) ⟨hx, hb, hml, hown, hts⟩ hK hN hP hD (c_X7_within l D cI cZ H.size p1 0 1 r_3 hc_3) mb_X7_within wt_X7_within wl_X7_77 [] rfl rfl (Nat.le_of_ble_eq_true rfl) (Nat.le_of_ble_eq_true rfl) rfl hl.1 rfl (Nat.le_of_ble_eq_true rfl) ⟨Nat.le_refl 0, Nat.le_refl 0⟩ dX7_part_3) hP hD hS hA [] rfl rfl (fun H locs hP hD hS => ?_)
  have hP : va_P D vwCl (wd_X7_part cI cZ AT AT_he AT_iz AT_io AT_tx AT_rd AT_fo AT_fi vT_ab vT_be vT_bo vT_no vT_fu) H := hP
  have hD : va_D A (wd_X7_part cI cZ AT AT_he AT_iz AT_io AT_tx AT_rd AT_fo AT_fi vT_ab vT_be vT_bo vT_no vT_fu) := hD
  refine lv_if_ne (tgt := 17) hx hb dX7_part_6 (by decide) (fun c_6 => ?_) (fun c_6 => ?_)
  · have hm := it_n c_6 hm
    refine lv_iload_n hx hb dX7_part_17 rfl (lv_at hl 1 rfl) ?_
    refine lv_if_ne (tgt := 29) hx hb dX7_part_18 (by decide) (fun c_18 => ?_) (fun c_18 => ?_)
    · have hm := it_n c_18 hm
      refine lv_aload_n hx hb dX7_part_29 rfl (lv_at hl 0 rfl) ?_
      refine gf_X7_64 (v := .int vT_be) hx hb hts hown hK hN hP 0 rfl rfl dX7_part_30 ?_
      refine lv_i2l (v := (Int32.toInt64 vT_be)) hx hb dX7_part_33 rfl ?_
      have hm := Option.some.inj hm
      subst hm
      exact q_lret (v := (Int32.toInt64 vT_be)) hx hb hr hlocks hP hS dX7_part_34
    · have hm := it_s c_18 hm
      refine lv_aload_n hx hb dX7_part_21 rfl (lv_at hl 0 rfl) ?_
      refine gf_X7_60 (v := .int vT_ab) hx hb hts hown hK hN hP 0 rfl rfl dX7_part_22 ?_
      refine lv_i2l (v := (Int32.toInt64 vT_ab)) hx hb dX7_part_25 rfl ?_
      refine lv_goto (tgt := 34) hx hb dX7_part_26 (by decide) ?_
      have hm := Option.some.inj hm
      subst hm
      exact q_lret (v := (Int32.toInt64 vT_ab)) hx hb hr hlocks hP hS dX7_part_34
  · have hm := it_s c_6 hm
    refine lv_aload_n hx hb dX7_part_9 rfl (lv_at hl 0 rfl) ?_
    refine lv_bipush (v := (-2)) hx hb dX7_part_10 (by decide) ?_
    obtain ⟨r_12, hc_12, hm⟩ := ob_s hm
    refine q_ci (q_rv (rest := []) ⟨hx, hb, hml, hown, hts⟩ hK hN hP hD (c_X7_refused l D cI cZ H.size AT AT_he AT_iz AT_io AT_tx AT_rd AT_fo AT_fi vT_ab vT_be vT_bo vT_no vT_fu (-2) r_12 hc_12) mb_X7_refused mv_X7_refused wl_X7_81 [0] rfl rfl rfl (Nat.le_of_ble_eq_true rfl) (Nat.le_of_ble_eq_true rfl) rfl hl.1 rfl (Nat.le_of_ble_eq_true rfl) ⟨Nat.le_refl 0, Nat.le_refl 0⟩ dX7_part_12) hP hD hS hA [0] rfl rfl (fun H locs hP hD hS => ?_)
    have hP : va_P D vwCl (wd_X7_part cI cZ AT AT_he AT_iz AT_io AT_tx AT_rd AT_fo AT_fi vT_ab vT_be r_12.2.1 r_12.2.2.1 r_12.2.2.2) H := hP
    have hD : va_D A (wd_X7_part cI cZ AT AT_he AT_iz AT_io AT_tx AT_rd AT_fo AT_fi vT_ab vT_be r_12.2.1 r_12.2.2.1 r_12.2.2.2) := hD
    refine lv_i2l (v := (Int32.toInt64 r_12.1)) hx hb dX7_part_15 rfl ?_
    have hm := Option.some.inj hm
    subst hm
    exact q_lret (v := (Int32.toInt64 r_12.1)) hx hb hr hlocks hP hS dX7_part_16
theorem gf_X7_32 {p : Program} {l : Launch} {e : Env} {R : Room} {s : State} {m : MethodId} {args : Array Value} {below : List Frame} {meth : Method} {c : Code} {H : Heap} {locs : List Loc} {cells slots : Nat} {Q : State → Prop} {pc : Nat} {ls : Array Slot} {cc : ByteArray} {D : va_G} {cI cZ : ClassId} {ws : va_W} {a : Nat} {rest fs : List Value} (hx : p.tables.exec = Jvm.exec) (hb : c.code = cc) (hts : ∀ w ∈ bg, w.before args s = true) (hown : s.vm.findClass RX7 = some m.cls) (hK : va_K D vwCl (q_tys cI cZ) s) (hN : q_N s) (hP : va_P D vwCl ws H) (q0 : Nat) (he : ws[q0]? = some (a, .inr (7, fs))) {v : Value} (hv : fs[2]? = some v) (hdg : decode cc pc = .ok (.getfield 32, 3)) (kk : W p l e R s m args below meth c H locs cells slots Q (F0 m (pc + 3) ls (v :: rest))) : W p l e R s m args below meth c H locs cells slots Q (F0 m pc ls (.ref a :: rest)) :=
  va_get (C := RX7) (T := TX7) (N := 12) hx hb hts wu_X7 hown hK hP q0 he rfl 2 (by decide) (hts _ wf_X7_32) (fun _ h9 => h9) hv hdg kk
theorem gf_X7_28 {p : Program} {l : Launch} {e : Env} {R : Room} {s : State} {m : MethodId} {args : Array Value} {below : List Frame} {meth : Method} {c : Code} {H : Heap} {locs : List Loc} {cells slots : Nat} {Q : State → Prop} {pc : Nat} {ls : Array Slot} {cc : ByteArray} {D : va_G} {cI cZ : ClassId} {ws : va_W} {a : Nat} {rest fs : List Value} (hx : p.tables.exec = Jvm.exec) (hb : c.code = cc) (hts : ∀ w ∈ bg, w.before args s = true) (hown : s.vm.findClass RX7 = some m.cls) (hK : va_K D vwCl (q_tys cI cZ) s) (hN : q_N s) (hP : va_P D vwCl ws H) (q0 : Nat) (he : ws[q0]? = some (a, .inr (7, fs))) {v : Value} (hv : fs[1]? = some v) (hdg : decode cc pc = .ok (.getfield 28, 3)) (kk : W p l e R s m args below meth c H locs cells slots Q (F0 m (pc + 3) ls (v :: rest))) : W p l e R s m args below meth c H locs cells slots Q (F0 m pc ls (.ref a :: rest)) :=
  va_get (C := RX7) (T := TX7) (N := 12) hx hb hts wu_X7 hown hK hP q0 he rfl 1 (by decide) (hts _ wf_X7_28) (fun _ h9 => h9) hv hdg kk
theorem mb_X7_imageAt : q_mb yX7_imageAt cX7_imageAt 2 (some (.object "EarwigPost$Image")) 1 := ⟨wc_X7_imageAt, wn_X7, by decide, by decide, by decide +kernel⟩
theorem mv_X7_imageAt : q_mv yX7_imageAt 7 := ⟨wi_X7_imageAt, ws_X7_imageAt, _, rfl, rfl⟩
def wd_X7_imageAt (cI cZ : ClassId) (AT AT_he AT_iz AT_io AT_tx AT_rd AT_fo AT_fi : Nat) (vT_ab : Int32) (vT_be : Int32) (vT_bo : Int32) (vT_no : Int32) (vT_fu : Int32) : va_W := [(AT, .inr (7, [.ref AT_he, .ref AT_iz, .ref AT_io, .ref AT_tx, .ref AT_rd, .ref AT_fo, .ref AT_fi, .int vT_ab, .int vT_be, .int vT_bo, .int vT_no, .int vT_fu]))]

set_option maxHeartbeats 4000000 in
set_option maxRecDepth 100000 in
theorem c_X7_imageAt (l : Launch) (D : va_G) (cI cZ : ClassId) (sz : Nat) (AT AT_he AT_iz AT_io AT_tx AT_rd AT_fo AT_fi : Nat) (vT_ab : Int32) (vT_be : Int32) (vT_bo : Int32) (vT_no : Int32) (vT_fu : Int32) (p1 : Int32) (out : Nat) (hm : (if p1 = 0 then AT_iz else AT_io) = out) : Met l yX7_imageAt (Cond.code yX7_imageAt cX7_imageAt 2 (some (.object "EarwigPost$Image")) :: bg) { frames := 0, cells := 0, slots := 0, locals := 0 } (va_Pc [.ref AT, .int p1] (q_pre D cI cZ sz (wd_X7_imageAt cI cZ AT AT_he AT_iz AT_io AT_tx AT_rd AT_fo AT_fi vT_ab vT_be vT_bo vT_no vT_fu))) (q_Qr D (wd_X7_imageAt cI cZ AT AT_he AT_iz AT_io AT_tx AT_rd AT_fo AT_fi vT_ab vT_be vT_bo vT_no vT_fu) out (va_A (wd_X7_imageAt cI cZ AT AT_he AT_iz AT_io AT_tx AT_rd AT_fo AT_fi vT_ab vT_be vT_bo vT_no vT_fu) sz)) 0 0 (va_A (wd_X7_imageAt cI cZ AT AT_he AT_iz AT_io AT_tx AT_rd AT_fo AT_fi vT_ab vT_be vT_bo vT_no vT_fu) sz) := by
  refine q_met (fun A => q_Qr D (wd_X7_imageAt cI cZ AT AT_he AT_iz AT_io AT_tx AT_rd AT_fo AT_fi vT_ab vT_be vT_bo vT_no vT_fu) out A) (by decide) (Nat.le_of_ble_eq_true rfl) ?_
  intro p e s m below meth c ls A hx hb hr hml hown hts hlocks _ hA hS hP hD hK hN hl
  have hown : s.vm.findClass RX7 = some m.cls := hown
  have hl : lv_has ls 2 [(0, .ref AT), (1, .int p1)] := hl
  refine q_gen hS hP ?_
  intro H locs hP hS
  refine lv_iload_n hx hb dX7_imageAt_0 rfl (lv_at hl 1 rfl) ?_
  refine lv_if_ne (tgt := 11) hx hb dX7_imageAt_1 (by decide) (fun c_1 => ?_) (fun c_1 => ?_)
  · have hm := it_n c_1 hm
    refine lv_aload_n hx hb dX7_imageAt_11 rfl (lv_at hl 0 rfl) ?_
    refine gf_X7_32 (v := .ref AT_io) hx hb hts hown hK hN hP 0 rfl rfl dX7_imageAt_12 ?_
    exact q_aret hx hb hr (Or.inl ⟨_, rfl⟩) hlocks hm hP hS dX7_imageAt_15
  · have hm := it_s c_1 hm
    refine lv_aload_n hx hb dX7_imageAt_4 rfl (lv_at hl 0 rfl) ?_
    refine gf_X7_28 (v := .ref AT_iz) hx hb hts hown hK hN hP 0 rfl rfl dX7_imageAt_5 ?_
    refine lv_goto (tgt := 15) hx hb dX7_imageAt_8 (by decide) ?_
    exact q_aret hx hb hr (Or.inl ⟨_, rfl⟩) hlocks hm hP hS dX7_imageAt_15
theorem mb_X7_image : q_mb yX7_image cX7_image 2 (some .int) 1 := ⟨wc_X7_image, wn_X7, by decide, by decide, by decide +kernel⟩
theorem mv_X7_image : q_mv yX7_image 7 := ⟨wi_X7_image, ws_X7_image, _, rfl, rfl⟩
def wd_X7_image (cI cZ : ClassId) (AT AT_he AT_iz AT_io AT_tx AT_rd AT_fo AT_fi AT_iz_kp AT_iz_kp_sl AT_iz_kp_fl AT_iz_kp_ro AT_iz_kp_nt AT_iz_kp_mk AT_iz_kp_mo AT_he_sl AT_he_fl AT_he_ro AT_he_nt AT_he_mk AT_he_mo AT_iz_kp_sl_c AT_he_sl_c AT_iz_kp_fl_c AT_he_fl_c AT_iz_kp_ro_c AT_he_ro_c AT_iz_kp_nt_c AT_he_nt_c AT_iz_kp_mk_c AT_he_mk_c AT_iz_kp_mo_c AT_he_mo_c AT_io_kp AT_io_kp_sl AT_io_kp_fl AT_io_kp_ro AT_io_kp_nt AT_io_kp_mk AT_io_kp_mo AT_io_kp_sl_c AT_io_kp_fl_c AT_io_kp_ro_c AT_io_kp_nt_c AT_io_kp_mk_c AT_io_kp_mo_c : Nat) (vT_ab : Int32) (vT_be : Int32) (vT_bo : Int32) (vT_no : Int32) (vT_fu : Int32) (vT_iz_wk : Int32) (vT_iz_kp_ng : Int32) (vT_he_ng : Int32) (vT_iz_kp_sl_n : Int32) (vT_he_sl_n : Int32) (fT_he_sl_c : Nat → Int32) (fT_iz_kp_sl_c : Nat → Int32) (vT_iz_kp_fl_n : Int32) (vT_he_fl_n : Int32) (fT_he_fl_c : Nat → Int32) (fT_iz_kp_fl_c : Nat → Int32) (vT_iz_kp_ro_n : Int32) (vT_he_ro_n : Int32) (fT_he_ro_c : Nat → Int32) (fT_iz_kp_ro_c : Nat → Int32) (vT_iz_kp_nt_n : Int32) (vT_he_nt_n : Int32) (fT_he_nt_c : Nat → Int32) (fT_iz_kp_nt_c : Nat → Int32) (vT_iz_kp_mk_n : Int32) (vT_he_mk_n : Int32) (fT_he_mk_c : Nat → Int32) (fT_iz_kp_mk_c : Nat → Int32) (vT_iz_kp_mo_n : Int32) (vT_he_mo_n : Int32) (fT_he_mo_c : Nat → Int32) (fT_iz_kp_mo_c : Nat → Int32) (vT_io_wk : Int32) (vT_io_kp_ng : Int32) (vT_io_kp_sl_n : Int32) (fT_io_kp_sl_c : Nat → Int32) (vT_io_kp_fl_n : Int32) (fT_io_kp_fl_c : Nat → Int32) (vT_io_kp_ro_n : Int32) (fT_io_kp_ro_c : Nat → Int32) (vT_io_kp_nt_n : Int32) (fT_io_kp_nt_c : Nat → Int32) (vT_io_kp_mk_n : Int32) (fT_io_kp_mk_c : Nat → Int32) (vT_io_kp_mo_n : Int32) (fT_io_kp_mo_c : Nat → Int32) : va_W := [(AT, .inr (7, [.ref AT_he, .ref AT_iz, .ref AT_io, .ref AT_tx, .ref AT_rd, .ref AT_fo, .ref AT_fi, .int vT_ab, .int vT_be, .int vT_bo, .int vT_no, .int vT_fu])), (AT_iz, .inr (2, [.ref AT_iz_kp, .int vT_iz_wk])), (AT_iz_kp, .inr (4, [.ref AT_iz_kp_sl, .ref AT_iz_kp_fl, .ref AT_iz_kp_ro, .ref AT_iz_kp_nt, .ref AT_iz_kp_mk, .ref AT_iz_kp_mo, .int vT_iz_kp_ng])), (AT_he, .inr (4, [.ref AT_he_sl, .ref AT_he_fl, .ref AT_he_ro, .ref AT_he_nt, .ref AT_he_mk, .ref AT_he_mo, .int vT_he_ng])), (AT_iz_kp_sl, .inr (3, [.int 4, .ref AT_iz_kp_sl_c, .int vT_iz_kp_sl_n])), (AT_he_sl, .inr (3, [.int 4, .ref AT_he_sl_c, .int vT_he_sl_n])), (AT_he_sl_c, .inl (cI, 24, .inl fT_he_sl_c)), (AT_iz_kp_sl_c, .inl (cI, 24, .inl fT_iz_kp_sl_c)), (AT_iz_kp_fl, .inr (3, [.int 3, .ref AT_iz_kp_fl_c, .int vT_iz_kp_fl_n])), (AT_he_fl, .inr (3, [.int 3, .ref AT_he_fl_c, .int vT_he_fl_n])), (AT_he_fl_c, .inl (cI, 18, .inl fT_he_fl_c)), (AT_iz_kp_fl_c, .inl (cI, 18, .inl fT_iz_kp_fl_c)), (AT_iz_kp_ro, .inr (3, [.int 3, .ref AT_iz_kp_ro_c, .int vT_iz_kp_ro_n])), (AT_he_ro, .inr (3, [.int 3, .ref AT_he_ro_c, .int vT_he_ro_n])), (AT_he_ro_c, .inl (cI, 15, .inl fT_he_ro_c)), (AT_iz_kp_ro_c, .inl (cI, 15, .inl fT_iz_kp_ro_c)), (AT_iz_kp_nt, .inr (3, [.int 4, .ref AT_iz_kp_nt_c, .int vT_iz_kp_nt_n])), (AT_he_nt, .inr (3, [.int 4, .ref AT_he_nt_c, .int vT_he_nt_n])), (AT_he_nt_c, .inl (cI, 24, .inl fT_he_nt_c)), (AT_iz_kp_nt_c, .inl (cI, 24, .inl fT_iz_kp_nt_c)), (AT_iz_kp_mk, .inr (3, [.int 4, .ref AT_iz_kp_mk_c, .int vT_iz_kp_mk_n])), (AT_he_mk, .inr (3, [.int 4, .ref AT_he_mk_c, .int vT_he_mk_n])), (AT_he_mk_c, .inl (cI, 24, .inl fT_he_mk_c)), (AT_iz_kp_mk_c, .inl (cI, 24, .inl fT_iz_kp_mk_c)), (AT_iz_kp_mo, .inr (3, [.int 25, .ref AT_iz_kp_mo_c, .int vT_iz_kp_mo_n])), (AT_he_mo, .inr (3, [.int 25, .ref AT_he_mo_c, .int vT_he_mo_n])), (AT_he_mo_c, .inl (cI, 200, .inl fT_he_mo_c)), (AT_iz_kp_mo_c, .inl (cI, 200, .inl fT_iz_kp_mo_c)), (AT_io, .inr (2, [.ref AT_io_kp, .int vT_io_wk])), (AT_io_kp, .inr (4, [.ref AT_io_kp_sl, .ref AT_io_kp_fl, .ref AT_io_kp_ro, .ref AT_io_kp_nt, .ref AT_io_kp_mk, .ref AT_io_kp_mo, .int vT_io_kp_ng])), (AT_io_kp_sl, .inr (3, [.int 4, .ref AT_io_kp_sl_c, .int vT_io_kp_sl_n])), (AT_io_kp_sl_c, .inl (cI, 24, .inl fT_io_kp_sl_c)), (AT_io_kp_fl, .inr (3, [.int 3, .ref AT_io_kp_fl_c, .int vT_io_kp_fl_n])), (AT_io_kp_fl_c, .inl (cI, 18, .inl fT_io_kp_fl_c)), (AT_io_kp_ro, .inr (3, [.int 3, .ref AT_io_kp_ro_c, .int vT_io_kp_ro_n])), (AT_io_kp_ro_c, .inl (cI, 15, .inl fT_io_kp_ro_c)), (AT_io_kp_nt, .inr (3, [.int 4, .ref AT_io_kp_nt_c, .int vT_io_kp_nt_n])), (AT_io_kp_nt_c, .inl (cI, 24, .inl fT_io_kp_nt_c)), (AT_io_kp_mk, .inr (3, [.int 4, .ref AT_io_kp_mk_c, .int vT_io_kp_mk_n])), (AT_io_kp_mk_c, .inl (cI, 24, .inl fT_io_kp_mk_c)), (AT_io_kp_mo, .inr (3, [.int 25, .ref AT_io_kp_mo_c, .int vT_io_kp_mo_n])), (AT_io_kp_mo_c, .inl (cI, 200, .inl fT_io_kp_mo_c))]
def fm_X7_image (p1 : Int32) (vT_bo : Int32) (vT_no : Int32) (vT_fu : Int32) (vT_iz_wk : Int32) (vT_iz_kp_ng : Int32) (vT_he_ng : Int32) (vT_iz_kp_sl_n : Int32) (vT_he_sl_n : Int32) (fT_he_sl_c : Nat → Int32) (fT_iz_kp_sl_c : Nat → Int32) (vT_iz_kp_fl_n : Int32) (vT_he_fl_n : Int32) (fT_he_fl_c : Nat → Int32) (fT_iz_kp_fl_c : Nat → Int32) (vT_iz_kp_ro_n : Int32) (vT_he_ro_n : Int32) (fT_he_ro_c : Nat → Int32) (fT_iz_kp_ro_c : Nat → Int32) (vT_iz_kp_nt_n : Int32) (vT_he_nt_n : Int32) (fT_he_nt_c : Nat → Int32) (fT_iz_kp_nt_c : Nat → Int32) (vT_iz_kp_mk_n : Int32) (vT_he_mk_n : Int32) (fT_he_mk_c : Nat → Int32) (fT_iz_kp_mk_c : Nat → Int32) (vT_iz_kp_mo_n : Int32) (vT_he_mo_n : Int32) (fT_he_mo_c : Nat → Int32) (fT_iz_kp_mo_c : Nat → Int32) (vT_io_wk : Int32) (vT_io_kp_ng : Int32) (vT_io_kp_sl_n : Int32) (fT_io_kp_sl_c : Nat → Int32) (vT_io_kp_fl_n : Int32) (fT_io_kp_fl_c : Nat → Int32) (vT_io_kp_ro_n : Int32) (fT_io_kp_ro_c : Nat → Int32) (vT_io_kp_nt_n : Int32) (fT_io_kp_nt_c : Nat → Int32) (vT_io_kp_mk_n : Int32) (fT_io_kp_mk_c : Nat → Int32) (vT_io_kp_mo_n : Int32) (fT_io_kp_mo_c : Nat → Int32) : Option (Int32 × Int32 × Int32 × Int32 × Int32 × Int32 × Int32 × (Nat → Int32) × Int32 × (Nat → Int32) × Int32 × (Nat → Int32) × Int32 × (Nat → Int32) × Int32 × (Nat → Int32) × Int32 × (Nat → Int32) × Int32 × Int32 × Int32 × (Nat → Int32) × Int32 × (Nat → Int32) × Int32 × (Nat → Int32) × Int32 × (Nat → Int32) × Int32 × (Nat → Int32) × Int32 × (Nat → Int32)) := Option.bind (fm_X7_within p1 0 1) (fun r_3 => if r_3 = 0 then (Option.bind (fm_X7_refused (-2) vT_bo vT_no vT_fu) (fun r_12 => some (r_12.1, r_12.2.1, r_12.2.2.1, r_12.2.2.2, vT_iz_wk, vT_iz_kp_ng, vT_iz_kp_sl_n, fT_iz_kp_sl_c, vT_iz_kp_fl_n, fT_iz_kp_fl_c, vT_iz_kp_ro_n, fT_iz_kp_ro_c, vT_iz_kp_nt_n, fT_iz_kp_nt_c, vT_iz_kp_mk_n, fT_iz_kp_mk_c, vT_iz_kp_mo_n, fT_iz_kp_mo_c, vT_io_wk, vT_io_kp_ng, vT_io_kp_sl_n, fT_io_kp_sl_c, vT_io_kp_fl_n, fT_io_kp_fl_c, vT_io_kp_ro_n, fT_io_kp_ro_c, vT_io_kp_nt_n, fT_io_kp_nt_c, vT_io_kp_mk_n, fT_io_kp_mk_c, vT_io_kp_mo_n, fT_io_kp_mo_c))) else (if p1 = 0 then (Option.bind (fm_X2_keep vT_iz_wk vT_iz_kp_ng vT_he_ng vT_iz_kp_sl_n vT_he_sl_n fT_he_sl_c fT_iz_kp_sl_c vT_iz_kp_fl_n vT_he_fl_n fT_he_fl_c fT_iz_kp_fl_c vT_iz_kp_ro_n vT_he_ro_n fT_he_ro_c fT_iz_kp_ro_c vT_iz_kp_nt_n vT_he_nt_n fT_he_nt_c fT_iz_kp_nt_c vT_iz_kp_mk_n vT_he_mk_n fT_he_mk_c fT_iz_kp_mk_c vT_iz_kp_mo_n vT_he_mo_n fT_he_mo_c fT_iz_kp_mo_c) (fun r_25 => some (1, vT_bo, vT_no, vT_fu, r_25.1, r_25.2.1, r_25.2.2.1, r_25.2.2.2.1, r_25.2.2.2.2.1, r_25.2.2.2.2.2.1, r_25.2.2.2.2.2.2.1, r_25.2.2.2.2.2.2.2.1, r_25.2.2.2.2.2.2.2.2.1, r_25.2.2.2.2.2.2.2.2.2.1, r_25.2.2.2.2.2.2.2.2.2.2.1, r_25.2.2.2.2.2.2.2.2.2.2.2.1, r_25.2.2.2.2.2.2.2.2.2.2.2.2.1, r_25.2.2.2.2.2.2.2.2.2.2.2.2.2, vT_io_wk, vT_io_kp_ng, vT_io_kp_sl_n, fT_io_kp_sl_c, vT_io_kp_fl_n, fT_io_kp_fl_c, vT_io_kp_ro_n, fT_io_kp_ro_c, vT_io_kp_nt_n, fT_io_kp_nt_c, vT_io_kp_mk_n, fT_io_kp_mk_c, vT_io_kp_mo_n, fT_io_kp_mo_c))) else (Option.bind (fm_X2_keep vT_io_wk vT_io_kp_ng vT_he_ng vT_io_kp_sl_n vT_he_sl_n fT_he_sl_c fT_io_kp_sl_c vT_io_kp_fl_n vT_he_fl_n fT_he_fl_c fT_io_kp_fl_c vT_io_kp_ro_n vT_he_ro_n fT_he_ro_c fT_io_kp_ro_c vT_io_kp_nt_n vT_he_nt_n fT_he_nt_c fT_io_kp_nt_c vT_io_kp_mk_n vT_he_mk_n fT_he_mk_c fT_io_kp_mk_c vT_io_kp_mo_n vT_he_mo_n fT_he_mo_c fT_io_kp_mo_c) (fun r_25 => some (1, vT_bo, vT_no, vT_fu, vT_iz_wk, vT_iz_kp_ng, vT_iz_kp_sl_n, fT_iz_kp_sl_c, vT_iz_kp_fl_n, fT_iz_kp_fl_c, vT_iz_kp_ro_n, fT_iz_kp_ro_c, vT_iz_kp_nt_n, fT_iz_kp_nt_c, vT_iz_kp_mk_n, fT_iz_kp_mk_c, vT_iz_kp_mo_n, fT_iz_kp_mo_c, r_25.1, r_25.2.1, r_25.2.2.1, r_25.2.2.2.1, r_25.2.2.2.2.1, r_25.2.2.2.2.2.1, r_25.2.2.2.2.2.2.1, r_25.2.2.2.2.2.2.2.1, r_25.2.2.2.2.2.2.2.2.1, r_25.2.2.2.2.2.2.2.2.2.1, r_25.2.2.2.2.2.2.2.2.2.2.1, r_25.2.2.2.2.2.2.2.2.2.2.2.1, r_25.2.2.2.2.2.2.2.2.2.2.2.2.1, r_25.2.2.2.2.2.2.2.2.2.2.2.2.2)))))
set_option maxHeartbeats 4000000 in
set_option maxRecDepth 100000 in
theorem c_X7_image (l : Launch) (D : va_G) (cI cZ : ClassId) (sz : Nat) (AT AT_he AT_iz AT_io AT_tx AT_rd AT_fo AT_fi AT_iz_kp AT_iz_kp_sl AT_iz_kp_fl AT_iz_kp_ro AT_iz_kp_nt AT_iz_kp_mk AT_iz_kp_mo AT_he_sl AT_he_fl AT_he_ro AT_he_nt AT_he_mk AT_he_mo AT_iz_kp_sl_c AT_he_sl_c AT_iz_kp_fl_c AT_he_fl_c AT_iz_kp_ro_c AT_he_ro_c AT_iz_kp_nt_c AT_he_nt_c AT_iz_kp_mk_c AT_he_mk_c AT_iz_kp_mo_c AT_he_mo_c AT_io_kp AT_io_kp_sl AT_io_kp_fl AT_io_kp_ro AT_io_kp_nt AT_io_kp_mk AT_io_kp_mo AT_io_kp_sl_c AT_io_kp_fl_c AT_io_kp_ro_c AT_io_kp_nt_c AT_io_kp_mk_c AT_io_kp_mo_c : Nat) (vT_ab : Int32) (vT_be : Int32) (vT_bo : Int32) (vT_no : Int32) (vT_fu : Int32) (vT_iz_wk : Int32) (vT_iz_kp_ng : Int32) (vT_he_ng : Int32) (vT_iz_kp_sl_n : Int32) (vT_he_sl_n : Int32) (fT_he_sl_c : Nat → Int32) (fT_iz_kp_sl_c : Nat → Int32) (vT_iz_kp_fl_n : Int32) (vT_he_fl_n : Int32) (fT_he_fl_c : Nat → Int32) (fT_iz_kp_fl_c : Nat → Int32) (vT_iz_kp_ro_n : Int32) (vT_he_ro_n : Int32) (fT_he_ro_c : Nat → Int32) (fT_iz_kp_ro_c : Nat → Int32) (vT_iz_kp_nt_n : Int32) (vT_he_nt_n : Int32) (fT_he_nt_c : Nat → Int32) (fT_iz_kp_nt_c : Nat → Int32) (vT_iz_kp_mk_n : Int32) (vT_he_mk_n : Int32) (fT_he_mk_c : Nat → Int32) (fT_iz_kp_mk_c : Nat → Int32) (vT_iz_kp_mo_n : Int32) (vT_he_mo_n : Int32) (fT_he_mo_c : Nat → Int32) (fT_iz_kp_mo_c : Nat → Int32) (vT_io_wk : Int32) (vT_io_kp_ng : Int32) (vT_io_kp_sl_n : Int32) (fT_io_kp_sl_c : Nat → Int32) (vT_io_kp_fl_n : Int32) (fT_io_kp_fl_c : Nat → Int32) (vT_io_kp_ro_n : Int32) (fT_io_kp_ro_c : Nat → Int32) (vT_io_kp_nt_n : Int32) (fT_io_kp_nt_c : Nat → Int32) (vT_io_kp_mk_n : Int32) (fT_io_kp_mk_c : Nat → Int32) (vT_io_kp_mo_n : Int32) (fT_io_kp_mo_c : Nat → Int32) (p1 : Int32) (out : (Int32 × Int32 × Int32 × Int32 × Int32 × Int32 × Int32 × (Nat → Int32) × Int32 × (Nat → Int32) × Int32 × (Nat → Int32) × Int32 × (Nat → Int32) × Int32 × (Nat → Int32) × Int32 × (Nat → Int32) × Int32 × Int32 × Int32 × (Nat → Int32) × Int32 × (Nat → Int32) × Int32 × (Nat → Int32) × Int32 × (Nat → Int32) × Int32 × (Nat → Int32) × Int32 × (Nat → Int32))) (hm : fm_X7_image p1 vT_bo vT_no vT_fu vT_iz_wk vT_iz_kp_ng vT_he_ng vT_iz_kp_sl_n vT_he_sl_n fT_he_sl_c fT_iz_kp_sl_c vT_iz_kp_fl_n vT_he_fl_n fT_he_fl_c fT_iz_kp_fl_c vT_iz_kp_ro_n vT_he_ro_n fT_he_ro_c fT_iz_kp_ro_c vT_iz_kp_nt_n vT_he_nt_n fT_he_nt_c fT_iz_kp_nt_c vT_iz_kp_mk_n vT_he_mk_n fT_he_mk_c fT_iz_kp_mk_c vT_iz_kp_mo_n vT_he_mo_n fT_he_mo_c fT_iz_kp_mo_c vT_io_wk vT_io_kp_ng vT_io_kp_sl_n fT_io_kp_sl_c vT_io_kp_fl_n fT_io_kp_fl_c vT_io_kp_ro_n fT_io_kp_ro_c vT_io_kp_nt_n fT_io_kp_nt_c vT_io_kp_mk_n fT_io_kp_mk_c vT_io_kp_mo_n fT_io_kp_mo_c = some out) : Met l yX7_image (Cond.code yX7_image cX7_image 2 (some .int) :: bg) { frames := 4, cells := 0, slots := 0, locals := 86 } (va_Pc [.ref AT, .int p1] (q_pre D cI cZ sz (wd_X7_image cI cZ AT AT_he AT_iz AT_io AT_tx AT_rd AT_fo AT_fi AT_iz_kp AT_iz_kp_sl AT_iz_kp_fl AT_iz_kp_ro AT_iz_kp_nt AT_iz_kp_mk AT_iz_kp_mo AT_he_sl AT_he_fl AT_he_ro AT_he_nt AT_he_mk AT_he_mo AT_iz_kp_sl_c AT_he_sl_c AT_iz_kp_fl_c AT_he_fl_c AT_iz_kp_ro_c AT_he_ro_c AT_iz_kp_nt_c AT_he_nt_c AT_iz_kp_mk_c AT_he_mk_c AT_iz_kp_mo_c AT_he_mo_c AT_io_kp AT_io_kp_sl AT_io_kp_fl AT_io_kp_ro AT_io_kp_nt AT_io_kp_mk AT_io_kp_mo AT_io_kp_sl_c AT_io_kp_fl_c AT_io_kp_ro_c AT_io_kp_nt_c AT_io_kp_mk_c AT_io_kp_mo_c vT_ab vT_be vT_bo vT_no vT_fu vT_iz_wk vT_iz_kp_ng vT_he_ng vT_iz_kp_sl_n vT_he_sl_n fT_he_sl_c fT_iz_kp_sl_c vT_iz_kp_fl_n vT_he_fl_n fT_he_fl_c fT_iz_kp_fl_c vT_iz_kp_ro_n vT_he_ro_n fT_he_ro_c fT_iz_kp_ro_c vT_iz_kp_nt_n vT_he_nt_n fT_he_nt_c fT_iz_kp_nt_c vT_iz_kp_mk_n vT_he_mk_n fT_he_mk_c fT_iz_kp_mk_c vT_iz_kp_mo_n vT_he_mo_n fT_he_mo_c fT_iz_kp_mo_c vT_io_wk vT_io_kp_ng vT_io_kp_sl_n fT_io_kp_sl_c vT_io_kp_fl_n fT_io_kp_fl_c vT_io_kp_ro_n fT_io_kp_ro_c vT_io_kp_nt_n fT_io_kp_nt_c vT_io_kp_mk_n fT_io_kp_mk_c vT_io_kp_mo_n fT_io_kp_mo_c))) (q_Qi D (wd_X7_image cI cZ AT AT_he AT_iz AT_io AT_tx AT_rd AT_fo AT_fi AT_iz_kp AT_iz_kp_sl AT_iz_kp_fl AT_iz_kp_ro AT_iz_kp_nt AT_iz_kp_mk AT_iz_kp_mo AT_he_sl AT_he_fl AT_he_ro AT_he_nt AT_he_mk AT_he_mo AT_iz_kp_sl_c AT_he_sl_c AT_iz_kp_fl_c AT_he_fl_c AT_iz_kp_ro_c AT_he_ro_c AT_iz_kp_nt_c AT_he_nt_c AT_iz_kp_mk_c AT_he_mk_c AT_iz_kp_mo_c AT_he_mo_c AT_io_kp AT_io_kp_sl AT_io_kp_fl AT_io_kp_ro AT_io_kp_nt AT_io_kp_mk AT_io_kp_mo AT_io_kp_sl_c AT_io_kp_fl_c AT_io_kp_ro_c AT_io_kp_nt_c AT_io_kp_mk_c AT_io_kp_mo_c vT_ab vT_be out.2.1 out.2.2.1 out.2.2.2.1 out.2.2.2.2.1 out.2.2.2.2.2.1 vT_he_ng out.2.2.2.2.2.2.1 vT_he_sl_n fT_he_sl_c out.2.2.2.2.2.2.2.1 out.2.2.2.2.2.2.2.2.1 vT_he_fl_n fT_he_fl_c out.2.2.2.2.2.2.2.2.2.1 out.2.2.2.2.2.2.2.2.2.2.1 vT_he_ro_n fT_he_ro_c out.2.2.2.2.2.2.2.2.2.2.2.1 out.2.2.2.2.2.2.2.2.2.2.2.2.1 vT_he_nt_n fT_he_nt_c out.2.2.2.2.2.2.2.2.2.2.2.2.2.1 out.2.2.2.2.2.2.2.2.2.2.2.2.2.2.1 vT_he_mk_n fT_he_mk_c out.2.2.2.2.2.2.2.2.2.2.2.2.2.2.2.1 out.2.2.2.2.2.2.2.2.2.2.2.2.2.2.2.2.1 vT_he_mo_n fT_he_mo_c out.2.2.2.2.2.2.2.2.2.2.2.2.2.2.2.2.2.1 out.2.2.2.2.2.2.2.2.2.2.2.2.2.2.2.2.2.2.1 out.2.2.2.2.2.2.2.2.2.2.2.2.2.2.2.2.2.2.2.1 out.2.2.2.2.2.2.2.2.2.2.2.2.2.2.2.2.2.2.2.2.1 out.2.2.2.2.2.2.2.2.2.2.2.2.2.2.2.2.2.2.2.2.2.1 out.2.2.2.2.2.2.2.2.2.2.2.2.2.2.2.2.2.2.2.2.2.2.1 out.2.2.2.2.2.2.2.2.2.2.2.2.2.2.2.2.2.2.2.2.2.2.2.1 out.2.2.2.2.2.2.2.2.2.2.2.2.2.2.2.2.2.2.2.2.2.2.2.2.1 out.2.2.2.2.2.2.2.2.2.2.2.2.2.2.2.2.2.2.2.2.2.2.2.2.2.1 out.2.2.2.2.2.2.2.2.2.2.2.2.2.2.2.2.2.2.2.2.2.2.2.2.2.2.1 out.2.2.2.2.2.2.2.2.2.2.2.2.2.2.2.2.2.2.2.2.2.2.2.2.2.2.2.1 out.2.2.2.2.2.2.2.2.2.2.2.2.2.2.2.2.2.2.2.2.2.2.2.2.2.2.2.2.1 out.2.2.2.2.2.2.2.2.2.2.2.2.2.2.2.2.2.2.2.2.2.2.2.2.2.2.2.2.2.1 out.2.2.2.2.2.2.2.2.2.2.2.2.2.2.2.2.2.2.2.2.2.2.2.2.2.2.2.2.2.2.1 out.2.2.2.2.2.2.2.2.2.2.2.2.2.2.2.2.2.2.2.2.2.2.2.2.2.2.2.2.2.2.2) out.1 (va_A (wd_X7_image cI cZ AT AT_he AT_iz AT_io AT_tx AT_rd AT_fo AT_fi AT_iz_kp AT_iz_kp_sl AT_iz_kp_fl AT_iz_kp_ro AT_iz_kp_nt AT_iz_kp_mk AT_iz_kp_mo AT_he_sl AT_he_fl AT_he_ro AT_he_nt AT_he_mk AT_he_mo AT_iz_kp_sl_c AT_he_sl_c AT_iz_kp_fl_c AT_he_fl_c AT_iz_kp_ro_c AT_he_ro_c AT_iz_kp_nt_c AT_he_nt_c AT_iz_kp_mk_c AT_he_mk_c AT_iz_kp_mo_c AT_he_mo_c AT_io_kp AT_io_kp_sl AT_io_kp_fl AT_io_kp_ro AT_io_kp_nt AT_io_kp_mk AT_io_kp_mo AT_io_kp_sl_c AT_io_kp_fl_c AT_io_kp_ro_c AT_io_kp_nt_c AT_io_kp_mk_c AT_io_kp_mo_c vT_ab vT_be vT_bo vT_no vT_fu vT_iz_wk vT_iz_kp_ng vT_he_ng vT_iz_kp_sl_n vT_he_sl_n fT_he_sl_c fT_iz_kp_sl_c vT_iz_kp_fl_n vT_he_fl_n fT_he_fl_c fT_iz_kp_fl_c vT_iz_kp_ro_n vT_he_ro_n fT_he_ro_c fT_iz_kp_ro_c vT_iz_kp_nt_n vT_he_nt_n fT_he_nt_c fT_iz_kp_nt_c vT_iz_kp_mk_n vT_he_mk_n fT_he_mk_c fT_iz_kp_mk_c vT_iz_kp_mo_n vT_he_mo_n fT_he_mo_c fT_iz_kp_mo_c vT_io_wk vT_io_kp_ng vT_io_kp_sl_n fT_io_kp_sl_c vT_io_kp_fl_n fT_io_kp_fl_c vT_io_kp_ro_n fT_io_kp_ro_c vT_io_kp_nt_n fT_io_kp_nt_c vT_io_kp_mk_n fT_io_kp_mk_c vT_io_kp_mo_n fT_io_kp_mo_c) sz)) 0 0 (va_A (wd_X7_image cI cZ AT AT_he AT_iz AT_io AT_tx AT_rd AT_fo AT_fi AT_iz_kp AT_iz_kp_sl AT_iz_kp_fl AT_iz_kp_ro AT_iz_kp_nt AT_iz_kp_mk AT_iz_kp_mo AT_he_sl AT_he_fl AT_he_ro AT_he_nt AT_he_mk AT_he_mo AT_iz_kp_sl_c AT_he_sl_c AT_iz_kp_fl_c AT_he_fl_c AT_iz_kp_ro_c AT_he_ro_c AT_iz_kp_nt_c AT_he_nt_c AT_iz_kp_mk_c AT_he_mk_c AT_iz_kp_mo_c AT_he_mo_c AT_io_kp AT_io_kp_sl AT_io_kp_fl AT_io_kp_ro AT_io_kp_nt AT_io_kp_mk AT_io_kp_mo AT_io_kp_sl_c AT_io_kp_fl_c AT_io_kp_ro_c AT_io_kp_nt_c AT_io_kp_mk_c AT_io_kp_mo_c vT_ab vT_be vT_bo vT_no vT_fu vT_iz_wk vT_iz_kp_ng vT_he_ng vT_iz_kp_sl_n vT_he_sl_n fT_he_sl_c fT_iz_kp_sl_c vT_iz_kp_fl_n vT_he_fl_n fT_he_fl_c fT_iz_kp_fl_c vT_iz_kp_ro_n vT_he_ro_n fT_he_ro_c fT_iz_kp_ro_c vT_iz_kp_nt_n vT_he_nt_n fT_he_nt_c fT_iz_kp_nt_c vT_iz_kp_mk_n vT_he_mk_n fT_he_mk_c fT_iz_kp_mk_c vT_iz_kp_mo_n vT_he_mo_n fT_he_mo_c fT_iz_kp_mo_c vT_io_wk vT_io_kp_ng vT_io_kp_sl_n fT_io_kp_sl_c vT_io_kp_fl_n fT_io_kp_fl_c vT_io_kp_ro_n fT_io_kp_ro_c vT_io_kp_nt_n fT_io_kp_nt_c vT_io_kp_mk_n fT_io_kp_mk_c vT_io_kp_mo_n fT_io_kp_mo_c) sz) := by
  refine q_met (fun A => q_Qi D (wd_X7_image cI cZ AT AT_he AT_iz AT_io AT_tx AT_rd AT_fo AT_fi AT_iz_kp AT_iz_kp_sl AT_iz_kp_fl AT_iz_kp_ro AT_iz_kp_nt AT_iz_kp_mk AT_iz_kp_mo AT_he_sl AT_he_fl AT_he_ro AT_he_nt AT_he_mk AT_he_mo AT_iz_kp_sl_c AT_he_sl_c AT_iz_kp_fl_c AT_he_fl_c AT_iz_kp_ro_c AT_he_ro_c AT_iz_kp_nt_c AT_he_nt_c AT_iz_kp_mk_c AT_he_mk_c AT_iz_kp_mo_c AT_he_mo_c AT_io_kp AT_io_kp_sl AT_io_kp_fl AT_io_kp_ro AT_io_kp_nt AT_io_kp_mk AT_io_kp_mo AT_io_kp_sl_c AT_io_kp_fl_c AT_io_kp_ro_c AT_io_kp_nt_c AT_io_kp_mk_c AT_io_kp_mo_c vT_ab vT_be out.2.1 out.2.2.1 out.2.2.2.1 out.2.2.2.2.1 out.2.2.2.2.2.1 vT_he_ng out.2.2.2.2.2.2.1 vT_he_sl_n fT_he_sl_c out.2.2.2.2.2.2.2.1 out.2.2.2.2.2.2.2.2.1 vT_he_fl_n fT_he_fl_c out.2.2.2.2.2.2.2.2.2.1 out.2.2.2.2.2.2.2.2.2.2.1 vT_he_ro_n fT_he_ro_c out.2.2.2.2.2.2.2.2.2.2.2.1 out.2.2.2.2.2.2.2.2.2.2.2.2.1 vT_he_nt_n fT_he_nt_c out.2.2.2.2.2.2.2.2.2.2.2.2.2.1 out.2.2.2.2.2.2.2.2.2.2.2.2.2.2.1 vT_he_mk_n fT_he_mk_c out.2.2.2.2.2.2.2.2.2.2.2.2.2.2.2.1 out.2.2.2.2.2.2.2.2.2.2.2.2.2.2.2.2.1 vT_he_mo_n fT_he_mo_c out.2.2.2.2.2.2.2.2.2.2.2.2.2.2.2.2.2.1 out.2.2.2.2.2.2.2.2.2.2.2.2.2.2.2.2.2.2.1 out.2.2.2.2.2.2.2.2.2.2.2.2.2.2.2.2.2.2.2.1 out.2.2.2.2.2.2.2.2.2.2.2.2.2.2.2.2.2.2.2.2.1 out.2.2.2.2.2.2.2.2.2.2.2.2.2.2.2.2.2.2.2.2.2.1 out.2.2.2.2.2.2.2.2.2.2.2.2.2.2.2.2.2.2.2.2.2.2.1 out.2.2.2.2.2.2.2.2.2.2.2.2.2.2.2.2.2.2.2.2.2.2.2.1 out.2.2.2.2.2.2.2.2.2.2.2.2.2.2.2.2.2.2.2.2.2.2.2.2.1 out.2.2.2.2.2.2.2.2.2.2.2.2.2.2.2.2.2.2.2.2.2.2.2.2.2.1 out.2.2.2.2.2.2.2.2.2.2.2.2.2.2.2.2.2.2.2.2.2.2.2.2.2.2.1 out.2.2.2.2.2.2.2.2.2.2.2.2.2.2.2.2.2.2.2.2.2.2.2.2.2.2.2.1 out.2.2.2.2.2.2.2.2.2.2.2.2.2.2.2.2.2.2.2.2.2.2.2.2.2.2.2.2.1 out.2.2.2.2.2.2.2.2.2.2.2.2.2.2.2.2.2.2.2.2.2.2.2.2.2.2.2.2.2.1 out.2.2.2.2.2.2.2.2.2.2.2.2.2.2.2.2.2.2.2.2.2.2.2.2.2.2.2.2.2.2.1 out.2.2.2.2.2.2.2.2.2.2.2.2.2.2.2.2.2.2.2.2.2.2.2.2.2.2.2.2.2.2.2) out.1 A) (by decide) (Nat.le_of_ble_eq_true rfl) ?_
  intro p e s m below meth c ls A hx hb hr hml hown hts hlocks _ hA hS hP hD hK hN hl
  have hown : s.vm.findClass RX7 = some m.cls := hown
  have hl : lv_has ls 2 [(0, .ref AT), (1, .int p1)] := hl
  unfold fm_X7_image at hm
  refine q_gen hS hP ?_
  intro H locs hP hS
  refine lv_iload_n hx hb dX7_image_0 rfl (lv_at hl 1 rfl) ?_
  refine lv_iconst (v := 0) hx hb dX7_image_1 (by decide) ?_
  refine lv_iconst (v := 1) hx hb dX7_image_2 (by decide) ?_
  obtain ⟨r_3, hc_3, hm⟩ := ob_s hm
  refine q_ci (q_rs (rest := []) ⟨hx, hb, hml, hown, hts⟩ hK hN hP hD (c_X7_within l D cI cZ H.size p1 0 1 r_3 hc_3) mb_X7_within wt_X7_within wl_X7_77 [] rfl rfl (Nat.le_of_ble_eq_true rfl) (Nat.le_of_ble_eq_true rfl) rfl hl.1 rfl (Nat.le_of_ble_eq_true rfl) ⟨Nat.le_refl 0, Nat.le_refl 0⟩ dX7_image_3) hP hD hS hA [] rfl rfl (fun H locs hP hD hS => ?_)
  have hP : va_P D vwCl (wd_X7_image cI cZ AT AT_he AT_iz AT_io AT_tx AT_rd AT_fo AT_fi AT_iz_kp AT_iz_kp_sl AT_iz_kp_fl AT_iz_kp_ro AT_iz_kp_nt AT_iz_kp_mk AT_iz_kp_mo AT_he_sl AT_he_fl AT_he_ro AT_he_nt AT_he_mk AT_he_mo AT_iz_kp_sl_c AT_he_sl_c AT_iz_kp_fl_c AT_he_fl_c AT_iz_kp_ro_c AT_he_ro_c AT_iz_kp_nt_c AT_he_nt_c AT_iz_kp_mk_c AT_he_mk_c AT_iz_kp_mo_c AT_he_mo_c AT_io_kp AT_io_kp_sl AT_io_kp_fl AT_io_kp_ro AT_io_kp_nt AT_io_kp_mk AT_io_kp_mo AT_io_kp_sl_c AT_io_kp_fl_c AT_io_kp_ro_c AT_io_kp_nt_c AT_io_kp_mk_c AT_io_kp_mo_c vT_ab vT_be vT_bo vT_no vT_fu vT_iz_wk vT_iz_kp_ng vT_he_ng vT_iz_kp_sl_n vT_he_sl_n fT_he_sl_c fT_iz_kp_sl_c vT_iz_kp_fl_n vT_he_fl_n fT_he_fl_c fT_iz_kp_fl_c vT_iz_kp_ro_n vT_he_ro_n fT_he_ro_c fT_iz_kp_ro_c vT_iz_kp_nt_n vT_he_nt_n fT_he_nt_c fT_iz_kp_nt_c vT_iz_kp_mk_n vT_he_mk_n fT_he_mk_c fT_iz_kp_mk_c vT_iz_kp_mo_n vT_he_mo_n fT_he_mo_c fT_iz_kp_mo_c vT_io_wk vT_io_kp_ng vT_io_kp_sl_n fT_io_kp_sl_c vT_io_kp_fl_n fT_io_kp_fl_c vT_io_kp_ro_n fT_io_kp_ro_c vT_io_kp_nt_n fT_io_kp_nt_c vT_io_kp_mk_n fT_io_kp_mk_c vT_io_kp_mo_n fT_io_kp_mo_c) H := hP
  have hD : va_D A (wd_X7_image cI cZ AT AT_he AT_iz AT_io AT_tx AT_rd AT_fo AT_fi AT_iz_kp AT_iz_kp_sl AT_iz_kp_fl AT_iz_kp_ro AT_iz_kp_nt AT_iz_kp_mk AT_iz_kp_mo AT_he_sl AT_he_fl AT_he_ro AT_he_nt AT_he_mk AT_he_mo AT_iz_kp_sl_c AT_he_sl_c AT_iz_kp_fl_c AT_he_fl_c AT_iz_kp_ro_c AT_he_ro_c AT_iz_kp_nt_c AT_he_nt_c AT_iz_kp_mk_c AT_he_mk_c AT_iz_kp_mo_c AT_he_mo_c AT_io_kp AT_io_kp_sl AT_io_kp_fl AT_io_kp_ro AT_io_kp_nt AT_io_kp_mk AT_io_kp_mo AT_io_kp_sl_c AT_io_kp_fl_c AT_io_kp_ro_c AT_io_kp_nt_c AT_io_kp_mk_c AT_io_kp_mo_c vT_ab vT_be vT_bo vT_no vT_fu vT_iz_wk vT_iz_kp_ng vT_he_ng vT_iz_kp_sl_n vT_he_sl_n fT_he_sl_c fT_iz_kp_sl_c vT_iz_kp_fl_n vT_he_fl_n fT_he_fl_c fT_iz_kp_fl_c vT_iz_kp_ro_n vT_he_ro_n fT_he_ro_c fT_iz_kp_ro_c vT_iz_kp_nt_n vT_he_nt_n fT_he_nt_c fT_iz_kp_nt_c vT_iz_kp_mk_n vT_he_mk_n fT_he_mk_c fT_iz_kp_mk_c vT_iz_kp_mo_n vT_he_mo_n fT_he_mo_c fT_iz_kp_mo_c vT_io_wk vT_io_kp_ng vT_io_kp_sl_n fT_io_kp_sl_c vT_io_kp_fl_n fT_io_kp_fl_c vT_io_kp_ro_n fT_io_kp_ro_c vT_io_kp_nt_n fT_io_kp_nt_c vT_io_kp_mk_n fT_io_kp_mk_c vT_io_kp_mo_n fT_io_kp_mo_c) := hD
  refine lv_if_ne (tgt := 16) hx hb dX7_image_6 (by decide) (fun c_6 => ?_) (fun c_6 => ?_)
  · have hm := it_n c_6 hm
    refine lv_aload_n hx hb dX7_image_16 rfl (lv_at hl 0 rfl) ?_
    refine lv_iload_n hx hb dX7_image_17 rfl (lv_at hl 1 rfl) ?_
    rcases Decidable.em (p1 = 0) with c_18 | c_18
    · have hm := it_s c_18 hm
      refine q_cr (q_rv (rest := []) ⟨hx, hb, hml, hown, hts⟩ hK hN hP hD (c_X7_imageAt l D cI cZ H.size AT AT_he AT_iz AT_io AT_tx AT_rd AT_fo AT_fi vT_ab vT_be vT_bo vT_no vT_fu p1 AT_iz (if_pos c_18)) mb_X7_imageAt mv_X7_imageAt wl_X7_232 [0] rfl rfl rfl (Nat.le_of_ble_eq_true rfl) (Nat.le_of_ble_eq_true rfl) rfl hl.1 rfl (Nat.le_of_ble_eq_true rfl) ⟨Nat.le_refl 0, Nat.le_refl 0⟩ dX7_image_18) hP hD hS hA [0] rfl rfl (fun H locs hP hD hS => ?_)
      have hP : va_P D vwCl (wd_X7_image cI cZ AT AT_he AT_iz AT_io AT_tx AT_rd AT_fo AT_fi AT_iz_kp AT_iz_kp_sl AT_iz_kp_fl AT_iz_kp_ro AT_iz_kp_nt AT_iz_kp_mk AT_iz_kp_mo AT_he_sl AT_he_fl AT_he_ro AT_he_nt AT_he_mk AT_he_mo AT_iz_kp_sl_c AT_he_sl_c AT_iz_kp_fl_c AT_he_fl_c AT_iz_kp_ro_c AT_he_ro_c AT_iz_kp_nt_c AT_he_nt_c AT_iz_kp_mk_c AT_he_mk_c AT_iz_kp_mo_c AT_he_mo_c AT_io_kp AT_io_kp_sl AT_io_kp_fl AT_io_kp_ro AT_io_kp_nt AT_io_kp_mk AT_io_kp_mo AT_io_kp_sl_c AT_io_kp_fl_c AT_io_kp_ro_c AT_io_kp_nt_c AT_io_kp_mk_c AT_io_kp_mo_c vT_ab vT_be vT_bo vT_no vT_fu vT_iz_wk vT_iz_kp_ng vT_he_ng vT_iz_kp_sl_n vT_he_sl_n fT_he_sl_c fT_iz_kp_sl_c vT_iz_kp_fl_n vT_he_fl_n fT_he_fl_c fT_iz_kp_fl_c vT_iz_kp_ro_n vT_he_ro_n fT_he_ro_c fT_iz_kp_ro_c vT_iz_kp_nt_n vT_he_nt_n fT_he_nt_c fT_iz_kp_nt_c vT_iz_kp_mk_n vT_he_mk_n fT_he_mk_c fT_iz_kp_mk_c vT_iz_kp_mo_n vT_he_mo_n fT_he_mo_c fT_iz_kp_mo_c vT_io_wk vT_io_kp_ng vT_io_kp_sl_n fT_io_kp_sl_c vT_io_kp_fl_n fT_io_kp_fl_c vT_io_kp_ro_n fT_io_kp_ro_c vT_io_kp_nt_n fT_io_kp_nt_c vT_io_kp_mk_n fT_io_kp_mk_c vT_io_kp_mo_n fT_io_kp_mo_c) H := hP
      have hD : va_D A (wd_X7_image cI cZ AT AT_he AT_iz AT_io AT_tx AT_rd AT_fo AT_fi AT_iz_kp AT_iz_kp_sl AT_iz_kp_fl AT_iz_kp_ro AT_iz_kp_nt AT_iz_kp_mk AT_iz_kp_mo AT_he_sl AT_he_fl AT_he_ro AT_he_nt AT_he_mk AT_he_mo AT_iz_kp_sl_c AT_he_sl_c AT_iz_kp_fl_c AT_he_fl_c AT_iz_kp_ro_c AT_he_ro_c AT_iz_kp_nt_c AT_he_nt_c AT_iz_kp_mk_c AT_he_mk_c AT_iz_kp_mo_c AT_he_mo_c AT_io_kp AT_io_kp_sl AT_io_kp_fl AT_io_kp_ro AT_io_kp_nt AT_io_kp_mk AT_io_kp_mo AT_io_kp_sl_c AT_io_kp_fl_c AT_io_kp_ro_c AT_io_kp_nt_c AT_io_kp_mk_c AT_io_kp_mo_c vT_ab vT_be vT_bo vT_no vT_fu vT_iz_wk vT_iz_kp_ng vT_he_ng vT_iz_kp_sl_n vT_he_sl_n fT_he_sl_c fT_iz_kp_sl_c vT_iz_kp_fl_n vT_he_fl_n fT_he_fl_c fT_iz_kp_fl_c vT_iz_kp_ro_n vT_he_ro_n fT_he_ro_c fT_iz_kp_ro_c vT_iz_kp_nt_n vT_he_nt_n fT_he_nt_c fT_iz_kp_nt_c vT_iz_kp_mk_n vT_he_mk_n fT_he_mk_c fT_iz_kp_mk_c vT_iz_kp_mo_n vT_he_mo_n fT_he_mo_c fT_iz_kp_mo_c vT_io_wk vT_io_kp_ng vT_io_kp_sl_n fT_io_kp_sl_c vT_io_kp_fl_n fT_io_kp_fl_c vT_io_kp_ro_n fT_io_kp_ro_c vT_io_kp_nt_n fT_io_kp_nt_c vT_io_kp_mk_n fT_io_kp_mk_c vT_io_kp_mo_n fT_io_kp_mo_c) := hD
      refine lv_aload_n hx hb dX7_image_21 rfl (lv_at hl 0 rfl) ?_
      refine gf_X7_17 (v := .ref AT_he) hx hb hts hown hK hN hP 0 rfl rfl dX7_image_22 ?_
      obtain ⟨r_25, hc_25, hm⟩ := ob_s hm
      refine q_cv (q_rv (rest := []) ⟨hx, hb, hml, hown, hts⟩ hK hN hP hD (c_X2_keep l D cI cZ H.size AT_iz AT_he AT_iz_kp AT_iz_kp_sl AT_iz_kp_fl AT_iz_kp_ro AT_iz_kp_nt AT_iz_kp_mk AT_iz_kp_mo AT_he_sl AT_he_fl AT_he_ro AT_he_nt AT_he_mk AT_he_mo AT_iz_kp_sl_c AT_he_sl_c AT_iz_kp_fl_c AT_he_fl_c AT_iz_kp_ro_c AT_he_ro_c AT_iz_kp_nt_c AT_he_nt_c AT_iz_kp_mk_c AT_he_mk_c AT_iz_kp_mo_c AT_he_mo_c vT_iz_wk vT_iz_kp_ng vT_he_ng vT_iz_kp_sl_n vT_he_sl_n fT_he_sl_c fT_iz_kp_sl_c vT_iz_kp_fl_n vT_he_fl_n fT_he_fl_c fT_iz_kp_fl_c vT_iz_kp_ro_n vT_he_ro_n fT_he_ro_c fT_iz_kp_ro_c vT_iz_kp_nt_n vT_he_nt_n fT_he_nt_c fT_iz_kp_nt_c vT_iz_kp_mk_n vT_he_mk_n fT_he_mk_c fT_iz_kp_mk_c vT_iz_kp_mo_n vT_he_mo_n fT_he_mo_c fT_iz_kp_mo_c r_25 hc_25) mb_X2_keep mv_X2_keep wl_X7_236 [1, 2, 3, 4, 5, 6, 7, 8, 9, 10, 11, 12, 13, 14, 15, 16, 17, 18, 19, 20, 21, 22, 23, 24, 25, 26, 27] rfl rfl rfl (Nat.le_of_ble_eq_true rfl) (Nat.le_of_ble_eq_true rfl) rfl hl.1 rfl (Nat.le_of_ble_eq_true rfl) ⟨Nat.le_refl 0, Nat.le_refl 0⟩ dX7_image_25) hP hD hS hA [1, 2, 3, 4, 5, 6, 7, 8, 9, 10, 11, 12, 13, 14, 15, 16, 17, 18, 19, 20, 21, 22, 23, 24, 25, 26, 27] rfl rfl (fun H locs hP hD hS => ?_)
      have hP : va_P D vwCl (wd_X7_image cI cZ AT AT_he AT_iz AT_io AT_tx AT_rd AT_fo AT_fi AT_iz_kp AT_iz_kp_sl AT_iz_kp_fl AT_iz_kp_ro AT_iz_kp_nt AT_iz_kp_mk AT_iz_kp_mo AT_he_sl AT_he_fl AT_he_ro AT_he_nt AT_he_mk AT_he_mo AT_iz_kp_sl_c AT_he_sl_c AT_iz_kp_fl_c AT_he_fl_c AT_iz_kp_ro_c AT_he_ro_c AT_iz_kp_nt_c AT_he_nt_c AT_iz_kp_mk_c AT_he_mk_c AT_iz_kp_mo_c AT_he_mo_c AT_io_kp AT_io_kp_sl AT_io_kp_fl AT_io_kp_ro AT_io_kp_nt AT_io_kp_mk AT_io_kp_mo AT_io_kp_sl_c AT_io_kp_fl_c AT_io_kp_ro_c AT_io_kp_nt_c AT_io_kp_mk_c AT_io_kp_mo_c vT_ab vT_be vT_bo vT_no vT_fu r_25.1 r_25.2.1 vT_he_ng r_25.2.2.1 vT_he_sl_n fT_he_sl_c r_25.2.2.2.1 r_25.2.2.2.2.1 vT_he_fl_n fT_he_fl_c r_25.2.2.2.2.2.1 r_25.2.2.2.2.2.2.1 vT_he_ro_n fT_he_ro_c r_25.2.2.2.2.2.2.2.1 r_25.2.2.2.2.2.2.2.2.1 vT_he_nt_n fT_he_nt_c r_25.2.2.2.2.2.2.2.2.2.1 r_25.2.2.2.2.2.2.2.2.2.2.1 vT_he_mk_n fT_he_mk_c r_25.2.2.2.2.2.2.2.2.2.2.2.1 r_25.2.2.2.2.2.2.2.2.2.2.2.2.1 vT_he_mo_n fT_he_mo_c r_25.2.2.2.2.2.2.2.2.2.2.2.2.2 vT_io_wk vT_io_kp_ng vT_io_kp_sl_n fT_io_kp_sl_c vT_io_kp_fl_n fT_io_kp_fl_c vT_io_kp_ro_n fT_io_kp_ro_c vT_io_kp_nt_n fT_io_kp_nt_c vT_io_kp_mk_n fT_io_kp_mk_c vT_io_kp_mo_n fT_io_kp_mo_c) H := hP
      have hD : va_D A (wd_X7_image cI cZ AT AT_he AT_iz AT_io AT_tx AT_rd AT_fo AT_fi AT_iz_kp AT_iz_kp_sl AT_iz_kp_fl AT_iz_kp_ro AT_iz_kp_nt AT_iz_kp_mk AT_iz_kp_mo AT_he_sl AT_he_fl AT_he_ro AT_he_nt AT_he_mk AT_he_mo AT_iz_kp_sl_c AT_he_sl_c AT_iz_kp_fl_c AT_he_fl_c AT_iz_kp_ro_c AT_he_ro_c AT_iz_kp_nt_c AT_he_nt_c AT_iz_kp_mk_c AT_he_mk_c AT_iz_kp_mo_c AT_he_mo_c AT_io_kp AT_io_kp_sl AT_io_kp_fl AT_io_kp_ro AT_io_kp_nt AT_io_kp_mk AT_io_kp_mo AT_io_kp_sl_c AT_io_kp_fl_c AT_io_kp_ro_c AT_io_kp_nt_c AT_io_kp_mk_c AT_io_kp_mo_c vT_ab vT_be vT_bo vT_no vT_fu r_25.1 r_25.2.1 vT_he_ng r_25.2.2.1 vT_he_sl_n fT_he_sl_c r_25.2.2.2.1 r_25.2.2.2.2.1 vT_he_fl_n fT_he_fl_c r_25.2.2.2.2.2.1 r_25.2.2.2.2.2.2.1 vT_he_ro_n fT_he_ro_c r_25.2.2.2.2.2.2.2.1 r_25.2.2.2.2.2.2.2.2.1 vT_he_nt_n fT_he_nt_c r_25.2.2.2.2.2.2.2.2.2.1 r_25.2.2.2.2.2.2.2.2.2.2.1 vT_he_mk_n fT_he_mk_c r_25.2.2.2.2.2.2.2.2.2.2.2.1 r_25.2.2.2.2.2.2.2.2.2.2.2.2.1 vT_he_mo_n fT_he_mo_c r_25.2.2.2.2.2.2.2.2.2.2.2.2.2 vT_io_wk vT_io_kp_ng vT_io_kp_sl_n fT_io_kp_sl_c vT_io_kp_fl_n fT_io_kp_fl_c vT_io_kp_ro_n fT_io_kp_ro_c vT_io_kp_nt_n fT_io_kp_nt_c vT_io_kp_mk_n fT_io_kp_mk_c vT_io_kp_mo_n fT_io_kp_mo_c) := hD
      refine lv_iconst (v := 1) hx hb dX7_image_28 (by decide) ?_
      have hm := Option.some.inj hm
      subst hm
      exact q_iret (v := 1) hx hb hr hlocks hP hS dX7_image_29
    · have hm := it_n c_18 hm
      refine q_cr (q_rv (rest := []) ⟨hx, hb, hml, hown, hts⟩ hK hN hP hD (c_X7_imageAt l D cI cZ H.size AT AT_he AT_iz AT_io AT_tx AT_rd AT_fo AT_fi vT_ab vT_be vT_bo vT_no vT_fu p1 AT_io (if_neg c_18)) mb_X7_imageAt mv_X7_imageAt wl_X7_232 [0] rfl rfl rfl (Nat.le_of_ble_eq_true rfl) (Nat.le_of_ble_eq_true rfl) rfl hl.1 rfl (Nat.le_of_ble_eq_true rfl) ⟨Nat.le_refl 0, Nat.le_refl 0⟩ dX7_image_18) hP hD hS hA [0] rfl rfl (fun H locs hP hD hS => ?_)
      have hP : va_P D vwCl (wd_X7_image cI cZ AT AT_he AT_iz AT_io AT_tx AT_rd AT_fo AT_fi AT_iz_kp AT_iz_kp_sl AT_iz_kp_fl AT_iz_kp_ro AT_iz_kp_nt AT_iz_kp_mk AT_iz_kp_mo AT_he_sl AT_he_fl AT_he_ro AT_he_nt AT_he_mk AT_he_mo AT_iz_kp_sl_c AT_he_sl_c AT_iz_kp_fl_c AT_he_fl_c AT_iz_kp_ro_c AT_he_ro_c AT_iz_kp_nt_c AT_he_nt_c AT_iz_kp_mk_c AT_he_mk_c AT_iz_kp_mo_c AT_he_mo_c AT_io_kp AT_io_kp_sl AT_io_kp_fl AT_io_kp_ro AT_io_kp_nt AT_io_kp_mk AT_io_kp_mo AT_io_kp_sl_c AT_io_kp_fl_c AT_io_kp_ro_c AT_io_kp_nt_c AT_io_kp_mk_c AT_io_kp_mo_c vT_ab vT_be vT_bo vT_no vT_fu vT_iz_wk vT_iz_kp_ng vT_he_ng vT_iz_kp_sl_n vT_he_sl_n fT_he_sl_c fT_iz_kp_sl_c vT_iz_kp_fl_n vT_he_fl_n fT_he_fl_c fT_iz_kp_fl_c vT_iz_kp_ro_n vT_he_ro_n fT_he_ro_c fT_iz_kp_ro_c vT_iz_kp_nt_n vT_he_nt_n fT_he_nt_c fT_iz_kp_nt_c vT_iz_kp_mk_n vT_he_mk_n fT_he_mk_c fT_iz_kp_mk_c vT_iz_kp_mo_n vT_he_mo_n fT_he_mo_c fT_iz_kp_mo_c vT_io_wk vT_io_kp_ng vT_io_kp_sl_n fT_io_kp_sl_c vT_io_kp_fl_n fT_io_kp_fl_c vT_io_kp_ro_n fT_io_kp_ro_c vT_io_kp_nt_n fT_io_kp_nt_c vT_io_kp_mk_n fT_io_kp_mk_c vT_io_kp_mo_n fT_io_kp_mo_c) H := hP
      have hD : va_D A (wd_X7_image cI cZ AT AT_he AT_iz AT_io AT_tx AT_rd AT_fo AT_fi AT_iz_kp AT_iz_kp_sl AT_iz_kp_fl AT_iz_kp_ro AT_iz_kp_nt AT_iz_kp_mk AT_iz_kp_mo AT_he_sl AT_he_fl AT_he_ro AT_he_nt AT_he_mk AT_he_mo AT_iz_kp_sl_c AT_he_sl_c AT_iz_kp_fl_c AT_he_fl_c AT_iz_kp_ro_c AT_he_ro_c AT_iz_kp_nt_c AT_he_nt_c AT_iz_kp_mk_c AT_he_mk_c AT_iz_kp_mo_c AT_he_mo_c AT_io_kp AT_io_kp_sl AT_io_kp_fl AT_io_kp_ro AT_io_kp_nt AT_io_kp_mk AT_io_kp_mo AT_io_kp_sl_c AT_io_kp_fl_c AT_io_kp_ro_c AT_io_kp_nt_c AT_io_kp_mk_c AT_io_kp_mo_c vT_ab vT_be vT_bo vT_no vT_fu vT_iz_wk vT_iz_kp_ng vT_he_ng vT_iz_kp_sl_n vT_he_sl_n fT_he_sl_c fT_iz_kp_sl_c vT_iz_kp_fl_n vT_he_fl_n fT_he_fl_c fT_iz_kp_fl_c vT_iz_kp_ro_n vT_he_ro_n fT_he_ro_c fT_iz_kp_ro_c vT_iz_kp_nt_n vT_he_nt_n fT_he_nt_c fT_iz_kp_nt_c vT_iz_kp_mk_n vT_he_mk_n fT_he_mk_c fT_iz_kp_mk_c vT_iz_kp_mo_n vT_he_mo_n fT_he_mo_c fT_iz_kp_mo_c vT_io_wk vT_io_kp_ng vT_io_kp_sl_n fT_io_kp_sl_c vT_io_kp_fl_n fT_io_kp_fl_c vT_io_kp_ro_n fT_io_kp_ro_c vT_io_kp_nt_n fT_io_kp_nt_c vT_io_kp_mk_n fT_io_kp_mk_c vT_io_kp_mo_n fT_io_kp_mo_c) := hD
      refine lv_aload_n hx hb dX7_image_21 rfl (lv_at hl 0 rfl) ?_
      refine gf_X7_17 (v := .ref AT_he) hx hb hts hown hK hN hP 0 rfl rfl dX7_image_22 ?_
      obtain ⟨r_25, hc_25, hm⟩ := ob_s hm
      refine q_cv (q_rv (rest := []) ⟨hx, hb, hml, hown, hts⟩ hK hN hP hD (c_X2_keep l D cI cZ H.size AT_io AT_he AT_io_kp AT_io_kp_sl AT_io_kp_fl AT_io_kp_ro AT_io_kp_nt AT_io_kp_mk AT_io_kp_mo AT_he_sl AT_he_fl AT_he_ro AT_he_nt AT_he_mk AT_he_mo AT_io_kp_sl_c AT_he_sl_c AT_io_kp_fl_c AT_he_fl_c AT_io_kp_ro_c AT_he_ro_c AT_io_kp_nt_c AT_he_nt_c AT_io_kp_mk_c AT_he_mk_c AT_io_kp_mo_c AT_he_mo_c vT_io_wk vT_io_kp_ng vT_he_ng vT_io_kp_sl_n vT_he_sl_n fT_he_sl_c fT_io_kp_sl_c vT_io_kp_fl_n vT_he_fl_n fT_he_fl_c fT_io_kp_fl_c vT_io_kp_ro_n vT_he_ro_n fT_he_ro_c fT_io_kp_ro_c vT_io_kp_nt_n vT_he_nt_n fT_he_nt_c fT_io_kp_nt_c vT_io_kp_mk_n vT_he_mk_n fT_he_mk_c fT_io_kp_mk_c vT_io_kp_mo_n vT_he_mo_n fT_he_mo_c fT_io_kp_mo_c r_25 hc_25) mb_X2_keep mv_X2_keep wl_X7_236 [28, 29, 3, 30, 5, 6, 31, 32, 9, 10, 33, 34, 13, 14, 35, 36, 17, 18, 37, 38, 21, 22, 39, 40, 25, 26, 41] rfl rfl rfl (Nat.le_of_ble_eq_true rfl) (Nat.le_of_ble_eq_true rfl) rfl hl.1 rfl (Nat.le_of_ble_eq_true rfl) ⟨Nat.le_refl 0, Nat.le_refl 0⟩ dX7_image_25) hP hD hS hA [28, 29, 3, 30, 5, 6, 31, 32, 9, 10, 33, 34, 13, 14, 35, 36, 17, 18, 37, 38, 21, 22, 39, 40, 25, 26, 41] rfl rfl (fun H locs hP hD hS => ?_)
      have hP : va_P D vwCl (wd_X7_image cI cZ AT AT_he AT_iz AT_io AT_tx AT_rd AT_fo AT_fi AT_iz_kp AT_iz_kp_sl AT_iz_kp_fl AT_iz_kp_ro AT_iz_kp_nt AT_iz_kp_mk AT_iz_kp_mo AT_he_sl AT_he_fl AT_he_ro AT_he_nt AT_he_mk AT_he_mo AT_iz_kp_sl_c AT_he_sl_c AT_iz_kp_fl_c AT_he_fl_c AT_iz_kp_ro_c AT_he_ro_c AT_iz_kp_nt_c AT_he_nt_c AT_iz_kp_mk_c AT_he_mk_c AT_iz_kp_mo_c AT_he_mo_c AT_io_kp AT_io_kp_sl AT_io_kp_fl AT_io_kp_ro AT_io_kp_nt AT_io_kp_mk AT_io_kp_mo AT_io_kp_sl_c AT_io_kp_fl_c AT_io_kp_ro_c AT_io_kp_nt_c AT_io_kp_mk_c AT_io_kp_mo_c vT_ab vT_be vT_bo vT_no vT_fu vT_iz_wk vT_iz_kp_ng vT_he_ng vT_iz_kp_sl_n vT_he_sl_n fT_he_sl_c fT_iz_kp_sl_c vT_iz_kp_fl_n vT_he_fl_n fT_he_fl_c fT_iz_kp_fl_c vT_iz_kp_ro_n vT_he_ro_n fT_he_ro_c fT_iz_kp_ro_c vT_iz_kp_nt_n vT_he_nt_n fT_he_nt_c fT_iz_kp_nt_c vT_iz_kp_mk_n vT_he_mk_n fT_he_mk_c fT_iz_kp_mk_c vT_iz_kp_mo_n vT_he_mo_n fT_he_mo_c fT_iz_kp_mo_c r_25.1 r_25.2.1 r_25.2.2.1 r_25.2.2.2.1 r_25.2.2.2.2.1 r_25.2.2.2.2.2.1 r_25.2.2.2.2.2.2.1 r_25.2.2.2.2.2.2.2.1 r_25.2.2.2.2.2.2.2.2.1 r_25.2.2.2.2.2.2.2.2.2.1 r_25.2.2.2.2.2.2.2.2.2.2.1 r_25.2.2.2.2.2.2.2.2.2.2.2.1 r_25.2.2.2.2.2.2.2.2.2.2.2.2.1 r_25.2.2.2.2.2.2.2.2.2.2.2.2.2) H := hP
      have hD : va_D A (wd_X7_image cI cZ AT AT_he AT_iz AT_io AT_tx AT_rd AT_fo AT_fi AT_iz_kp AT_iz_kp_sl AT_iz_kp_fl AT_iz_kp_ro AT_iz_kp_nt AT_iz_kp_mk AT_iz_kp_mo AT_he_sl AT_he_fl AT_he_ro AT_he_nt AT_he_mk AT_he_mo AT_iz_kp_sl_c AT_he_sl_c AT_iz_kp_fl_c AT_he_fl_c AT_iz_kp_ro_c AT_he_ro_c AT_iz_kp_nt_c AT_he_nt_c AT_iz_kp_mk_c AT_he_mk_c AT_iz_kp_mo_c AT_he_mo_c AT_io_kp AT_io_kp_sl AT_io_kp_fl AT_io_kp_ro AT_io_kp_nt AT_io_kp_mk AT_io_kp_mo AT_io_kp_sl_c AT_io_kp_fl_c AT_io_kp_ro_c AT_io_kp_nt_c AT_io_kp_mk_c AT_io_kp_mo_c vT_ab vT_be vT_bo vT_no vT_fu vT_iz_wk vT_iz_kp_ng vT_he_ng vT_iz_kp_sl_n vT_he_sl_n fT_he_sl_c fT_iz_kp_sl_c vT_iz_kp_fl_n vT_he_fl_n fT_he_fl_c fT_iz_kp_fl_c vT_iz_kp_ro_n vT_he_ro_n fT_he_ro_c fT_iz_kp_ro_c vT_iz_kp_nt_n vT_he_nt_n fT_he_nt_c fT_iz_kp_nt_c vT_iz_kp_mk_n vT_he_mk_n fT_he_mk_c fT_iz_kp_mk_c vT_iz_kp_mo_n vT_he_mo_n fT_he_mo_c fT_iz_kp_mo_c r_25.1 r_25.2.1 r_25.2.2.1 r_25.2.2.2.1 r_25.2.2.2.2.1 r_25.2.2.2.2.2.1 r_25.2.2.2.2.2.2.1 r_25.2.2.2.2.2.2.2.1 r_25.2.2.2.2.2.2.2.2.1 r_25.2.2.2.2.2.2.2.2.2.1 r_25.2.2.2.2.2.2.2.2.2.2.1 r_25.2.2.2.2.2.2.2.2.2.2.2.1 r_25.2.2.2.2.2.2.2.2.2.2.2.2.1 r_25.2.2.2.2.2.2.2.2.2.2.2.2.2) := hD
      refine lv_iconst (v := 1) hx hb dX7_image_28 (by decide) ?_
      have hm := Option.some.inj hm
      subst hm
      exact q_iret (v := 1) hx hb hr hlocks hP hS dX7_image_29
  · have hm := it_s c_6 hm
    refine lv_aload_n hx hb dX7_image_9 rfl (lv_at hl 0 rfl) ?_
    refine lv_bipush (v := (-2)) hx hb dX7_image_10 (by decide) ?_
    obtain ⟨r_12, hc_12, hm⟩ := ob_s hm
    refine q_ci (q_rv (rest := []) ⟨hx, hb, hml, hown, hts⟩ hK hN hP hD (c_X7_refused l D cI cZ H.size AT AT_he AT_iz AT_io AT_tx AT_rd AT_fo AT_fi vT_ab vT_be vT_bo vT_no vT_fu (-2) r_12 hc_12) mb_X7_refused mv_X7_refused wl_X7_81 [0] rfl rfl rfl (Nat.le_of_ble_eq_true rfl) (Nat.le_of_ble_eq_true rfl) rfl hl.1 rfl (Nat.le_of_ble_eq_true rfl) ⟨Nat.le_refl 0, Nat.le_refl 0⟩ dX7_image_12) hP hD hS hA [0] rfl rfl (fun H locs hP hD hS => ?_)
    have hP : va_P D vwCl (wd_X7_image cI cZ AT AT_he AT_iz AT_io AT_tx AT_rd AT_fo AT_fi AT_iz_kp AT_iz_kp_sl AT_iz_kp_fl AT_iz_kp_ro AT_iz_kp_nt AT_iz_kp_mk AT_iz_kp_mo AT_he_sl AT_he_fl AT_he_ro AT_he_nt AT_he_mk AT_he_mo AT_iz_kp_sl_c AT_he_sl_c AT_iz_kp_fl_c AT_he_fl_c AT_iz_kp_ro_c AT_he_ro_c AT_iz_kp_nt_c AT_he_nt_c AT_iz_kp_mk_c AT_he_mk_c AT_iz_kp_mo_c AT_he_mo_c AT_io_kp AT_io_kp_sl AT_io_kp_fl AT_io_kp_ro AT_io_kp_nt AT_io_kp_mk AT_io_kp_mo AT_io_kp_sl_c AT_io_kp_fl_c AT_io_kp_ro_c AT_io_kp_nt_c AT_io_kp_mk_c AT_io_kp_mo_c vT_ab vT_be r_12.2.1 r_12.2.2.1 r_12.2.2.2 vT_iz_wk vT_iz_kp_ng vT_he_ng vT_iz_kp_sl_n vT_he_sl_n fT_he_sl_c fT_iz_kp_sl_c vT_iz_kp_fl_n vT_he_fl_n fT_he_fl_c fT_iz_kp_fl_c vT_iz_kp_ro_n vT_he_ro_n fT_he_ro_c fT_iz_kp_ro_c vT_iz_kp_nt_n vT_he_nt_n fT_he_nt_c fT_iz_kp_nt_c vT_iz_kp_mk_n vT_he_mk_n fT_he_mk_c fT_iz_kp_mk_c vT_iz_kp_mo_n vT_he_mo_n fT_he_mo_c fT_iz_kp_mo_c vT_io_wk vT_io_kp_ng vT_io_kp_sl_n fT_io_kp_sl_c vT_io_kp_fl_n fT_io_kp_fl_c vT_io_kp_ro_n fT_io_kp_ro_c vT_io_kp_nt_n fT_io_kp_nt_c vT_io_kp_mk_n fT_io_kp_mk_c vT_io_kp_mo_n fT_io_kp_mo_c) H := hP
    have hD : va_D A (wd_X7_image cI cZ AT AT_he AT_iz AT_io AT_tx AT_rd AT_fo AT_fi AT_iz_kp AT_iz_kp_sl AT_iz_kp_fl AT_iz_kp_ro AT_iz_kp_nt AT_iz_kp_mk AT_iz_kp_mo AT_he_sl AT_he_fl AT_he_ro AT_he_nt AT_he_mk AT_he_mo AT_iz_kp_sl_c AT_he_sl_c AT_iz_kp_fl_c AT_he_fl_c AT_iz_kp_ro_c AT_he_ro_c AT_iz_kp_nt_c AT_he_nt_c AT_iz_kp_mk_c AT_he_mk_c AT_iz_kp_mo_c AT_he_mo_c AT_io_kp AT_io_kp_sl AT_io_kp_fl AT_io_kp_ro AT_io_kp_nt AT_io_kp_mk AT_io_kp_mo AT_io_kp_sl_c AT_io_kp_fl_c AT_io_kp_ro_c AT_io_kp_nt_c AT_io_kp_mk_c AT_io_kp_mo_c vT_ab vT_be r_12.2.1 r_12.2.2.1 r_12.2.2.2 vT_iz_wk vT_iz_kp_ng vT_he_ng vT_iz_kp_sl_n vT_he_sl_n fT_he_sl_c fT_iz_kp_sl_c vT_iz_kp_fl_n vT_he_fl_n fT_he_fl_c fT_iz_kp_fl_c vT_iz_kp_ro_n vT_he_ro_n fT_he_ro_c fT_iz_kp_ro_c vT_iz_kp_nt_n vT_he_nt_n fT_he_nt_c fT_iz_kp_nt_c vT_iz_kp_mk_n vT_he_mk_n fT_he_mk_c fT_iz_kp_mk_c vT_iz_kp_mo_n vT_he_mo_n fT_he_mo_c fT_iz_kp_mo_c vT_io_wk vT_io_kp_ng vT_io_kp_sl_n fT_io_kp_sl_c vT_io_kp_fl_n fT_io_kp_fl_c vT_io_kp_ro_n fT_io_kp_ro_c vT_io_kp_nt_n fT_io_kp_nt_c vT_io_kp_mk_n fT_io_kp_mk_c vT_io_kp_mo_n fT_io_kp_mo_c) := hD
    have hm := Option.some.inj hm
    subst hm
    exact q_iret (v := r_12.1) hx hb hr hlocks hP hS dX7_image_15
theorem gf_X7_239 {p : Program} {l : Launch} {e : Env} {R : Room} {s : State} {m : MethodId} {args : Array Value} {below : List Frame} {meth : Method} {c : Code} {H : Heap} {locs : List Loc} {cells slots : Nat} {Q : State → Prop} {pc : Nat} {ls : Array Slot} {cc : ByteArray} {D : va_G} {cI cZ : ClassId} {ws : va_W} {a : Nat} {rest fs : List Value} (hx : p.tables.exec = Jvm.exec) (hb : c.code = cc) (hts : ∀ w ∈ bg, w.before args s = true) (hown : s.vm.findClass RX7 = some m.cls) (hK : va_K D vwCl (q_tys cI cZ) s) (hN : q_N s) (hP : va_P D vwCl ws H) (q0 : Nat) (he : ws[q0]? = some (a, .inr (2, fs))) {v : Value} (hv : fs[1]? = some v) (hdg : decode cc pc = .ok (.getfield 239, 3)) (kk : W p l e R s m args below meth c H locs cells slots Q (F0 m (pc + 3) ls (v :: rest))) : W p l e R s m args below meth c H locs cells slots Q (F0 m pc ls (.ref a :: rest)) :=
  va_getN (C := RX2) (T := TX2) (N := 2) hx hb hts wu_X2 hown hK hP q0 he rfl 1 (by decide) ((ng_X7_239 hN).use rfl) (fun _ h9 => h9) hv hdg kk
theorem gf_X7_243 {p : Program} {l : Launch} {e : Env} {R : Room} {s : State} {m : MethodId} {args : Array Value} {below : List Frame} {meth : Method} {c : Code} {H : Heap} {locs : List Loc} {cells slots : Nat} {Q : State → Prop} {pc : Nat} {ls : Array Slot} {cc : ByteArray} {D : va_G} {cI cZ : ClassId} {ws : va_W} {a : Nat} {rest fs : List Value} (hx : p.tables.exec = Jvm.exec) (hb : c.code = cc) (hts : ∀ w ∈ bg, w.before args s = true) (hown : s.vm.findClass RX7 = some m.cls) (hK : va_K D vwCl (q_tys cI cZ) s) (hN : q_N s) (hP : va_P D vwCl ws H) (q0 : Nat) (he : ws[q0]? = some (a, .inr (2, fs))) {v : Value} (hv : fs[0]? = some v) (hdg : decode cc pc = .ok (.getfield 243, 3)) (kk : W p l e R s m args below meth c H locs cells slots Q (F0 m (pc + 3) ls (v :: rest))) : W p l e R s m args below meth c H locs cells slots Q (F0 m pc ls (.ref a :: rest)) :=
  va_getN (C := RX2) (T := TX2) (N := 2) hx hb hts wu_X2 hown hK hP q0 he rfl 0 (by decide) ((ng_X7_243 hN).use rfl) (fun _ h9 => h9) hv hdg kk
theorem mb_X7_from : q_mb yX7_from cX7_from 3 (some .int) 1 := ⟨wc_X7_from, wn_X7, by decide, by decide, by decide +kernel⟩
theorem mv_X7_from : q_mv yX7_from 7 := ⟨wi_X7_from, ws_X7_from, _, rfl, rfl⟩
def wd_X7_from (cI cZ : ClassId) (AT AT_he AT_iz AT_io AT_tx AT_rd AT_fo AT_fi AT_iz_kp AT_he_sl AT_he_fl AT_he_ro AT_he_nt AT_he_mk AT_he_mo AT_iz_kp_sl AT_iz_kp_fl AT_iz_kp_ro AT_iz_kp_nt AT_iz_kp_mk AT_iz_kp_mo AT_he_sl_c AT_iz_kp_sl_c AT_he_fl_c AT_iz_kp_fl_c AT_he_ro_c AT_iz_kp_ro_c AT_he_nt_c AT_iz_kp_nt_c AT_he_mk_c AT_iz_kp_mk_c AT_he_mo_c AT_iz_kp_mo_c AT_io_kp AT_io_kp_sl AT_io_kp_fl AT_io_kp_ro AT_io_kp_nt AT_io_kp_mk AT_io_kp_mo AT_io_kp_sl_c AT_io_kp_fl_c AT_io_kp_ro_c AT_io_kp_nt_c AT_io_kp_mk_c AT_io_kp_mo_c : Nat) (vT_ab : Int32) (vT_be : Int32) (vT_bo : Int32) (vT_no : Int32) (vT_fu : Int32) (vT_iz_wk : Int32) (vT_he_ng : Int32) (vT_iz_kp_ng : Int32) (vT_he_sl_n : Int32) (vT_iz_kp_sl_n : Int32) (fT_iz_kp_sl_c : Nat → Int32) (fT_he_sl_c : Nat → Int32) (vT_he_fl_n : Int32) (vT_iz_kp_fl_n : Int32) (fT_iz_kp_fl_c : Nat → Int32) (fT_he_fl_c : Nat → Int32) (vT_he_ro_n : Int32) (vT_iz_kp_ro_n : Int32) (fT_iz_kp_ro_c : Nat → Int32) (fT_he_ro_c : Nat → Int32) (vT_he_nt_n : Int32) (vT_iz_kp_nt_n : Int32) (fT_iz_kp_nt_c : Nat → Int32) (fT_he_nt_c : Nat → Int32) (vT_he_mk_n : Int32) (vT_iz_kp_mk_n : Int32) (fT_iz_kp_mk_c : Nat → Int32) (fT_he_mk_c : Nat → Int32) (vT_he_mo_n : Int32) (vT_iz_kp_mo_n : Int32) (fT_iz_kp_mo_c : Nat → Int32) (fT_he_mo_c : Nat → Int32) (vT_io_wk : Int32) (vT_io_kp_ng : Int32) (vT_io_kp_sl_n : Int32) (fT_io_kp_sl_c : Nat → Int32) (vT_io_kp_fl_n : Int32) (fT_io_kp_fl_c : Nat → Int32) (vT_io_kp_ro_n : Int32) (fT_io_kp_ro_c : Nat → Int32) (vT_io_kp_nt_n : Int32) (fT_io_kp_nt_c : Nat → Int32) (vT_io_kp_mk_n : Int32) (fT_io_kp_mk_c : Nat → Int32) (vT_io_kp_mo_n : Int32) (fT_io_kp_mo_c : Nat → Int32) : va_W := [(AT, .inr (7, [.ref AT_he, .ref AT_iz, .ref AT_io, .ref AT_tx, .ref AT_rd, .ref AT_fo, .ref AT_fi, .int vT_ab, .int vT_be, .int vT_bo, .int vT_no, .int vT_fu])), (AT_iz, .inr (2, [.ref AT_iz_kp, .int vT_iz_wk])), (AT_he, .inr (4, [.ref AT_he_sl, .ref AT_he_fl, .ref AT_he_ro, .ref AT_he_nt, .ref AT_he_mk, .ref AT_he_mo, .int vT_he_ng])), (AT_iz_kp, .inr (4, [.ref AT_iz_kp_sl, .ref AT_iz_kp_fl, .ref AT_iz_kp_ro, .ref AT_iz_kp_nt, .ref AT_iz_kp_mk, .ref AT_iz_kp_mo, .int vT_iz_kp_ng])), (AT_he_sl, .inr (3, [.int 4, .ref AT_he_sl_c, .int vT_he_sl_n])), (AT_iz_kp_sl, .inr (3, [.int 4, .ref AT_iz_kp_sl_c, .int vT_iz_kp_sl_n])), (AT_iz_kp_sl_c, .inl (cI, 24, .inl fT_iz_kp_sl_c)), (AT_he_sl_c, .inl (cI, 24, .inl fT_he_sl_c)), (AT_he_fl, .inr (3, [.int 3, .ref AT_he_fl_c, .int vT_he_fl_n])), (AT_iz_kp_fl, .inr (3, [.int 3, .ref AT_iz_kp_fl_c, .int vT_iz_kp_fl_n])), (AT_iz_kp_fl_c, .inl (cI, 18, .inl fT_iz_kp_fl_c)), (AT_he_fl_c, .inl (cI, 18, .inl fT_he_fl_c)), (AT_he_ro, .inr (3, [.int 3, .ref AT_he_ro_c, .int vT_he_ro_n])), (AT_iz_kp_ro, .inr (3, [.int 3, .ref AT_iz_kp_ro_c, .int vT_iz_kp_ro_n])), (AT_iz_kp_ro_c, .inl (cI, 15, .inl fT_iz_kp_ro_c)), (AT_he_ro_c, .inl (cI, 15, .inl fT_he_ro_c)), (AT_he_nt, .inr (3, [.int 4, .ref AT_he_nt_c, .int vT_he_nt_n])), (AT_iz_kp_nt, .inr (3, [.int 4, .ref AT_iz_kp_nt_c, .int vT_iz_kp_nt_n])), (AT_iz_kp_nt_c, .inl (cI, 24, .inl fT_iz_kp_nt_c)), (AT_he_nt_c, .inl (cI, 24, .inl fT_he_nt_c)), (AT_he_mk, .inr (3, [.int 4, .ref AT_he_mk_c, .int vT_he_mk_n])), (AT_iz_kp_mk, .inr (3, [.int 4, .ref AT_iz_kp_mk_c, .int vT_iz_kp_mk_n])), (AT_iz_kp_mk_c, .inl (cI, 24, .inl fT_iz_kp_mk_c)), (AT_he_mk_c, .inl (cI, 24, .inl fT_he_mk_c)), (AT_he_mo, .inr (3, [.int 25, .ref AT_he_mo_c, .int vT_he_mo_n])), (AT_iz_kp_mo, .inr (3, [.int 25, .ref AT_iz_kp_mo_c, .int vT_iz_kp_mo_n])), (AT_iz_kp_mo_c, .inl (cI, 200, .inl fT_iz_kp_mo_c)), (AT_he_mo_c, .inl (cI, 200, .inl fT_he_mo_c)), (AT_io, .inr (2, [.ref AT_io_kp, .int vT_io_wk])), (AT_io_kp, .inr (4, [.ref AT_io_kp_sl, .ref AT_io_kp_fl, .ref AT_io_kp_ro, .ref AT_io_kp_nt, .ref AT_io_kp_mk, .ref AT_io_kp_mo, .int vT_io_kp_ng])), (AT_io_kp_sl, .inr (3, [.int 4, .ref AT_io_kp_sl_c, .int vT_io_kp_sl_n])), (AT_io_kp_sl_c, .inl (cI, 24, .inl fT_io_kp_sl_c)), (AT_io_kp_fl, .inr (3, [.int 3, .ref AT_io_kp_fl_c, .int vT_io_kp_fl_n])), (AT_io_kp_fl_c, .inl (cI, 18, .inl fT_io_kp_fl_c)), (AT_io_kp_ro, .inr (3, [.int 3, .ref AT_io_kp_ro_c, .int vT_io_kp_ro_n])), (AT_io_kp_ro_c, .inl (cI, 15, .inl fT_io_kp_ro_c)), (AT_io_kp_nt, .inr (3, [.int 4, .ref AT_io_kp_nt_c, .int vT_io_kp_nt_n])), (AT_io_kp_nt_c, .inl (cI, 24, .inl fT_io_kp_nt_c)), (AT_io_kp_mk, .inr (3, [.int 4, .ref AT_io_kp_mk_c, .int vT_io_kp_mk_n])), (AT_io_kp_mk_c, .inl (cI, 24, .inl fT_io_kp_mk_c)), (AT_io_kp_mo, .inr (3, [.int 25, .ref AT_io_kp_mo_c, .int vT_io_kp_mo_n])), (AT_io_kp_mo_c, .inl (cI, 200, .inl fT_io_kp_mo_c))]
def fm_X7_from (p1 : Int32) (vT_bo : Int32) (vT_no : Int32) (vT_fu : Int32) (vT_iz_wk : Int32) (vT_he_ng : Int32) (vT_iz_kp_ng : Int32) (vT_he_sl_n : Int32) (vT_iz_kp_sl_n : Int32) (fT_iz_kp_sl_c : Nat → Int32) (fT_he_sl_c : Nat → Int32) (vT_he_fl_n : Int32) (vT_iz_kp_fl_n : Int32) (fT_iz_kp_fl_c : Nat → Int32) (fT_he_fl_c : Nat → Int32) (vT_he_ro_n : Int32) (vT_iz_kp_ro_n : Int32) (fT_iz_kp_ro_c : Nat → Int32) (fT_he_ro_c : Nat → Int32) (vT_he_nt_n : Int32) (vT_iz_kp_nt_n : Int32) (fT_iz_kp_nt_c : Nat → Int32) (fT_he_nt_c : Nat → Int32) (vT_he_mk_n : Int32) (vT_iz_kp_mk_n : Int32) (fT_iz_kp_mk_c : Nat → Int32) (fT_he_mk_c : Nat → Int32) (vT_he_mo_n : Int32) (vT_iz_kp_mo_n : Int32) (fT_iz_kp_mo_c : Nat → Int32) (fT_he_mo_c : Nat → Int32) (vT_io_wk : Int32) (vT_io_kp_ng : Int32) (vT_io_kp_sl_n : Int32) (fT_io_kp_sl_c : Nat → Int32) (vT_io_kp_fl_n : Int32) (fT_io_kp_fl_c : Nat → Int32) (vT_io_kp_ro_n : Int32) (fT_io_kp_ro_c : Nat → Int32) (vT_io_kp_nt_n : Int32) (fT_io_kp_nt_c : Nat → Int32) (vT_io_kp_mk_n : Int32) (fT_io_kp_mk_c : Nat → Int32) (vT_io_kp_mo_n : Int32) (fT_io_kp_mo_c : Nat → Int32) : Option (Int32 × Int32 × Int32 × Int32 × Int32 × Int32 × (Nat → Int32) × Int32 × (Nat → Int32) × Int32 × (Nat → Int32) × Int32 × (Nat → Int32) × Int32 × (Nat → Int32) × Int32 × (Nat → Int32)) := Option.bind (fm_X7_within p1 0 1) (fun r_3 => if r_3 = 0 then (Option.bind (fm_X7_refused (-2) vT_bo vT_no vT_fu) (fun r_12 => some (r_12.1, r_12.2.1, r_12.2.2.1, r_12.2.2.2, vT_he_ng, vT_he_sl_n, fT_he_sl_c, vT_he_fl_n, fT_he_fl_c, vT_he_ro_n, fT_he_ro_c, vT_he_nt_n, fT_he_nt_c, vT_he_mk_n, fT_he_mk_c, vT_he_mo_n, fT_he_mo_c))) else (if p1 = 0 then (if vT_iz_wk = 0 then (Option.bind (fm_X7_refused (-3) vT_bo vT_no vT_fu) (fun r_32 => some (r_32.1, r_32.2.1, r_32.2.2.1, r_32.2.2.2, vT_he_ng, vT_he_sl_n, fT_he_sl_c, vT_he_fl_n, fT_he_fl_c, vT_he_ro_n, fT_he_ro_c, vT_he_nt_n, fT_he_nt_c, vT_he_mk_n, fT_he_mk_c, vT_he_mo_n, fT_he_mo_c))) else (Option.bind (fm_X4_takeFrom vT_he_ng vT_iz_kp_ng vT_he_sl_n vT_iz_kp_sl_n fT_iz_kp_sl_c fT_he_sl_c vT_he_fl_n vT_iz_kp_fl_n fT_iz_kp_fl_c fT_he_fl_c vT_he_ro_n vT_iz_kp_ro_n fT_iz_kp_ro_c fT_he_ro_c vT_he_nt_n vT_iz_kp_nt_n fT_iz_kp_nt_c fT_he_nt_c vT_he_mk_n vT_iz_kp_mk_n fT_iz_kp_mk_c fT_he_mk_c vT_he_mo_n vT_iz_kp_mo_n fT_iz_kp_mo_c fT_he_mo_c) (fun r_44 => some (1, vT_bo, vT_no, vT_fu, r_44.1, r_44.2.1, r_44.2.2.1, r_44.2.2.2.1, r_44.2.2.2.2.1, r_44.2.2.2.2.2.1, r_44.2.2.2.2.2.2.1, r_44.2.2.2.2.2.2.2.1, r_44.2.2.2.2.2.2.2.2.1, r_44.2.2.2.2.2.2.2.2.2.1, r_44.2.2.2.2.2.2.2.2.2.2.1, r_44.2.2.2.2.2.2.2.2.2.2.2.1, r_44.2.2.2.2.2.2.2.2.2.2.2.2)))) else (if vT_io_wk = 0 then (Option.bind (fm_X7_refused (-3) vT_bo vT_no vT_fu) (fun r_32 => some (r_32.1, r_32.2.1, r_32.2.2.1, r_32.2.2.2, vT_he_ng, vT_he_sl_n, fT_he_sl_c, vT_he_fl_n, fT_he_fl_c, vT_he_ro_n, fT_he_ro_c, vT_he_nt_n, fT_he_nt_c, vT_he_mk_n, fT_he_mk_c, vT_he_mo_n, fT_he_mo_c))) else (Option.bind (fm_X4_takeFrom vT_he_ng vT_io_kp_ng vT_he_sl_n vT_io_kp_sl_n fT_io_kp_sl_c fT_he_sl_c vT_he_fl_n vT_io_kp_fl_n fT_io_kp_fl_c fT_he_fl_c vT_he_ro_n vT_io_kp_ro_n fT_io_kp_ro_c fT_he_ro_c vT_he_nt_n vT_io_kp_nt_n fT_io_kp_nt_c fT_he_nt_c vT_he_mk_n vT_io_kp_mk_n fT_io_kp_mk_c fT_he_mk_c vT_he_mo_n vT_io_kp_mo_n fT_io_kp_mo_c fT_he_mo_c) (fun r_44 => some (1, vT_bo, vT_no, vT_fu, r_44.1, r_44.2.1, r_44.2.2.1, r_44.2.2.2.1, r_44.2.2.2.2.1, r_44.2.2.2.2.2.1, r_44.2.2.2.2.2.2.1, r_44.2.2.2.2.2.2.2.1, r_44.2.2.2.2.2.2.2.2.1, r_44.2.2.2.2.2.2.2.2.2.1, r_44.2.2.2.2.2.2.2.2.2.2.1, r_44.2.2.2.2.2.2.2.2.2.2.2.1, r_44.2.2.2.2.2.2.2.2.2.2.2.2))))))
set_option maxHeartbeats 4000000 in
set_option maxRecDepth 100000 in
theorem c_X7_from (l : Launch) (D : va_G) (cI cZ : ClassId) (sz : Nat) (AT AT_he AT_iz AT_io AT_tx AT_rd AT_fo AT_fi AT_iz_kp AT_he_sl AT_he_fl AT_he_ro AT_he_nt AT_he_mk AT_he_mo AT_iz_kp_sl AT_iz_kp_fl AT_iz_kp_ro AT_iz_kp_nt AT_iz_kp_mk AT_iz_kp_mo AT_he_sl_c AT_iz_kp_sl_c AT_he_fl_c AT_iz_kp_fl_c AT_he_ro_c AT_iz_kp_ro_c AT_he_nt_c AT_iz_kp_nt_c AT_he_mk_c AT_iz_kp_mk_c AT_he_mo_c AT_iz_kp_mo_c AT_io_kp AT_io_kp_sl AT_io_kp_fl AT_io_kp_ro AT_io_kp_nt AT_io_kp_mk AT_io_kp_mo AT_io_kp_sl_c AT_io_kp_fl_c AT_io_kp_ro_c AT_io_kp_nt_c AT_io_kp_mk_c AT_io_kp_mo_c : Nat) (vT_ab : Int32) (vT_be : Int32) (vT_bo : Int32) (vT_no : Int32) (vT_fu : Int32) (vT_iz_wk : Int32) (vT_he_ng : Int32) (vT_iz_kp_ng : Int32) (vT_he_sl_n : Int32) (vT_iz_kp_sl_n : Int32) (fT_iz_kp_sl_c : Nat → Int32) (fT_he_sl_c : Nat → Int32) (vT_he_fl_n : Int32) (vT_iz_kp_fl_n : Int32) (fT_iz_kp_fl_c : Nat → Int32) (fT_he_fl_c : Nat → Int32) (vT_he_ro_n : Int32) (vT_iz_kp_ro_n : Int32) (fT_iz_kp_ro_c : Nat → Int32) (fT_he_ro_c : Nat → Int32) (vT_he_nt_n : Int32) (vT_iz_kp_nt_n : Int32) (fT_iz_kp_nt_c : Nat → Int32) (fT_he_nt_c : Nat → Int32) (vT_he_mk_n : Int32) (vT_iz_kp_mk_n : Int32) (fT_iz_kp_mk_c : Nat → Int32) (fT_he_mk_c : Nat → Int32) (vT_he_mo_n : Int32) (vT_iz_kp_mo_n : Int32) (fT_iz_kp_mo_c : Nat → Int32) (fT_he_mo_c : Nat → Int32) (vT_io_wk : Int32) (vT_io_kp_ng : Int32) (vT_io_kp_sl_n : Int32) (fT_io_kp_sl_c : Nat → Int32) (vT_io_kp_fl_n : Int32) (fT_io_kp_fl_c : Nat → Int32) (vT_io_kp_ro_n : Int32) (fT_io_kp_ro_c : Nat → Int32) (vT_io_kp_nt_n : Int32) (fT_io_kp_nt_c : Nat → Int32) (vT_io_kp_mk_n : Int32) (fT_io_kp_mk_c : Nat → Int32) (vT_io_kp_mo_n : Int32) (fT_io_kp_mo_c : Nat → Int32) (p1 : Int32) (out : (Int32 × Int32 × Int32 × Int32 × Int32 × Int32 × (Nat → Int32) × Int32 × (Nat → Int32) × Int32 × (Nat → Int32) × Int32 × (Nat → Int32) × Int32 × (Nat → Int32) × Int32 × (Nat → Int32))) (hm : fm_X7_from p1 vT_bo vT_no vT_fu vT_iz_wk vT_he_ng vT_iz_kp_ng vT_he_sl_n vT_iz_kp_sl_n fT_iz_kp_sl_c fT_he_sl_c vT_he_fl_n vT_iz_kp_fl_n fT_iz_kp_fl_c fT_he_fl_c vT_he_ro_n vT_iz_kp_ro_n fT_iz_kp_ro_c fT_he_ro_c vT_he_nt_n vT_iz_kp_nt_n fT_iz_kp_nt_c fT_he_nt_c vT_he_mk_n vT_iz_kp_mk_n fT_iz_kp_mk_c fT_he_mk_c vT_he_mo_n vT_iz_kp_mo_n fT_iz_kp_mo_c fT_he_mo_c vT_io_wk vT_io_kp_ng vT_io_kp_sl_n fT_io_kp_sl_c vT_io_kp_fl_n fT_io_kp_fl_c vT_io_kp_ro_n fT_io_kp_ro_c vT_io_kp_nt_n fT_io_kp_nt_c vT_io_kp_mk_n fT_io_kp_mk_c vT_io_kp_mo_n fT_io_kp_mo_c = some out) : Met l yX7_from (Cond.code yX7_from cX7_from 3 (some .int) :: bg) { frames := 3, cells := 0, slots := 0, locals := 65 } (va_Pc [.ref AT, .int p1] (q_pre D cI cZ sz (wd_X7_from cI cZ AT AT_he AT_iz AT_io AT_tx AT_rd AT_fo AT_fi AT_iz_kp AT_he_sl AT_he_fl AT_he_ro AT_he_nt AT_he_mk AT_he_mo AT_iz_kp_sl AT_iz_kp_fl AT_iz_kp_ro AT_iz_kp_nt AT_iz_kp_mk AT_iz_kp_mo AT_he_sl_c AT_iz_kp_sl_c AT_he_fl_c AT_iz_kp_fl_c AT_he_ro_c AT_iz_kp_ro_c AT_he_nt_c AT_iz_kp_nt_c AT_he_mk_c AT_iz_kp_mk_c AT_he_mo_c AT_iz_kp_mo_c AT_io_kp AT_io_kp_sl AT_io_kp_fl AT_io_kp_ro AT_io_kp_nt AT_io_kp_mk AT_io_kp_mo AT_io_kp_sl_c AT_io_kp_fl_c AT_io_kp_ro_c AT_io_kp_nt_c AT_io_kp_mk_c AT_io_kp_mo_c vT_ab vT_be vT_bo vT_no vT_fu vT_iz_wk vT_he_ng vT_iz_kp_ng vT_he_sl_n vT_iz_kp_sl_n fT_iz_kp_sl_c fT_he_sl_c vT_he_fl_n vT_iz_kp_fl_n fT_iz_kp_fl_c fT_he_fl_c vT_he_ro_n vT_iz_kp_ro_n fT_iz_kp_ro_c fT_he_ro_c vT_he_nt_n vT_iz_kp_nt_n fT_iz_kp_nt_c fT_he_nt_c vT_he_mk_n vT_iz_kp_mk_n fT_iz_kp_mk_c fT_he_mk_c vT_he_mo_n vT_iz_kp_mo_n fT_iz_kp_mo_c fT_he_mo_c vT_io_wk vT_io_kp_ng vT_io_kp_sl_n fT_io_kp_sl_c vT_io_kp_fl_n fT_io_kp_fl_c vT_io_kp_ro_n fT_io_kp_ro_c vT_io_kp_nt_n fT_io_kp_nt_c vT_io_kp_mk_n fT_io_kp_mk_c vT_io_kp_mo_n fT_io_kp_mo_c))) (q_Qi D (wd_X7_from cI cZ AT AT_he AT_iz AT_io AT_tx AT_rd AT_fo AT_fi AT_iz_kp AT_he_sl AT_he_fl AT_he_ro AT_he_nt AT_he_mk AT_he_mo AT_iz_kp_sl AT_iz_kp_fl AT_iz_kp_ro AT_iz_kp_nt AT_iz_kp_mk AT_iz_kp_mo AT_he_sl_c AT_iz_kp_sl_c AT_he_fl_c AT_iz_kp_fl_c AT_he_ro_c AT_iz_kp_ro_c AT_he_nt_c AT_iz_kp_nt_c AT_he_mk_c AT_iz_kp_mk_c AT_he_mo_c AT_iz_kp_mo_c AT_io_kp AT_io_kp_sl AT_io_kp_fl AT_io_kp_ro AT_io_kp_nt AT_io_kp_mk AT_io_kp_mo AT_io_kp_sl_c AT_io_kp_fl_c AT_io_kp_ro_c AT_io_kp_nt_c AT_io_kp_mk_c AT_io_kp_mo_c vT_ab vT_be out.2.1 out.2.2.1 out.2.2.2.1 vT_iz_wk out.2.2.2.2.1 vT_iz_kp_ng out.2.2.2.2.2.1 vT_iz_kp_sl_n fT_iz_kp_sl_c out.2.2.2.2.2.2.1 out.2.2.2.2.2.2.2.1 vT_iz_kp_fl_n fT_iz_kp_fl_c out.2.2.2.2.2.2.2.2.1 out.2.2.2.2.2.2.2.2.2.1 vT_iz_kp_ro_n fT_iz_kp_ro_c out.2.2.2.2.2.2.2.2.2.2.1 out.2.2.2.2.2.2.2.2.2.2.2.1 vT_iz_kp_nt_n fT_iz_kp_nt_c out.2.2.2.2.2.2.2.2.2.2.2.2.1 out.2.2.2.2.2.2.2.2.2.2.2.2.2.1 vT_iz_kp_mk_n fT_iz_kp_mk_c out.2.2.2.2.2.2.2.2.2.2.2.2.2.2.1 out.2.2.2.2.2.2.2.2.2.2.2.2.2.2.2.1 vT_iz_kp_mo_n fT_iz_kp_mo_c out.2.2.2.2.2.2.2.2.2.2.2.2.2.2.2.2 vT_io_wk vT_io_kp_ng vT_io_kp_sl_n fT_io_kp_sl_c vT_io_kp_fl_n fT_io_kp_fl_c vT_io_kp_ro_n fT_io_kp_ro_c vT_io_kp_nt_n fT_io_kp_nt_c vT_io_kp_mk_n fT_io_kp_mk_c vT_io_kp_mo_n fT_io_kp_mo_c) out.1 (va_A (wd_X7_from cI cZ AT AT_he AT_iz AT_io AT_tx AT_rd AT_fo AT_fi AT_iz_kp AT_he_sl AT_he_fl AT_he_ro AT_he_nt AT_he_mk AT_he_mo AT_iz_kp_sl AT_iz_kp_fl AT_iz_kp_ro AT_iz_kp_nt AT_iz_kp_mk AT_iz_kp_mo AT_he_sl_c AT_iz_kp_sl_c AT_he_fl_c AT_iz_kp_fl_c AT_he_ro_c AT_iz_kp_ro_c AT_he_nt_c AT_iz_kp_nt_c AT_he_mk_c AT_iz_kp_mk_c AT_he_mo_c AT_iz_kp_mo_c AT_io_kp AT_io_kp_sl AT_io_kp_fl AT_io_kp_ro AT_io_kp_nt AT_io_kp_mk AT_io_kp_mo AT_io_kp_sl_c AT_io_kp_fl_c AT_io_kp_ro_c AT_io_kp_nt_c AT_io_kp_mk_c AT_io_kp_mo_c vT_ab vT_be vT_bo vT_no vT_fu vT_iz_wk vT_he_ng vT_iz_kp_ng vT_he_sl_n vT_iz_kp_sl_n fT_iz_kp_sl_c fT_he_sl_c vT_he_fl_n vT_iz_kp_fl_n fT_iz_kp_fl_c fT_he_fl_c vT_he_ro_n vT_iz_kp_ro_n fT_iz_kp_ro_c fT_he_ro_c vT_he_nt_n vT_iz_kp_nt_n fT_iz_kp_nt_c fT_he_nt_c vT_he_mk_n vT_iz_kp_mk_n fT_iz_kp_mk_c fT_he_mk_c vT_he_mo_n vT_iz_kp_mo_n fT_iz_kp_mo_c fT_he_mo_c vT_io_wk vT_io_kp_ng vT_io_kp_sl_n fT_io_kp_sl_c vT_io_kp_fl_n fT_io_kp_fl_c vT_io_kp_ro_n fT_io_kp_ro_c vT_io_kp_nt_n fT_io_kp_nt_c vT_io_kp_mk_n fT_io_kp_mk_c vT_io_kp_mo_n fT_io_kp_mo_c) sz)) 0 0 (va_A (wd_X7_from cI cZ AT AT_he AT_iz AT_io AT_tx AT_rd AT_fo AT_fi AT_iz_kp AT_he_sl AT_he_fl AT_he_ro AT_he_nt AT_he_mk AT_he_mo AT_iz_kp_sl AT_iz_kp_fl AT_iz_kp_ro AT_iz_kp_nt AT_iz_kp_mk AT_iz_kp_mo AT_he_sl_c AT_iz_kp_sl_c AT_he_fl_c AT_iz_kp_fl_c AT_he_ro_c AT_iz_kp_ro_c AT_he_nt_c AT_iz_kp_nt_c AT_he_mk_c AT_iz_kp_mk_c AT_he_mo_c AT_iz_kp_mo_c AT_io_kp AT_io_kp_sl AT_io_kp_fl AT_io_kp_ro AT_io_kp_nt AT_io_kp_mk AT_io_kp_mo AT_io_kp_sl_c AT_io_kp_fl_c AT_io_kp_ro_c AT_io_kp_nt_c AT_io_kp_mk_c AT_io_kp_mo_c vT_ab vT_be vT_bo vT_no vT_fu vT_iz_wk vT_he_ng vT_iz_kp_ng vT_he_sl_n vT_iz_kp_sl_n fT_iz_kp_sl_c fT_he_sl_c vT_he_fl_n vT_iz_kp_fl_n fT_iz_kp_fl_c fT_he_fl_c vT_he_ro_n vT_iz_kp_ro_n fT_iz_kp_ro_c fT_he_ro_c vT_he_nt_n vT_iz_kp_nt_n fT_iz_kp_nt_c fT_he_nt_c vT_he_mk_n vT_iz_kp_mk_n fT_iz_kp_mk_c fT_he_mk_c vT_he_mo_n vT_iz_kp_mo_n fT_iz_kp_mo_c fT_he_mo_c vT_io_wk vT_io_kp_ng vT_io_kp_sl_n fT_io_kp_sl_c vT_io_kp_fl_n fT_io_kp_fl_c vT_io_kp_ro_n fT_io_kp_ro_c vT_io_kp_nt_n fT_io_kp_nt_c vT_io_kp_mk_n fT_io_kp_mk_c vT_io_kp_mo_n fT_io_kp_mo_c) sz) := by
  refine q_met (fun A => q_Qi D (wd_X7_from cI cZ AT AT_he AT_iz AT_io AT_tx AT_rd AT_fo AT_fi AT_iz_kp AT_he_sl AT_he_fl AT_he_ro AT_he_nt AT_he_mk AT_he_mo AT_iz_kp_sl AT_iz_kp_fl AT_iz_kp_ro AT_iz_kp_nt AT_iz_kp_mk AT_iz_kp_mo AT_he_sl_c AT_iz_kp_sl_c AT_he_fl_c AT_iz_kp_fl_c AT_he_ro_c AT_iz_kp_ro_c AT_he_nt_c AT_iz_kp_nt_c AT_he_mk_c AT_iz_kp_mk_c AT_he_mo_c AT_iz_kp_mo_c AT_io_kp AT_io_kp_sl AT_io_kp_fl AT_io_kp_ro AT_io_kp_nt AT_io_kp_mk AT_io_kp_mo AT_io_kp_sl_c AT_io_kp_fl_c AT_io_kp_ro_c AT_io_kp_nt_c AT_io_kp_mk_c AT_io_kp_mo_c vT_ab vT_be out.2.1 out.2.2.1 out.2.2.2.1 vT_iz_wk out.2.2.2.2.1 vT_iz_kp_ng out.2.2.2.2.2.1 vT_iz_kp_sl_n fT_iz_kp_sl_c out.2.2.2.2.2.2.1 out.2.2.2.2.2.2.2.1 vT_iz_kp_fl_n fT_iz_kp_fl_c out.2.2.2.2.2.2.2.2.1 out.2.2.2.2.2.2.2.2.2.1 vT_iz_kp_ro_n fT_iz_kp_ro_c out.2.2.2.2.2.2.2.2.2.2.1 out.2.2.2.2.2.2.2.2.2.2.2.1 vT_iz_kp_nt_n fT_iz_kp_nt_c out.2.2.2.2.2.2.2.2.2.2.2.2.1 out.2.2.2.2.2.2.2.2.2.2.2.2.2.1 vT_iz_kp_mk_n fT_iz_kp_mk_c out.2.2.2.2.2.2.2.2.2.2.2.2.2.2.1 out.2.2.2.2.2.2.2.2.2.2.2.2.2.2.2.1 vT_iz_kp_mo_n fT_iz_kp_mo_c out.2.2.2.2.2.2.2.2.2.2.2.2.2.2.2.2 vT_io_wk vT_io_kp_ng vT_io_kp_sl_n fT_io_kp_sl_c vT_io_kp_fl_n fT_io_kp_fl_c vT_io_kp_ro_n fT_io_kp_ro_c vT_io_kp_nt_n fT_io_kp_nt_c vT_io_kp_mk_n fT_io_kp_mk_c vT_io_kp_mo_n fT_io_kp_mo_c) out.1 A) (by decide) (Nat.le_of_ble_eq_true rfl) ?_
  intro p e s m below meth c ls A hx hb hr hml hown hts hlocks _ hA hS hP hD hK hN hl
  have hown : s.vm.findClass RX7 = some m.cls := hown
  have hl : lv_has ls 3 [(0, .ref AT), (1, .int p1)] := hl
  unfold fm_X7_from at hm
  refine q_gen hS hP ?_
  intro H locs hP hS
  refine lv_iload_n hx hb dX7_from_0 rfl (lv_at hl 1 rfl) ?_
  refine lv_iconst (v := 0) hx hb dX7_from_1 (by decide) ?_
  refine lv_iconst (v := 1) hx hb dX7_from_2 (by decide) ?_
  obtain ⟨r_3, hc_3, hm⟩ := ob_s hm
  refine q_ci (q_rs (rest := []) ⟨hx, hb, hml, hown, hts⟩ hK hN hP hD (c_X7_within l D cI cZ H.size p1 0 1 r_3 hc_3) mb_X7_within wt_X7_within wl_X7_77 [] rfl rfl (Nat.le_of_ble_eq_true rfl) (Nat.le_of_ble_eq_true rfl) rfl hl.1 rfl (Nat.le_of_ble_eq_true rfl) ⟨Nat.le_refl 0, Nat.le_refl 0⟩ dX7_from_3) hP hD hS hA [] rfl rfl (fun H locs hP hD hS => ?_)
  have hP : va_P D vwCl (wd_X7_from cI cZ AT AT_he AT_iz AT_io AT_tx AT_rd AT_fo AT_fi AT_iz_kp AT_he_sl AT_he_fl AT_he_ro AT_he_nt AT_he_mk AT_he_mo AT_iz_kp_sl AT_iz_kp_fl AT_iz_kp_ro AT_iz_kp_nt AT_iz_kp_mk AT_iz_kp_mo AT_he_sl_c AT_iz_kp_sl_c AT_he_fl_c AT_iz_kp_fl_c AT_he_ro_c AT_iz_kp_ro_c AT_he_nt_c AT_iz_kp_nt_c AT_he_mk_c AT_iz_kp_mk_c AT_he_mo_c AT_iz_kp_mo_c AT_io_kp AT_io_kp_sl AT_io_kp_fl AT_io_kp_ro AT_io_kp_nt AT_io_kp_mk AT_io_kp_mo AT_io_kp_sl_c AT_io_kp_fl_c AT_io_kp_ro_c AT_io_kp_nt_c AT_io_kp_mk_c AT_io_kp_mo_c vT_ab vT_be vT_bo vT_no vT_fu vT_iz_wk vT_he_ng vT_iz_kp_ng vT_he_sl_n vT_iz_kp_sl_n fT_iz_kp_sl_c fT_he_sl_c vT_he_fl_n vT_iz_kp_fl_n fT_iz_kp_fl_c fT_he_fl_c vT_he_ro_n vT_iz_kp_ro_n fT_iz_kp_ro_c fT_he_ro_c vT_he_nt_n vT_iz_kp_nt_n fT_iz_kp_nt_c fT_he_nt_c vT_he_mk_n vT_iz_kp_mk_n fT_iz_kp_mk_c fT_he_mk_c vT_he_mo_n vT_iz_kp_mo_n fT_iz_kp_mo_c fT_he_mo_c vT_io_wk vT_io_kp_ng vT_io_kp_sl_n fT_io_kp_sl_c vT_io_kp_fl_n fT_io_kp_fl_c vT_io_kp_ro_n fT_io_kp_ro_c vT_io_kp_nt_n fT_io_kp_nt_c vT_io_kp_mk_n fT_io_kp_mk_c vT_io_kp_mo_n fT_io_kp_mo_c) H := hP
  have hD : va_D A (wd_X7_from cI cZ AT AT_he AT_iz AT_io AT_tx AT_rd AT_fo AT_fi AT_iz_kp AT_he_sl AT_he_fl AT_he_ro AT_he_nt AT_he_mk AT_he_mo AT_iz_kp_sl AT_iz_kp_fl AT_iz_kp_ro AT_iz_kp_nt AT_iz_kp_mk AT_iz_kp_mo AT_he_sl_c AT_iz_kp_sl_c AT_he_fl_c AT_iz_kp_fl_c AT_he_ro_c AT_iz_kp_ro_c AT_he_nt_c AT_iz_kp_nt_c AT_he_mk_c AT_iz_kp_mk_c AT_he_mo_c AT_iz_kp_mo_c AT_io_kp AT_io_kp_sl AT_io_kp_fl AT_io_kp_ro AT_io_kp_nt AT_io_kp_mk AT_io_kp_mo AT_io_kp_sl_c AT_io_kp_fl_c AT_io_kp_ro_c AT_io_kp_nt_c AT_io_kp_mk_c AT_io_kp_mo_c vT_ab vT_be vT_bo vT_no vT_fu vT_iz_wk vT_he_ng vT_iz_kp_ng vT_he_sl_n vT_iz_kp_sl_n fT_iz_kp_sl_c fT_he_sl_c vT_he_fl_n vT_iz_kp_fl_n fT_iz_kp_fl_c fT_he_fl_c vT_he_ro_n vT_iz_kp_ro_n fT_iz_kp_ro_c fT_he_ro_c vT_he_nt_n vT_iz_kp_nt_n fT_iz_kp_nt_c fT_he_nt_c vT_he_mk_n vT_iz_kp_mk_n fT_iz_kp_mk_c fT_he_mk_c vT_he_mo_n vT_iz_kp_mo_n fT_iz_kp_mo_c fT_he_mo_c vT_io_wk vT_io_kp_ng vT_io_kp_sl_n fT_io_kp_sl_c vT_io_kp_fl_n fT_io_kp_fl_c vT_io_kp_ro_n fT_io_kp_ro_c vT_io_kp_nt_n fT_io_kp_nt_c vT_io_kp_mk_n fT_io_kp_mk_c vT_io_kp_mo_n fT_io_kp_mo_c) := hD
  refine lv_if_ne (tgt := 16) hx hb dX7_from_6 (by decide) (fun c_6 => ?_) (fun c_6 => ?_)
  · have hm := it_n c_6 hm
    refine lv_aload_n hx hb dX7_from_16 rfl (lv_at hl 0 rfl) ?_
    refine lv_iload_n hx hb dX7_from_17 rfl (lv_at hl 1 rfl) ?_
    rcases Decidable.em (p1 = 0) with c_18 | c_18
    · have hm := it_s c_18 hm
      refine q_cr (q_rv (rest := []) ⟨hx, hb, hml, hown, hts⟩ hK hN hP hD (c_X7_imageAt l D cI cZ H.size AT AT_he AT_iz AT_io AT_tx AT_rd AT_fo AT_fi vT_ab vT_be vT_bo vT_no vT_fu p1 AT_iz (if_pos c_18)) mb_X7_imageAt mv_X7_imageAt wl_X7_232 [0] rfl rfl rfl (Nat.le_of_ble_eq_true rfl) (Nat.le_of_ble_eq_true rfl) rfl hl.1 rfl (Nat.le_of_ble_eq_true rfl) ⟨Nat.le_refl 0, Nat.le_refl 0⟩ dX7_from_18) hP hD hS hA [0] rfl rfl (fun H locs hP hD hS => ?_)
      have hP : va_P D vwCl (wd_X7_from cI cZ AT AT_he AT_iz AT_io AT_tx AT_rd AT_fo AT_fi AT_iz_kp AT_he_sl AT_he_fl AT_he_ro AT_he_nt AT_he_mk AT_he_mo AT_iz_kp_sl AT_iz_kp_fl AT_iz_kp_ro AT_iz_kp_nt AT_iz_kp_mk AT_iz_kp_mo AT_he_sl_c AT_iz_kp_sl_c AT_he_fl_c AT_iz_kp_fl_c AT_he_ro_c AT_iz_kp_ro_c AT_he_nt_c AT_iz_kp_nt_c AT_he_mk_c AT_iz_kp_mk_c AT_he_mo_c AT_iz_kp_mo_c AT_io_kp AT_io_kp_sl AT_io_kp_fl AT_io_kp_ro AT_io_kp_nt AT_io_kp_mk AT_io_kp_mo AT_io_kp_sl_c AT_io_kp_fl_c AT_io_kp_ro_c AT_io_kp_nt_c AT_io_kp_mk_c AT_io_kp_mo_c vT_ab vT_be vT_bo vT_no vT_fu vT_iz_wk vT_he_ng vT_iz_kp_ng vT_he_sl_n vT_iz_kp_sl_n fT_iz_kp_sl_c fT_he_sl_c vT_he_fl_n vT_iz_kp_fl_n fT_iz_kp_fl_c fT_he_fl_c vT_he_ro_n vT_iz_kp_ro_n fT_iz_kp_ro_c fT_he_ro_c vT_he_nt_n vT_iz_kp_nt_n fT_iz_kp_nt_c fT_he_nt_c vT_he_mk_n vT_iz_kp_mk_n fT_iz_kp_mk_c fT_he_mk_c vT_he_mo_n vT_iz_kp_mo_n fT_iz_kp_mo_c fT_he_mo_c vT_io_wk vT_io_kp_ng vT_io_kp_sl_n fT_io_kp_sl_c vT_io_kp_fl_n fT_io_kp_fl_c vT_io_kp_ro_n fT_io_kp_ro_c vT_io_kp_nt_n fT_io_kp_nt_c vT_io_kp_mk_n fT_io_kp_mk_c vT_io_kp_mo_n fT_io_kp_mo_c) H := hP
      have hD : va_D A (wd_X7_from cI cZ AT AT_he AT_iz AT_io AT_tx AT_rd AT_fo AT_fi AT_iz_kp AT_he_sl AT_he_fl AT_he_ro AT_he_nt AT_he_mk AT_he_mo AT_iz_kp_sl AT_iz_kp_fl AT_iz_kp_ro AT_iz_kp_nt AT_iz_kp_mk AT_iz_kp_mo AT_he_sl_c AT_iz_kp_sl_c AT_he_fl_c AT_iz_kp_fl_c AT_he_ro_c AT_iz_kp_ro_c AT_he_nt_c AT_iz_kp_nt_c AT_he_mk_c AT_iz_kp_mk_c AT_he_mo_c AT_iz_kp_mo_c AT_io_kp AT_io_kp_sl AT_io_kp_fl AT_io_kp_ro AT_io_kp_nt AT_io_kp_mk AT_io_kp_mo AT_io_kp_sl_c AT_io_kp_fl_c AT_io_kp_ro_c AT_io_kp_nt_c AT_io_kp_mk_c AT_io_kp_mo_c vT_ab vT_be vT_bo vT_no vT_fu vT_iz_wk vT_he_ng vT_iz_kp_ng vT_he_sl_n vT_iz_kp_sl_n fT_iz_kp_sl_c fT_he_sl_c vT_he_fl_n vT_iz_kp_fl_n fT_iz_kp_fl_c fT_he_fl_c vT_he_ro_n vT_iz_kp_ro_n fT_iz_kp_ro_c fT_he_ro_c vT_he_nt_n vT_iz_kp_nt_n fT_iz_kp_nt_c fT_he_nt_c vT_he_mk_n vT_iz_kp_mk_n fT_iz_kp_mk_c fT_he_mk_c vT_he_mo_n vT_iz_kp_mo_n fT_iz_kp_mo_c fT_he_mo_c vT_io_wk vT_io_kp_ng vT_io_kp_sl_n fT_io_kp_sl_c vT_io_kp_fl_n fT_io_kp_fl_c vT_io_kp_ro_n fT_io_kp_ro_c vT_io_kp_nt_n fT_io_kp_nt_c vT_io_kp_mk_n fT_io_kp_mk_c vT_io_kp_mo_n fT_io_kp_mo_c) := hD
      refine lv_astore_n (lv' := [(2, .ref AT_iz), (0, .ref AT), (1, .int p1)]) hx hb dX7_from_21 rfl hl (by decide) rfl (fun ls hl => ?_)
      refine lv_aload_n hx hb dX7_from_22 rfl (lv_at hl 0 rfl) ?_
      refine gf_X7_239 (v := .int vT_iz_wk) hx hb hts hown hK hN hP 1 rfl rfl dX7_from_23 ?_
      refine lv_if_ne (tgt := 36) hx hb dX7_from_26 (by decide) (fun c_26 => ?_) (fun c_26 => ?_)
      · have hm := it_n c_26 hm
        refine lv_aload_n hx hb dX7_from_36 rfl (lv_at hl 1 rfl) ?_
        refine gf_X7_17 (v := .ref AT_he) hx hb hts hown hK hN hP 0 rfl rfl dX7_from_37 ?_
        refine lv_aload_n hx hb dX7_from_40 rfl (lv_at hl 0 rfl) ?_
        refine gf_X7_243 (v := .ref AT_iz_kp) hx hb hts hown hK hN hP 1 rfl rfl dX7_from_41 ?_
        obtain ⟨r_44, hc_44, hm⟩ := ob_s hm
        refine q_cv (q_rv (rest := []) ⟨hx, hb, hml, hown, hts⟩ hK hN hP hD (c_X4_takeFrom l D cI cZ H.size AT_he AT_iz_kp AT_he_sl AT_he_fl AT_he_ro AT_he_nt AT_he_mk AT_he_mo AT_iz_kp_sl AT_iz_kp_fl AT_iz_kp_ro AT_iz_kp_nt AT_iz_kp_mk AT_iz_kp_mo AT_he_sl_c AT_iz_kp_sl_c AT_he_fl_c AT_iz_kp_fl_c AT_he_ro_c AT_iz_kp_ro_c AT_he_nt_c AT_iz_kp_nt_c AT_he_mk_c AT_iz_kp_mk_c AT_he_mo_c AT_iz_kp_mo_c vT_he_ng vT_iz_kp_ng vT_he_sl_n vT_iz_kp_sl_n fT_iz_kp_sl_c fT_he_sl_c vT_he_fl_n vT_iz_kp_fl_n fT_iz_kp_fl_c fT_he_fl_c vT_he_ro_n vT_iz_kp_ro_n fT_iz_kp_ro_c fT_he_ro_c vT_he_nt_n vT_iz_kp_nt_n fT_iz_kp_nt_c fT_he_nt_c vT_he_mk_n vT_iz_kp_mk_n fT_iz_kp_mk_c fT_he_mk_c vT_he_mo_n vT_iz_kp_mo_n fT_iz_kp_mo_c fT_he_mo_c r_44 hc_44) mb_X4_takeFrom mv_X4_takeFrom wl_X7_246 [2, 3, 4, 5, 6, 7, 8, 9, 10, 11, 12, 13, 14, 15, 16, 17, 18, 19, 20, 21, 22, 23, 24, 25, 26, 27] rfl rfl rfl (Nat.le_of_ble_eq_true rfl) (Nat.le_of_ble_eq_true rfl) rfl hl.1 rfl (Nat.le_of_ble_eq_true rfl) ⟨Nat.le_refl 0, Nat.le_refl 0⟩ dX7_from_44) hP hD hS hA [2, 3, 4, 5, 6, 7, 8, 9, 10, 11, 12, 13, 14, 15, 16, 17, 18, 19, 20, 21, 22, 23, 24, 25, 26, 27] rfl rfl (fun H locs hP hD hS => ?_)
        have hP : va_P D vwCl (wd_X7_from cI cZ AT AT_he AT_iz AT_io AT_tx AT_rd AT_fo AT_fi AT_iz_kp AT_he_sl AT_he_fl AT_he_ro AT_he_nt AT_he_mk AT_he_mo AT_iz_kp_sl AT_iz_kp_fl AT_iz_kp_ro AT_iz_kp_nt AT_iz_kp_mk AT_iz_kp_mo AT_he_sl_c AT_iz_kp_sl_c AT_he_fl_c AT_iz_kp_fl_c AT_he_ro_c AT_iz_kp_ro_c AT_he_nt_c AT_iz_kp_nt_c AT_he_mk_c AT_iz_kp_mk_c AT_he_mo_c AT_iz_kp_mo_c AT_io_kp AT_io_kp_sl AT_io_kp_fl AT_io_kp_ro AT_io_kp_nt AT_io_kp_mk AT_io_kp_mo AT_io_kp_sl_c AT_io_kp_fl_c AT_io_kp_ro_c AT_io_kp_nt_c AT_io_kp_mk_c AT_io_kp_mo_c vT_ab vT_be vT_bo vT_no vT_fu vT_iz_wk r_44.1 vT_iz_kp_ng r_44.2.1 vT_iz_kp_sl_n fT_iz_kp_sl_c r_44.2.2.1 r_44.2.2.2.1 vT_iz_kp_fl_n fT_iz_kp_fl_c r_44.2.2.2.2.1 r_44.2.2.2.2.2.1 vT_iz_kp_ro_n fT_iz_kp_ro_c r_44.2.2.2.2.2.2.1 r_44.2.2.2.2.2.2.2.1 vT_iz_kp_nt_n fT_iz_kp_nt_c r_44.2.2.2.2.2.2.2.2.1 r_44.2.2.2.2.2.2.2.2.2.1 vT_iz_kp_mk_n fT_iz_kp_mk_c r_44.2.2.2.2.2.2.2.2.2.2.1 r_44.2.2.2.2.2.2.2.2.2.2.2.1 vT_iz_kp_mo_n fT_iz_kp_mo_c r_44.2.2.2.2.2.2.2.2.2.2.2.2 vT_io_wk vT_io_kp_ng vT_io_kp_sl_n fT_io_kp_sl_c vT_io_kp_fl_n fT_io_kp_fl_c vT_io_kp_ro_n fT_io_kp_ro_c vT_io_kp_nt_n fT_io_kp_nt_c vT_io_kp_mk_n fT_io_kp_mk_c vT_io_kp_mo_n fT_io_kp_mo_c) H := hP
        have hD : va_D A (wd_X7_from cI cZ AT AT_he AT_iz AT_io AT_tx AT_rd AT_fo AT_fi AT_iz_kp AT_he_sl AT_he_fl AT_he_ro AT_he_nt AT_he_mk AT_he_mo AT_iz_kp_sl AT_iz_kp_fl AT_iz_kp_ro AT_iz_kp_nt AT_iz_kp_mk AT_iz_kp_mo AT_he_sl_c AT_iz_kp_sl_c AT_he_fl_c AT_iz_kp_fl_c AT_he_ro_c AT_iz_kp_ro_c AT_he_nt_c AT_iz_kp_nt_c AT_he_mk_c AT_iz_kp_mk_c AT_he_mo_c AT_iz_kp_mo_c AT_io_kp AT_io_kp_sl AT_io_kp_fl AT_io_kp_ro AT_io_kp_nt AT_io_kp_mk AT_io_kp_mo AT_io_kp_sl_c AT_io_kp_fl_c AT_io_kp_ro_c AT_io_kp_nt_c AT_io_kp_mk_c AT_io_kp_mo_c vT_ab vT_be vT_bo vT_no vT_fu vT_iz_wk r_44.1 vT_iz_kp_ng r_44.2.1 vT_iz_kp_sl_n fT_iz_kp_sl_c r_44.2.2.1 r_44.2.2.2.1 vT_iz_kp_fl_n fT_iz_kp_fl_c r_44.2.2.2.2.1 r_44.2.2.2.2.2.1 vT_iz_kp_ro_n fT_iz_kp_ro_c r_44.2.2.2.2.2.2.1 r_44.2.2.2.2.2.2.2.1 vT_iz_kp_nt_n fT_iz_kp_nt_c r_44.2.2.2.2.2.2.2.2.1 r_44.2.2.2.2.2.2.2.2.2.1 vT_iz_kp_mk_n fT_iz_kp_mk_c r_44.2.2.2.2.2.2.2.2.2.2.1 r_44.2.2.2.2.2.2.2.2.2.2.2.1 vT_iz_kp_mo_n fT_iz_kp_mo_c r_44.2.2.2.2.2.2.2.2.2.2.2.2 vT_io_wk vT_io_kp_ng vT_io_kp_sl_n fT_io_kp_sl_c vT_io_kp_fl_n fT_io_kp_fl_c vT_io_kp_ro_n fT_io_kp_ro_c vT_io_kp_nt_n fT_io_kp_nt_c vT_io_kp_mk_n fT_io_kp_mk_c vT_io_kp_mo_n fT_io_kp_mo_c) := hD
        refine lv_iconst (v := 1) hx hb dX7_from_47 (by decide) ?_
        have hm := Option.some.inj hm
        subst hm
        exact q_iret (v := 1) hx hb hr hlocks hP hS dX7_from_48
      · have hm := it_s c_26 hm
        refine lv_aload_n hx hb dX7_from_29 rfl (lv_at hl 1 rfl) ?_
        refine lv_bipush (v := (-3)) hx hb dX7_from_30 (by decide) ?_
        obtain ⟨r_32, hc_32, hm⟩ := ob_s hm
        refine q_ci (q_rv (rest := []) ⟨hx, hb, hml, hown, hts⟩ hK hN hP hD (c_X7_refused l D cI cZ H.size AT AT_he AT_iz AT_io AT_tx AT_rd AT_fo AT_fi vT_ab vT_be vT_bo vT_no vT_fu (-3) r_32 hc_32) mb_X7_refused mv_X7_refused wl_X7_81 [0] rfl rfl rfl (Nat.le_of_ble_eq_true rfl) (Nat.le_of_ble_eq_true rfl) rfl hl.1 rfl (Nat.le_of_ble_eq_true rfl) ⟨Nat.le_refl 0, Nat.le_refl 0⟩ dX7_from_32) hP hD hS hA [0] rfl rfl (fun H locs hP hD hS => ?_)
        have hP : va_P D vwCl (wd_X7_from cI cZ AT AT_he AT_iz AT_io AT_tx AT_rd AT_fo AT_fi AT_iz_kp AT_he_sl AT_he_fl AT_he_ro AT_he_nt AT_he_mk AT_he_mo AT_iz_kp_sl AT_iz_kp_fl AT_iz_kp_ro AT_iz_kp_nt AT_iz_kp_mk AT_iz_kp_mo AT_he_sl_c AT_iz_kp_sl_c AT_he_fl_c AT_iz_kp_fl_c AT_he_ro_c AT_iz_kp_ro_c AT_he_nt_c AT_iz_kp_nt_c AT_he_mk_c AT_iz_kp_mk_c AT_he_mo_c AT_iz_kp_mo_c AT_io_kp AT_io_kp_sl AT_io_kp_fl AT_io_kp_ro AT_io_kp_nt AT_io_kp_mk AT_io_kp_mo AT_io_kp_sl_c AT_io_kp_fl_c AT_io_kp_ro_c AT_io_kp_nt_c AT_io_kp_mk_c AT_io_kp_mo_c vT_ab vT_be r_32.2.1 r_32.2.2.1 r_32.2.2.2 vT_iz_wk vT_he_ng vT_iz_kp_ng vT_he_sl_n vT_iz_kp_sl_n fT_iz_kp_sl_c fT_he_sl_c vT_he_fl_n vT_iz_kp_fl_n fT_iz_kp_fl_c fT_he_fl_c vT_he_ro_n vT_iz_kp_ro_n fT_iz_kp_ro_c fT_he_ro_c vT_he_nt_n vT_iz_kp_nt_n fT_iz_kp_nt_c fT_he_nt_c vT_he_mk_n vT_iz_kp_mk_n fT_iz_kp_mk_c fT_he_mk_c vT_he_mo_n vT_iz_kp_mo_n fT_iz_kp_mo_c fT_he_mo_c vT_io_wk vT_io_kp_ng vT_io_kp_sl_n fT_io_kp_sl_c vT_io_kp_fl_n fT_io_kp_fl_c vT_io_kp_ro_n fT_io_kp_ro_c vT_io_kp_nt_n fT_io_kp_nt_c vT_io_kp_mk_n fT_io_kp_mk_c vT_io_kp_mo_n fT_io_kp_mo_c) H := hP
        have hD : va_D A (wd_X7_from cI cZ AT AT_he AT_iz AT_io AT_tx AT_rd AT_fo AT_fi AT_iz_kp AT_he_sl AT_he_fl AT_he_ro AT_he_nt AT_he_mk AT_he_mo AT_iz_kp_sl AT_iz_kp_fl AT_iz_kp_ro AT_iz_kp_nt AT_iz_kp_mk AT_iz_kp_mo AT_he_sl_c AT_iz_kp_sl_c AT_he_fl_c AT_iz_kp_fl_c AT_he_ro_c AT_iz_kp_ro_c AT_he_nt_c AT_iz_kp_nt_c AT_he_mk_c AT_iz_kp_mk_c AT_he_mo_c AT_iz_kp_mo_c AT_io_kp AT_io_kp_sl AT_io_kp_fl AT_io_kp_ro AT_io_kp_nt AT_io_kp_mk AT_io_kp_mo AT_io_kp_sl_c AT_io_kp_fl_c AT_io_kp_ro_c AT_io_kp_nt_c AT_io_kp_mk_c AT_io_kp_mo_c vT_ab vT_be r_32.2.1 r_32.2.2.1 r_32.2.2.2 vT_iz_wk vT_he_ng vT_iz_kp_ng vT_he_sl_n vT_iz_kp_sl_n fT_iz_kp_sl_c fT_he_sl_c vT_he_fl_n vT_iz_kp_fl_n fT_iz_kp_fl_c fT_he_fl_c vT_he_ro_n vT_iz_kp_ro_n fT_iz_kp_ro_c fT_he_ro_c vT_he_nt_n vT_iz_kp_nt_n fT_iz_kp_nt_c fT_he_nt_c vT_he_mk_n vT_iz_kp_mk_n fT_iz_kp_mk_c fT_he_mk_c vT_he_mo_n vT_iz_kp_mo_n fT_iz_kp_mo_c fT_he_mo_c vT_io_wk vT_io_kp_ng vT_io_kp_sl_n fT_io_kp_sl_c vT_io_kp_fl_n fT_io_kp_fl_c vT_io_kp_ro_n fT_io_kp_ro_c vT_io_kp_nt_n fT_io_kp_nt_c vT_io_kp_mk_n fT_io_kp_mk_c vT_io_kp_mo_n fT_io_kp_mo_c) := hD
        have hm := Option.some.inj hm
        subst hm
        exact q_iret (v := r_32.1) hx hb hr hlocks hP hS dX7_from_35
    · have hm := it_n c_18 hm
      refine q_cr (q_rv (rest := []) ⟨hx, hb, hml, hown, hts⟩ hK hN hP hD (c_X7_imageAt l D cI cZ H.size AT AT_he AT_iz AT_io AT_tx AT_rd AT_fo AT_fi vT_ab vT_be vT_bo vT_no vT_fu p1 AT_io (if_neg c_18)) mb_X7_imageAt mv_X7_imageAt wl_X7_232 [0] rfl rfl rfl (Nat.le_of_ble_eq_true rfl) (Nat.le_of_ble_eq_true rfl) rfl hl.1 rfl (Nat.le_of_ble_eq_true rfl) ⟨Nat.le_refl 0, Nat.le_refl 0⟩ dX7_from_18) hP hD hS hA [0] rfl rfl (fun H locs hP hD hS => ?_)
      have hP : va_P D vwCl (wd_X7_from cI cZ AT AT_he AT_iz AT_io AT_tx AT_rd AT_fo AT_fi AT_iz_kp AT_he_sl AT_he_fl AT_he_ro AT_he_nt AT_he_mk AT_he_mo AT_iz_kp_sl AT_iz_kp_fl AT_iz_kp_ro AT_iz_kp_nt AT_iz_kp_mk AT_iz_kp_mo AT_he_sl_c AT_iz_kp_sl_c AT_he_fl_c AT_iz_kp_fl_c AT_he_ro_c AT_iz_kp_ro_c AT_he_nt_c AT_iz_kp_nt_c AT_he_mk_c AT_iz_kp_mk_c AT_he_mo_c AT_iz_kp_mo_c AT_io_kp AT_io_kp_sl AT_io_kp_fl AT_io_kp_ro AT_io_kp_nt AT_io_kp_mk AT_io_kp_mo AT_io_kp_sl_c AT_io_kp_fl_c AT_io_kp_ro_c AT_io_kp_nt_c AT_io_kp_mk_c AT_io_kp_mo_c vT_ab vT_be vT_bo vT_no vT_fu vT_iz_wk vT_he_ng vT_iz_kp_ng vT_he_sl_n vT_iz_kp_sl_n fT_iz_kp_sl_c fT_he_sl_c vT_he_fl_n vT_iz_kp_fl_n fT_iz_kp_fl_c fT_he_fl_c vT_he_ro_n vT_iz_kp_ro_n fT_iz_kp_ro_c fT_he_ro_c vT_he_nt_n vT_iz_kp_nt_n fT_iz_kp_nt_c fT_he_nt_c vT_he_mk_n vT_iz_kp_mk_n fT_iz_kp_mk_c fT_he_mk_c vT_he_mo_n vT_iz_kp_mo_n fT_iz_kp_mo_c fT_he_mo_c vT_io_wk vT_io_kp_ng vT_io_kp_sl_n fT_io_kp_sl_c vT_io_kp_fl_n fT_io_kp_fl_c vT_io_kp_ro_n fT_io_kp_ro_c vT_io_kp_nt_n fT_io_kp_nt_c vT_io_kp_mk_n fT_io_kp_mk_c vT_io_kp_mo_n fT_io_kp_mo_c) H := hP
      have hD : va_D A (wd_X7_from cI cZ AT AT_he AT_iz AT_io AT_tx AT_rd AT_fo AT_fi AT_iz_kp AT_he_sl AT_he_fl AT_he_ro AT_he_nt AT_he_mk AT_he_mo AT_iz_kp_sl AT_iz_kp_fl AT_iz_kp_ro AT_iz_kp_nt AT_iz_kp_mk AT_iz_kp_mo AT_he_sl_c AT_iz_kp_sl_c AT_he_fl_c AT_iz_kp_fl_c AT_he_ro_c AT_iz_kp_ro_c AT_he_nt_c AT_iz_kp_nt_c AT_he_mk_c AT_iz_kp_mk_c AT_he_mo_c AT_iz_kp_mo_c AT_io_kp AT_io_kp_sl AT_io_kp_fl AT_io_kp_ro AT_io_kp_nt AT_io_kp_mk AT_io_kp_mo AT_io_kp_sl_c AT_io_kp_fl_c AT_io_kp_ro_c AT_io_kp_nt_c AT_io_kp_mk_c AT_io_kp_mo_c vT_ab vT_be vT_bo vT_no vT_fu vT_iz_wk vT_he_ng vT_iz_kp_ng vT_he_sl_n vT_iz_kp_sl_n fT_iz_kp_sl_c fT_he_sl_c vT_he_fl_n vT_iz_kp_fl_n fT_iz_kp_fl_c fT_he_fl_c vT_he_ro_n vT_iz_kp_ro_n fT_iz_kp_ro_c fT_he_ro_c vT_he_nt_n vT_iz_kp_nt_n fT_iz_kp_nt_c fT_he_nt_c vT_he_mk_n vT_iz_kp_mk_n fT_iz_kp_mk_c fT_he_mk_c vT_he_mo_n vT_iz_kp_mo_n fT_iz_kp_mo_c fT_he_mo_c vT_io_wk vT_io_kp_ng vT_io_kp_sl_n fT_io_kp_sl_c vT_io_kp_fl_n fT_io_kp_fl_c vT_io_kp_ro_n fT_io_kp_ro_c vT_io_kp_nt_n fT_io_kp_nt_c vT_io_kp_mk_n fT_io_kp_mk_c vT_io_kp_mo_n fT_io_kp_mo_c) := hD
      refine lv_astore_n (lv' := [(2, .ref AT_io), (0, .ref AT), (1, .int p1)]) hx hb dX7_from_21 rfl hl (by decide) rfl (fun ls hl => ?_)
      refine lv_aload_n hx hb dX7_from_22 rfl (lv_at hl 0 rfl) ?_
      refine gf_X7_239 (v := .int vT_io_wk) hx hb hts hown hK hN hP 28 rfl rfl dX7_from_23 ?_
      refine lv_if_ne (tgt := 36) hx hb dX7_from_26 (by decide) (fun c_26 => ?_) (fun c_26 => ?_)
      · have hm := it_n c_26 hm
        refine lv_aload_n hx hb dX7_from_36 rfl (lv_at hl 1 rfl) ?_
        refine gf_X7_17 (v := .ref AT_he) hx hb hts hown hK hN hP 0 rfl rfl dX7_from_37 ?_
        refine lv_aload_n hx hb dX7_from_40 rfl (lv_at hl 0 rfl) ?_
        refine gf_X7_243 (v := .ref AT_io_kp) hx hb hts hown hK hN hP 28 rfl rfl dX7_from_41 ?_
        obtain ⟨r_44, hc_44, hm⟩ := ob_s hm
        refine q_cv (q_rv (rest := []) ⟨hx, hb, hml, hown, hts⟩ hK hN hP hD (c_X4_takeFrom l D cI cZ H.size AT_he AT_io_kp AT_he_sl AT_he_fl AT_he_ro AT_he_nt AT_he_mk AT_he_mo AT_io_kp_sl AT_io_kp_fl AT_io_kp_ro AT_io_kp_nt AT_io_kp_mk AT_io_kp_mo AT_he_sl_c AT_io_kp_sl_c AT_he_fl_c AT_io_kp_fl_c AT_he_ro_c AT_io_kp_ro_c AT_he_nt_c AT_io_kp_nt_c AT_he_mk_c AT_io_kp_mk_c AT_he_mo_c AT_io_kp_mo_c vT_he_ng vT_io_kp_ng vT_he_sl_n vT_io_kp_sl_n fT_io_kp_sl_c fT_he_sl_c vT_he_fl_n vT_io_kp_fl_n fT_io_kp_fl_c fT_he_fl_c vT_he_ro_n vT_io_kp_ro_n fT_io_kp_ro_c fT_he_ro_c vT_he_nt_n vT_io_kp_nt_n fT_io_kp_nt_c fT_he_nt_c vT_he_mk_n vT_io_kp_mk_n fT_io_kp_mk_c fT_he_mk_c vT_he_mo_n vT_io_kp_mo_n fT_io_kp_mo_c fT_he_mo_c r_44 hc_44) mb_X4_takeFrom mv_X4_takeFrom wl_X7_246 [2, 29, 4, 30, 31, 7, 8, 32, 33, 11, 12, 34, 35, 15, 16, 36, 37, 19, 20, 38, 39, 23, 24, 40, 41, 27] rfl rfl rfl (Nat.le_of_ble_eq_true rfl) (Nat.le_of_ble_eq_true rfl) rfl hl.1 rfl (Nat.le_of_ble_eq_true rfl) ⟨Nat.le_refl 0, Nat.le_refl 0⟩ dX7_from_44) hP hD hS hA [2, 29, 4, 30, 31, 7, 8, 32, 33, 11, 12, 34, 35, 15, 16, 36, 37, 19, 20, 38, 39, 23, 24, 40, 41, 27] rfl rfl (fun H locs hP hD hS => ?_)
        have hP : va_P D vwCl (wd_X7_from cI cZ AT AT_he AT_iz AT_io AT_tx AT_rd AT_fo AT_fi AT_iz_kp AT_he_sl AT_he_fl AT_he_ro AT_he_nt AT_he_mk AT_he_mo AT_iz_kp_sl AT_iz_kp_fl AT_iz_kp_ro AT_iz_kp_nt AT_iz_kp_mk AT_iz_kp_mo AT_he_sl_c AT_iz_kp_sl_c AT_he_fl_c AT_iz_kp_fl_c AT_he_ro_c AT_iz_kp_ro_c AT_he_nt_c AT_iz_kp_nt_c AT_he_mk_c AT_iz_kp_mk_c AT_he_mo_c AT_iz_kp_mo_c AT_io_kp AT_io_kp_sl AT_io_kp_fl AT_io_kp_ro AT_io_kp_nt AT_io_kp_mk AT_io_kp_mo AT_io_kp_sl_c AT_io_kp_fl_c AT_io_kp_ro_c AT_io_kp_nt_c AT_io_kp_mk_c AT_io_kp_mo_c vT_ab vT_be vT_bo vT_no vT_fu vT_iz_wk r_44.1 vT_iz_kp_ng r_44.2.1 vT_iz_kp_sl_n fT_iz_kp_sl_c r_44.2.2.1 r_44.2.2.2.1 vT_iz_kp_fl_n fT_iz_kp_fl_c r_44.2.2.2.2.1 r_44.2.2.2.2.2.1 vT_iz_kp_ro_n fT_iz_kp_ro_c r_44.2.2.2.2.2.2.1 r_44.2.2.2.2.2.2.2.1 vT_iz_kp_nt_n fT_iz_kp_nt_c r_44.2.2.2.2.2.2.2.2.1 r_44.2.2.2.2.2.2.2.2.2.1 vT_iz_kp_mk_n fT_iz_kp_mk_c r_44.2.2.2.2.2.2.2.2.2.2.1 r_44.2.2.2.2.2.2.2.2.2.2.2.1 vT_iz_kp_mo_n fT_iz_kp_mo_c r_44.2.2.2.2.2.2.2.2.2.2.2.2 vT_io_wk vT_io_kp_ng vT_io_kp_sl_n fT_io_kp_sl_c vT_io_kp_fl_n fT_io_kp_fl_c vT_io_kp_ro_n fT_io_kp_ro_c vT_io_kp_nt_n fT_io_kp_nt_c vT_io_kp_mk_n fT_io_kp_mk_c vT_io_kp_mo_n fT_io_kp_mo_c) H := hP
        have hD : va_D A (wd_X7_from cI cZ AT AT_he AT_iz AT_io AT_tx AT_rd AT_fo AT_fi AT_iz_kp AT_he_sl AT_he_fl AT_he_ro AT_he_nt AT_he_mk AT_he_mo AT_iz_kp_sl AT_iz_kp_fl AT_iz_kp_ro AT_iz_kp_nt AT_iz_kp_mk AT_iz_kp_mo AT_he_sl_c AT_iz_kp_sl_c AT_he_fl_c AT_iz_kp_fl_c AT_he_ro_c AT_iz_kp_ro_c AT_he_nt_c AT_iz_kp_nt_c AT_he_mk_c AT_iz_kp_mk_c AT_he_mo_c AT_iz_kp_mo_c AT_io_kp AT_io_kp_sl AT_io_kp_fl AT_io_kp_ro AT_io_kp_nt AT_io_kp_mk AT_io_kp_mo AT_io_kp_sl_c AT_io_kp_fl_c AT_io_kp_ro_c AT_io_kp_nt_c AT_io_kp_mk_c AT_io_kp_mo_c vT_ab vT_be vT_bo vT_no vT_fu vT_iz_wk r_44.1 vT_iz_kp_ng r_44.2.1 vT_iz_kp_sl_n fT_iz_kp_sl_c r_44.2.2.1 r_44.2.2.2.1 vT_iz_kp_fl_n fT_iz_kp_fl_c r_44.2.2.2.2.1 r_44.2.2.2.2.2.1 vT_iz_kp_ro_n fT_iz_kp_ro_c r_44.2.2.2.2.2.2.1 r_44.2.2.2.2.2.2.2.1 vT_iz_kp_nt_n fT_iz_kp_nt_c r_44.2.2.2.2.2.2.2.2.1 r_44.2.2.2.2.2.2.2.2.2.1 vT_iz_kp_mk_n fT_iz_kp_mk_c r_44.2.2.2.2.2.2.2.2.2.2.1 r_44.2.2.2.2.2.2.2.2.2.2.2.1 vT_iz_kp_mo_n fT_iz_kp_mo_c r_44.2.2.2.2.2.2.2.2.2.2.2.2 vT_io_wk vT_io_kp_ng vT_io_kp_sl_n fT_io_kp_sl_c vT_io_kp_fl_n fT_io_kp_fl_c vT_io_kp_ro_n fT_io_kp_ro_c vT_io_kp_nt_n fT_io_kp_nt_c vT_io_kp_mk_n fT_io_kp_mk_c vT_io_kp_mo_n fT_io_kp_mo_c) := hD
        refine lv_iconst (v := 1) hx hb dX7_from_47 (by decide) ?_
        have hm := Option.some.inj hm
        subst hm
        exact q_iret (v := 1) hx hb hr hlocks hP hS dX7_from_48
      · have hm := it_s c_26 hm
        refine lv_aload_n hx hb dX7_from_29 rfl (lv_at hl 1 rfl) ?_
        refine lv_bipush (v := (-3)) hx hb dX7_from_30 (by decide) ?_
        obtain ⟨r_32, hc_32, hm⟩ := ob_s hm
        refine q_ci (q_rv (rest := []) ⟨hx, hb, hml, hown, hts⟩ hK hN hP hD (c_X7_refused l D cI cZ H.size AT AT_he AT_iz AT_io AT_tx AT_rd AT_fo AT_fi vT_ab vT_be vT_bo vT_no vT_fu (-3) r_32 hc_32) mb_X7_refused mv_X7_refused wl_X7_81 [0] rfl rfl rfl (Nat.le_of_ble_eq_true rfl) (Nat.le_of_ble_eq_true rfl) rfl hl.1 rfl (Nat.le_of_ble_eq_true rfl) ⟨Nat.le_refl 0, Nat.le_refl 0⟩ dX7_from_32) hP hD hS hA [0] rfl rfl (fun H locs hP hD hS => ?_)
        have hP : va_P D vwCl (wd_X7_from cI cZ AT AT_he AT_iz AT_io AT_tx AT_rd AT_fo AT_fi AT_iz_kp AT_he_sl AT_he_fl AT_he_ro AT_he_nt AT_he_mk AT_he_mo AT_iz_kp_sl AT_iz_kp_fl AT_iz_kp_ro AT_iz_kp_nt AT_iz_kp_mk AT_iz_kp_mo AT_he_sl_c AT_iz_kp_sl_c AT_he_fl_c AT_iz_kp_fl_c AT_he_ro_c AT_iz_kp_ro_c AT_he_nt_c AT_iz_kp_nt_c AT_he_mk_c AT_iz_kp_mk_c AT_he_mo_c AT_iz_kp_mo_c AT_io_kp AT_io_kp_sl AT_io_kp_fl AT_io_kp_ro AT_io_kp_nt AT_io_kp_mk AT_io_kp_mo AT_io_kp_sl_c AT_io_kp_fl_c AT_io_kp_ro_c AT_io_kp_nt_c AT_io_kp_mk_c AT_io_kp_mo_c vT_ab vT_be r_32.2.1 r_32.2.2.1 r_32.2.2.2 vT_iz_wk vT_he_ng vT_iz_kp_ng vT_he_sl_n vT_iz_kp_sl_n fT_iz_kp_sl_c fT_he_sl_c vT_he_fl_n vT_iz_kp_fl_n fT_iz_kp_fl_c fT_he_fl_c vT_he_ro_n vT_iz_kp_ro_n fT_iz_kp_ro_c fT_he_ro_c vT_he_nt_n vT_iz_kp_nt_n fT_iz_kp_nt_c fT_he_nt_c vT_he_mk_n vT_iz_kp_mk_n fT_iz_kp_mk_c fT_he_mk_c vT_he_mo_n vT_iz_kp_mo_n fT_iz_kp_mo_c fT_he_mo_c vT_io_wk vT_io_kp_ng vT_io_kp_sl_n fT_io_kp_sl_c vT_io_kp_fl_n fT_io_kp_fl_c vT_io_kp_ro_n fT_io_kp_ro_c vT_io_kp_nt_n fT_io_kp_nt_c vT_io_kp_mk_n fT_io_kp_mk_c vT_io_kp_mo_n fT_io_kp_mo_c) H := hP
        have hD : va_D A (wd_X7_from cI cZ AT AT_he AT_iz AT_io AT_tx AT_rd AT_fo AT_fi AT_iz_kp AT_he_sl AT_he_fl AT_he_ro AT_he_nt AT_he_mk AT_he_mo AT_iz_kp_sl AT_iz_kp_fl AT_iz_kp_ro AT_iz_kp_nt AT_iz_kp_mk AT_iz_kp_mo AT_he_sl_c AT_iz_kp_sl_c AT_he_fl_c AT_iz_kp_fl_c AT_he_ro_c AT_iz_kp_ro_c AT_he_nt_c AT_iz_kp_nt_c AT_he_mk_c AT_iz_kp_mk_c AT_he_mo_c AT_iz_kp_mo_c AT_io_kp AT_io_kp_sl AT_io_kp_fl AT_io_kp_ro AT_io_kp_nt AT_io_kp_mk AT_io_kp_mo AT_io_kp_sl_c AT_io_kp_fl_c AT_io_kp_ro_c AT_io_kp_nt_c AT_io_kp_mk_c AT_io_kp_mo_c vT_ab vT_be r_32.2.1 r_32.2.2.1 r_32.2.2.2 vT_iz_wk vT_he_ng vT_iz_kp_ng vT_he_sl_n vT_iz_kp_sl_n fT_iz_kp_sl_c fT_he_sl_c vT_he_fl_n vT_iz_kp_fl_n fT_iz_kp_fl_c fT_he_fl_c vT_he_ro_n vT_iz_kp_ro_n fT_iz_kp_ro_c fT_he_ro_c vT_he_nt_n vT_iz_kp_nt_n fT_iz_kp_nt_c fT_he_nt_c vT_he_mk_n vT_iz_kp_mk_n fT_iz_kp_mk_c fT_he_mk_c vT_he_mo_n vT_iz_kp_mo_n fT_iz_kp_mo_c fT_he_mo_c vT_io_wk vT_io_kp_ng vT_io_kp_sl_n fT_io_kp_sl_c vT_io_kp_fl_n fT_io_kp_fl_c vT_io_kp_ro_n fT_io_kp_ro_c vT_io_kp_nt_n fT_io_kp_nt_c vT_io_kp_mk_n fT_io_kp_mk_c vT_io_kp_mo_n fT_io_kp_mo_c) := hD
        have hm := Option.some.inj hm
        subst hm
        exact q_iret (v := r_32.1) hx hb hr hlocks hP hS dX7_from_35
  · have hm := it_s c_6 hm
    refine lv_aload_n hx hb dX7_from_9 rfl (lv_at hl 0 rfl) ?_
    refine lv_bipush (v := (-2)) hx hb dX7_from_10 (by decide) ?_
    obtain ⟨r_12, hc_12, hm⟩ := ob_s hm
    refine q_ci (q_rv (rest := []) ⟨hx, hb, hml, hown, hts⟩ hK hN hP hD (c_X7_refused l D cI cZ H.size AT AT_he AT_iz AT_io AT_tx AT_rd AT_fo AT_fi vT_ab vT_be vT_bo vT_no vT_fu (-2) r_12 hc_12) mb_X7_refused mv_X7_refused wl_X7_81 [0] rfl rfl rfl (Nat.le_of_ble_eq_true rfl) (Nat.le_of_ble_eq_true rfl) rfl hl.1 rfl (Nat.le_of_ble_eq_true rfl) ⟨Nat.le_refl 0, Nat.le_refl 0⟩ dX7_from_12) hP hD hS hA [0] rfl rfl (fun H locs hP hD hS => ?_)
    have hP : va_P D vwCl (wd_X7_from cI cZ AT AT_he AT_iz AT_io AT_tx AT_rd AT_fo AT_fi AT_iz_kp AT_he_sl AT_he_fl AT_he_ro AT_he_nt AT_he_mk AT_he_mo AT_iz_kp_sl AT_iz_kp_fl AT_iz_kp_ro AT_iz_kp_nt AT_iz_kp_mk AT_iz_kp_mo AT_he_sl_c AT_iz_kp_sl_c AT_he_fl_c AT_iz_kp_fl_c AT_he_ro_c AT_iz_kp_ro_c AT_he_nt_c AT_iz_kp_nt_c AT_he_mk_c AT_iz_kp_mk_c AT_he_mo_c AT_iz_kp_mo_c AT_io_kp AT_io_kp_sl AT_io_kp_fl AT_io_kp_ro AT_io_kp_nt AT_io_kp_mk AT_io_kp_mo AT_io_kp_sl_c AT_io_kp_fl_c AT_io_kp_ro_c AT_io_kp_nt_c AT_io_kp_mk_c AT_io_kp_mo_c vT_ab vT_be r_12.2.1 r_12.2.2.1 r_12.2.2.2 vT_iz_wk vT_he_ng vT_iz_kp_ng vT_he_sl_n vT_iz_kp_sl_n fT_iz_kp_sl_c fT_he_sl_c vT_he_fl_n vT_iz_kp_fl_n fT_iz_kp_fl_c fT_he_fl_c vT_he_ro_n vT_iz_kp_ro_n fT_iz_kp_ro_c fT_he_ro_c vT_he_nt_n vT_iz_kp_nt_n fT_iz_kp_nt_c fT_he_nt_c vT_he_mk_n vT_iz_kp_mk_n fT_iz_kp_mk_c fT_he_mk_c vT_he_mo_n vT_iz_kp_mo_n fT_iz_kp_mo_c fT_he_mo_c vT_io_wk vT_io_kp_ng vT_io_kp_sl_n fT_io_kp_sl_c vT_io_kp_fl_n fT_io_kp_fl_c vT_io_kp_ro_n fT_io_kp_ro_c vT_io_kp_nt_n fT_io_kp_nt_c vT_io_kp_mk_n fT_io_kp_mk_c vT_io_kp_mo_n fT_io_kp_mo_c) H := hP
    have hD : va_D A (wd_X7_from cI cZ AT AT_he AT_iz AT_io AT_tx AT_rd AT_fo AT_fi AT_iz_kp AT_he_sl AT_he_fl AT_he_ro AT_he_nt AT_he_mk AT_he_mo AT_iz_kp_sl AT_iz_kp_fl AT_iz_kp_ro AT_iz_kp_nt AT_iz_kp_mk AT_iz_kp_mo AT_he_sl_c AT_iz_kp_sl_c AT_he_fl_c AT_iz_kp_fl_c AT_he_ro_c AT_iz_kp_ro_c AT_he_nt_c AT_iz_kp_nt_c AT_he_mk_c AT_iz_kp_mk_c AT_he_mo_c AT_iz_kp_mo_c AT_io_kp AT_io_kp_sl AT_io_kp_fl AT_io_kp_ro AT_io_kp_nt AT_io_kp_mk AT_io_kp_mo AT_io_kp_sl_c AT_io_kp_fl_c AT_io_kp_ro_c AT_io_kp_nt_c AT_io_kp_mk_c AT_io_kp_mo_c vT_ab vT_be r_12.2.1 r_12.2.2.1 r_12.2.2.2 vT_iz_wk vT_he_ng vT_iz_kp_ng vT_he_sl_n vT_iz_kp_sl_n fT_iz_kp_sl_c fT_he_sl_c vT_he_fl_n vT_iz_kp_fl_n fT_iz_kp_fl_c fT_he_fl_c vT_he_ro_n vT_iz_kp_ro_n fT_iz_kp_ro_c fT_he_ro_c vT_he_nt_n vT_iz_kp_nt_n fT_iz_kp_nt_c fT_he_nt_c vT_he_mk_n vT_iz_kp_mk_n fT_iz_kp_mk_c fT_he_mk_c vT_he_mo_n vT_iz_kp_mo_n fT_iz_kp_mo_c fT_he_mo_c vT_io_wk vT_io_kp_ng vT_io_kp_sl_n fT_io_kp_sl_c vT_io_kp_fl_n fT_io_kp_fl_c vT_io_kp_ro_n fT_io_kp_ro_c vT_io_kp_nt_n fT_io_kp_nt_c vT_io_kp_mk_n fT_io_kp_mk_c vT_io_kp_mo_n fT_io_kp_mo_c) := hD
    have hm := Option.some.inj hm
    subst hm
    exact q_iret (v := r_12.1) hx hb hr hlocks hP hS dX7_from_15
theorem mb_X7_status : q_mb yX7_status cX7_status 2 (some .int) 1 := ⟨wc_X7_status, wn_X7, by decide, by decide, by decide +kernel⟩
theorem mv_X7_status : q_mv yX7_status 7 := ⟨wi_X7_status, ws_X7_status, _, rfl, rfl⟩
def wd_X7_status (cI cZ : ClassId) (AT AT_he AT_iz AT_io AT_tx AT_rd AT_fo AT_fi : Nat) (vT_ab : Int32) (vT_be : Int32) (vT_bo : Int32) (vT_no : Int32) (vT_fu : Int32) : va_W := [(AT, .inr (7, [.ref AT_he, .ref AT_iz, .ref AT_io, .ref AT_tx, .ref AT_rd, .ref AT_fo, .ref AT_fi, .int vT_ab, .int vT_be, .int vT_bo, .int vT_no, .int vT_fu]))]
def fm_X7_status (p1 : Int32) (vT_bo : Int32) (vT_no : Int32) (vT_fu : Int32) : Option (Int32 × Int32 × Int32 × Int32) := if p1 = 0 then (some (vT_bo, vT_bo, vT_no, vT_fu)) else if p1 = 1 then (some (vT_no, vT_bo, vT_no, vT_fu)) else if p1 = 2 then (some (vT_fu, vT_bo, vT_no, vT_fu)) else (Option.bind (fm_X7_refused (-2) vT_bo vT_no vT_fu) (fun r_46 => some ((-1), r_46.2.1, r_46.2.2.1, r_46.2.2.2)))
set_option maxHeartbeats 4000000 in
set_option maxRecDepth 100000 in
theorem c_X7_status (l : Launch) (D : va_G) (cI cZ : ClassId) (sz : Nat) (AT AT_he AT_iz AT_io AT_tx AT_rd AT_fo AT_fi : Nat) (vT_ab : Int32) (vT_be : Int32) (vT_bo : Int32) (vT_no : Int32) (vT_fu : Int32) (p1 : Int32) (out : (Int32 × Int32 × Int32 × Int32)) (hm : fm_X7_status p1 vT_bo vT_no vT_fu = some out) : Met l yX7_status (Cond.code yX7_status cX7_status 2 (some .int) :: bg) { frames := 1, cells := 0, slots := 0, locals := 21 } (va_Pc [.ref AT, .int p1] (q_pre D cI cZ sz (wd_X7_status cI cZ AT AT_he AT_iz AT_io AT_tx AT_rd AT_fo AT_fi vT_ab vT_be vT_bo vT_no vT_fu))) (q_Qi D (wd_X7_status cI cZ AT AT_he AT_iz AT_io AT_tx AT_rd AT_fo AT_fi vT_ab vT_be out.2.1 out.2.2.1 out.2.2.2) out.1 (va_A (wd_X7_status cI cZ AT AT_he AT_iz AT_io AT_tx AT_rd AT_fo AT_fi vT_ab vT_be vT_bo vT_no vT_fu) sz)) 0 0 (va_A (wd_X7_status cI cZ AT AT_he AT_iz AT_io AT_tx AT_rd AT_fo AT_fi vT_ab vT_be vT_bo vT_no vT_fu) sz) := by
  refine q_met (fun A => q_Qi D (wd_X7_status cI cZ AT AT_he AT_iz AT_io AT_tx AT_rd AT_fo AT_fi vT_ab vT_be out.2.1 out.2.2.1 out.2.2.2) out.1 A) (by decide) (Nat.le_of_ble_eq_true rfl) ?_
  intro p e s m below meth c ls A hx hb hr hml hown hts hlocks _ hA hS hP hD hK hN hl
  have hown : s.vm.findClass RX7 = some m.cls := hown
  have hl : lv_has ls 2 [(0, .ref AT), (1, .int p1)] := hl
  unfold fm_X7_status at hm
  refine q_gen hS hP ?_
  intro H locs hP hS
  refine lv_iload_n hx hb dX7_status_0 rfl (lv_at hl 1 rfl) ?_
  rcases Decidable.em (p1 = 0) with c_1_0 | c_1_0
  · have hm := it_s c_1_0 hm
    refine lv_tableIn (tgt := 28) hx hb dX7_status_1 (by rw [c_1_0]; decide) (by rw [c_1_0]; decide) (by rw [c_1_0]; rfl) (by decide) ?_
    refine lv_aload_n hx hb dX7_status_28 rfl (lv_at hl 0 rfl) ?_
    refine gf_X7_249 (v := .int vT_bo) hx hb hts hown hK hN hP 0 rfl rfl dX7_status_29 ?_
    have hm := Option.some.inj hm
    subst hm
    exact q_iret (v := vT_bo) hx hb hr hlocks hP hS dX7_status_32
  have hm := it_n c_1_0 hm
  rcases Decidable.em (p1 = 1) with c_1_1 | c_1_1
  · have hm := it_s c_1_1 hm
    refine lv_tableIn (tgt := 33) hx hb dX7_status_1 (by rw [c_1_1]; decide) (by rw [c_1_1]; decide) (by rw [c_1_1]; rfl) (by decide) ?_
    refine lv_aload_n hx hb dX7_status_33 rfl (lv_at hl 0 rfl) ?_
    refine gf_X7_252 (v := .int vT_no) hx hb hts hown hK hN hP 0 rfl rfl dX7_status_34 ?_
    have hm := Option.some.inj hm
    subst hm
    exact q_iret (v := vT_no) hx hb hr hlocks hP hS dX7_status_37
  have hm := it_n c_1_1 hm
  rcases Decidable.em (p1 = 2) with c_1_2 | c_1_2
  · have hm := it_s c_1_2 hm
    refine lv_tableIn (tgt := 38) hx hb dX7_status_1 (by rw [c_1_2]; decide) (by rw [c_1_2]; decide) (by rw [c_1_2]; rfl) (by decide) ?_
    refine lv_aload_n hx hb dX7_status_38 rfl (lv_at hl 0 rfl) ?_
    refine gf_X7_255 (v := .int vT_fu) hx hb hts hown hK hN hP 0 rfl rfl dX7_status_39 ?_
    have hm := Option.some.inj hm
    subst hm
    exact q_iret (v := vT_fu) hx hb hr hlocks hP hS dX7_status_42
  have hm := it_n c_1_2 hm
  have ht_0 := lv_neT c_1_0 (show (0 : Int32).toInt = 0 by decide)
  have ht_1 := lv_neT c_1_1 (show (1 : Int32).toInt = 1 by decide)
  have ht_2 := lv_neT c_1_2 (show (2 : Int32).toInt = 2 by decide)
  refine lv_tableOut (tgt := 43) hx hb dX7_status_1 (by omega) (by decide) ?_
  refine lv_aload_n hx hb dX7_status_43 rfl (lv_at hl 0 rfl) ?_
  refine lv_bipush (v := (-2)) hx hb dX7_status_44 (by decide) ?_
  obtain ⟨r_46, hc_46, hm⟩ := ob_s hm
  refine q_ci (q_rv (rest := []) ⟨hx, hb, hml, hown, hts⟩ hK hN hP hD (c_X7_refused l D cI cZ H.size AT AT_he AT_iz AT_io AT_tx AT_rd AT_fo AT_fi vT_ab vT_be vT_bo vT_no vT_fu (-2) r_46 hc_46) mb_X7_refused mv_X7_refused wl_X7_81 [0] rfl rfl rfl (Nat.le_of_ble_eq_true rfl) (Nat.le_of_ble_eq_true rfl) rfl hl.1 rfl (Nat.le_of_ble_eq_true rfl) ⟨Nat.le_refl 0, Nat.le_refl 0⟩ dX7_status_46) hP hD hS hA [0] rfl rfl (fun H locs hP hD hS => ?_)
  have hP : va_P D vwCl (wd_X7_status cI cZ AT AT_he AT_iz AT_io AT_tx AT_rd AT_fo AT_fi vT_ab vT_be r_46.2.1 r_46.2.2.1 r_46.2.2.2) H := hP
  have hD : va_D A (wd_X7_status cI cZ AT AT_he AT_iz AT_io AT_tx AT_rd AT_fo AT_fi vT_ab vT_be r_46.2.1 r_46.2.2.1 r_46.2.2.2) := hD
  refine lv_pop hx hb dX7_status_49 rfl ?_
  refine lv_iconst (v := (-1)) hx hb dX7_status_50 (by decide) ?_
  have hm := Option.some.inj hm
  subst hm
  exact q_iret (v := (-1)) hx hb hr hlocks hP hS dX7_status_51
theorem mb_X7_counted : q_mb yX7_counted cX7_counted 2 (some .int) 1 := ⟨wc_X7_counted, wn_X7, by decide, by decide, by decide +kernel⟩
theorem mv_X7_counted : q_mv yX7_counted 7 := ⟨wi_X7_counted, ws_X7_counted, _, rfl, rfl⟩
def wd_X7_counted (cI cZ : ClassId) (AT AT_he AT_iz AT_io AT_tx AT_rd AT_fo AT_fi AT_he_sl AT_he_fl AT_he_ro AT_he_nt AT_he_mk AT_he_mo AT_he_sl_c AT_he_fl_c AT_he_ro_c AT_he_nt_c AT_he_mk_c AT_he_mo_c AT_tx_c : Nat) (vT_ab : Int32) (vT_be : Int32) (vT_bo : Int32) (vT_no : Int32) (vT_fu : Int32) (vT_he_ng : Int32) (vT_he_sl_n : Int32) (vT_he_fl_n : Int32) (fT_he_sl_c : Nat → Int32) (vT_he_ro_n : Int32) (vT_he_nt_n : Int32) (vT_he_mk_n : Int32) (vT_he_mo_n : Int32) (vT_tx_n : Int32) : va_W := [(AT, .inr (7, [.ref AT_he, .ref AT_iz, .ref AT_io, .ref AT_tx, .ref AT_rd, .ref AT_fo, .ref AT_fi, .int vT_ab, .int vT_be, .int vT_bo, .int vT_no, .int vT_fu])), (AT_he, .inr (4, [.ref AT_he_sl, .ref AT_he_fl, .ref AT_he_ro, .ref AT_he_nt, .ref AT_he_mk, .ref AT_he_mo, .int vT_he_ng])), (AT_he_sl, .inr (3, [.int 4, .ref AT_he_sl_c, .int vT_he_sl_n])), (AT_he_fl, .inr (3, [.int 3, .ref AT_he_fl_c, .int vT_he_fl_n])), (AT_he_sl_c, .inl (cI, 24, .inl fT_he_sl_c)), (AT_he_ro, .inr (3, [.int 3, .ref AT_he_ro_c, .int vT_he_ro_n])), (AT_he_nt, .inr (3, [.int 4, .ref AT_he_nt_c, .int vT_he_nt_n])), (AT_he_mk, .inr (3, [.int 4, .ref AT_he_mk_c, .int vT_he_mk_n])), (AT_he_mo, .inr (3, [.int 25, .ref AT_he_mo_c, .int vT_he_mo_n])), (AT_tx, .inr (3, [.int 1, .ref AT_tx_c, .int vT_tx_n]))]
def fm_X7_counted (p1 : Int32) (vT_he_ng : Int32) (vT_he_sl_n : Int32) (vT_he_fl_n : Int32) (fT_he_sl_c : Nat → Int32) (vT_he_ro_n : Int32) (vT_he_nt_n : Int32) (vT_he_mk_n : Int32) (vT_he_mo_n : Int32) (vT_tx_n : Int32) : Option (Int32) := if p1 = 0 then (Option.bind (fm_X3_size vT_he_sl_n) (fun r_59 => some (r_59))) else if p1 = 1 then (Option.bind (fm_X3_size vT_he_fl_n) (fun r_70 => some (r_70))) else if p1 = 2 then (some (vT_he_ng)) else if p1 = 3 then (Option.bind (fm_X4_doing vT_he_sl_n fT_he_sl_c) (fun r_86 => some (r_86))) else if p1 = 4 then (Option.bind (fm_X4_mindsTogether vT_he_sl_n fT_he_sl_c) (fun r_94 => some (r_94))) else if p1 = 5 then (Option.bind (fm_X3_size vT_he_ro_n) (fun r_105 => some (r_105))) else if p1 = 6 then (Option.bind (fm_X3_size vT_he_nt_n) (fun r_116 => some (r_116))) else if p1 = 7 then (Option.bind (fm_X3_size vT_he_mk_n) (fun r_127 => some (r_127))) else if p1 = 8 then (Option.bind (fm_X3_size vT_he_mo_n) (fun r_138 => some (r_138))) else (Option.bind (fm_X3_size vT_tx_n) (fun r_146 => some (r_146)))
set_option maxHeartbeats 4000000 in
set_option maxRecDepth 100000 in
theorem c_X7_counted (l : Launch) (D : va_G) (cI cZ : ClassId) (sz : Nat) (AT AT_he AT_iz AT_io AT_tx AT_rd AT_fo AT_fi AT_he_sl AT_he_fl AT_he_ro AT_he_nt AT_he_mk AT_he_mo AT_he_sl_c AT_he_fl_c AT_he_ro_c AT_he_nt_c AT_he_mk_c AT_he_mo_c AT_tx_c : Nat) (vT_ab : Int32) (vT_be : Int32) (vT_bo : Int32) (vT_no : Int32) (vT_fu : Int32) (vT_he_ng : Int32) (vT_he_sl_n : Int32) (vT_he_fl_n : Int32) (fT_he_sl_c : Nat → Int32) (vT_he_ro_n : Int32) (vT_he_nt_n : Int32) (vT_he_mk_n : Int32) (vT_he_mo_n : Int32) (vT_tx_n : Int32) (p1 : Int32) (out : (Int32)) (hm : fm_X7_counted p1 vT_he_ng vT_he_sl_n vT_he_fl_n fT_he_sl_c vT_he_ro_n vT_he_nt_n vT_he_mk_n vT_he_mo_n vT_tx_n = some out) : Met l yX7_counted (Cond.code yX7_counted cX7_counted 2 (some .int) :: bg) { frames := 2, cells := 0, slots := 0, locals := 46 } (va_Pc [.ref AT, .int p1] (q_pre D cI cZ sz (wd_X7_counted cI cZ AT AT_he AT_iz AT_io AT_tx AT_rd AT_fo AT_fi AT_he_sl AT_he_fl AT_he_ro AT_he_nt AT_he_mk AT_he_mo AT_he_sl_c AT_he_fl_c AT_he_ro_c AT_he_nt_c AT_he_mk_c AT_he_mo_c AT_tx_c vT_ab vT_be vT_bo vT_no vT_fu vT_he_ng vT_he_sl_n vT_he_fl_n fT_he_sl_c vT_he_ro_n vT_he_nt_n vT_he_mk_n vT_he_mo_n vT_tx_n))) (q_Qi D (wd_X7_counted cI cZ AT AT_he AT_iz AT_io AT_tx AT_rd AT_fo AT_fi AT_he_sl AT_he_fl AT_he_ro AT_he_nt AT_he_mk AT_he_mo AT_he_sl_c AT_he_fl_c AT_he_ro_c AT_he_nt_c AT_he_mk_c AT_he_mo_c AT_tx_c vT_ab vT_be vT_bo vT_no vT_fu vT_he_ng vT_he_sl_n vT_he_fl_n fT_he_sl_c vT_he_ro_n vT_he_nt_n vT_he_mk_n vT_he_mo_n vT_tx_n) out (va_A (wd_X7_counted cI cZ AT AT_he AT_iz AT_io AT_tx AT_rd AT_fo AT_fi AT_he_sl AT_he_fl AT_he_ro AT_he_nt AT_he_mk AT_he_mo AT_he_sl_c AT_he_fl_c AT_he_ro_c AT_he_nt_c AT_he_mk_c AT_he_mo_c AT_tx_c vT_ab vT_be vT_bo vT_no vT_fu vT_he_ng vT_he_sl_n vT_he_fl_n fT_he_sl_c vT_he_ro_n vT_he_nt_n vT_he_mk_n vT_he_mo_n vT_tx_n) sz)) 0 0 (va_A (wd_X7_counted cI cZ AT AT_he AT_iz AT_io AT_tx AT_rd AT_fo AT_fi AT_he_sl AT_he_fl AT_he_ro AT_he_nt AT_he_mk AT_he_mo AT_he_sl_c AT_he_fl_c AT_he_ro_c AT_he_nt_c AT_he_mk_c AT_he_mo_c AT_tx_c vT_ab vT_be vT_bo vT_no vT_fu vT_he_ng vT_he_sl_n vT_he_fl_n fT_he_sl_c vT_he_ro_n vT_he_nt_n vT_he_mk_n vT_he_mo_n vT_tx_n) sz) := by
  refine q_met (fun A => q_Qi D (wd_X7_counted cI cZ AT AT_he AT_iz AT_io AT_tx AT_rd AT_fo AT_fi AT_he_sl AT_he_fl AT_he_ro AT_he_nt AT_he_mk AT_he_mo AT_he_sl_c AT_he_fl_c AT_he_ro_c AT_he_nt_c AT_he_mk_c AT_he_mo_c AT_tx_c vT_ab vT_be vT_bo vT_no vT_fu vT_he_ng vT_he_sl_n vT_he_fl_n fT_he_sl_c vT_he_ro_n vT_he_nt_n vT_he_mk_n vT_he_mo_n vT_tx_n) out A) (by decide) (Nat.le_of_ble_eq_true rfl) ?_
  intro p e s m below meth c ls A hx hb hr hml hown hts hlocks _ hA hS hP hD hK hN hl
  have hown : s.vm.findClass RX7 = some m.cls := hown
  have hl : lv_has ls 2 [(0, .ref AT), (1, .int p1)] := hl
  unfold fm_X7_counted at hm
  refine q_gen hS hP ?_
  intro H locs hP hS
  refine lv_iload_n hx hb dX7_counted_0 rfl (lv_at hl 1 rfl) ?_
  rcases Decidable.em (p1 = 0) with c_1_0 | c_1_0
  · have hm := it_s c_1_0 hm
    refine lv_tableIn (tgt := 52) hx hb dX7_counted_1 (by rw [c_1_0]; decide) (by rw [c_1_0]; decide) (by rw [c_1_0]; rfl) (by decide) ?_
    refine lv_aload_n hx hb dX7_counted_52 rfl (lv_at hl 0 rfl) ?_
    refine gf_X7_17 (v := .ref AT_he) hx hb hts hown hK hN hP 0 rfl rfl dX7_counted_53 ?_
    refine gf_X7_67 (v := .ref AT_he_sl) hx hb hts hown hK hN hP 1 rfl rfl dX7_counted_56 ?_
    obtain ⟨r_59, hc_59, hm⟩ := ob_s hm
    refine q_ci (q_rv (rest := []) ⟨hx, hb, hml, hown, hts⟩ hK hN hP hD (c_X3_size l D cI cZ H.size AT_he_sl AT_he_sl_c 4 vT_he_sl_n r_59 hc_59) mb_X3_size mv_X3_size wl_X7_70 [2] rfl rfl rfl (Nat.le_of_ble_eq_true rfl) (Nat.le_of_ble_eq_true rfl) rfl hl.1 rfl (Nat.le_of_ble_eq_true rfl) ⟨Nat.le_refl 0, Nat.le_refl 0⟩ dX7_counted_59) hP hD hS hA [2] rfl rfl (fun H locs hP hD hS => ?_)
    have hP : va_P D vwCl (wd_X7_counted cI cZ AT AT_he AT_iz AT_io AT_tx AT_rd AT_fo AT_fi AT_he_sl AT_he_fl AT_he_ro AT_he_nt AT_he_mk AT_he_mo AT_he_sl_c AT_he_fl_c AT_he_ro_c AT_he_nt_c AT_he_mk_c AT_he_mo_c AT_tx_c vT_ab vT_be vT_bo vT_no vT_fu vT_he_ng vT_he_sl_n vT_he_fl_n fT_he_sl_c vT_he_ro_n vT_he_nt_n vT_he_mk_n vT_he_mo_n vT_tx_n) H := hP
    have hD : va_D A (wd_X7_counted cI cZ AT AT_he AT_iz AT_io AT_tx AT_rd AT_fo AT_fi AT_he_sl AT_he_fl AT_he_ro AT_he_nt AT_he_mk AT_he_mo AT_he_sl_c AT_he_fl_c AT_he_ro_c AT_he_nt_c AT_he_mk_c AT_he_mo_c AT_tx_c vT_ab vT_be vT_bo vT_no vT_fu vT_he_ng vT_he_sl_n vT_he_fl_n fT_he_sl_c vT_he_ro_n vT_he_nt_n vT_he_mk_n vT_he_mo_n vT_tx_n) := hD
    have hm := Option.some.inj hm
    subst hm
    exact q_iret (v := r_59) hx hb hr hlocks hP hS dX7_counted_62
  have hm := it_n c_1_0 hm
  rcases Decidable.em (p1 = 1) with c_1_1 | c_1_1
  · have hm := it_s c_1_1 hm
    refine lv_tableIn (tgt := 63) hx hb dX7_counted_1 (by rw [c_1_1]; decide) (by rw [c_1_1]; decide) (by rw [c_1_1]; rfl) (by decide) ?_
    refine lv_aload_n hx hb dX7_counted_63 rfl (lv_at hl 0 rfl) ?_
    refine gf_X7_17 (v := .ref AT_he) hx hb hts hown hK hN hP 0 rfl rfl dX7_counted_64 ?_
    refine gf_X7_96 (v := .ref AT_he_fl) hx hb hts hown hK hN hP 1 rfl rfl dX7_counted_67 ?_
    obtain ⟨r_70, hc_70, hm⟩ := ob_s hm
    refine q_ci (q_rv (rest := []) ⟨hx, hb, hml, hown, hts⟩ hK hN hP hD (c_X3_size l D cI cZ H.size AT_he_fl AT_he_fl_c 3 vT_he_fl_n r_70 hc_70) mb_X3_size mv_X3_size wl_X7_70 [3] rfl rfl rfl (Nat.le_of_ble_eq_true rfl) (Nat.le_of_ble_eq_true rfl) rfl hl.1 rfl (Nat.le_of_ble_eq_true rfl) ⟨Nat.le_refl 0, Nat.le_refl 0⟩ dX7_counted_70) hP hD hS hA [3] rfl rfl (fun H locs hP hD hS => ?_)
    have hP : va_P D vwCl (wd_X7_counted cI cZ AT AT_he AT_iz AT_io AT_tx AT_rd AT_fo AT_fi AT_he_sl AT_he_fl AT_he_ro AT_he_nt AT_he_mk AT_he_mo AT_he_sl_c AT_he_fl_c AT_he_ro_c AT_he_nt_c AT_he_mk_c AT_he_mo_c AT_tx_c vT_ab vT_be vT_bo vT_no vT_fu vT_he_ng vT_he_sl_n vT_he_fl_n fT_he_sl_c vT_he_ro_n vT_he_nt_n vT_he_mk_n vT_he_mo_n vT_tx_n) H := hP
    have hD : va_D A (wd_X7_counted cI cZ AT AT_he AT_iz AT_io AT_tx AT_rd AT_fo AT_fi AT_he_sl AT_he_fl AT_he_ro AT_he_nt AT_he_mk AT_he_mo AT_he_sl_c AT_he_fl_c AT_he_ro_c AT_he_nt_c AT_he_mk_c AT_he_mo_c AT_tx_c vT_ab vT_be vT_bo vT_no vT_fu vT_he_ng vT_he_sl_n vT_he_fl_n fT_he_sl_c vT_he_ro_n vT_he_nt_n vT_he_mk_n vT_he_mo_n vT_tx_n) := hD
    have hm := Option.some.inj hm
    subst hm
    exact q_iret (v := r_70) hx hb hr hlocks hP hS dX7_counted_73
  have hm := it_n c_1_1 hm
  rcases Decidable.em (p1 = 2) with c_1_2 | c_1_2
  · have hm := it_s c_1_2 hm
    refine lv_tableIn (tgt := 74) hx hb dX7_counted_1 (by rw [c_1_2]; decide) (by rw [c_1_2]; decide) (by rw [c_1_2]; rfl) (by decide) ?_
    refine lv_aload_n hx hb dX7_counted_74 rfl (lv_at hl 0 rfl) ?_
    refine gf_X7_17 (v := .ref AT_he) hx hb hts hown hK hN hP 0 rfl rfl dX7_counted_75 ?_
    refine gf_X7_154 (v := .int vT_he_ng) hx hb hts hown hK hN hP 1 rfl rfl dX7_counted_78 ?_
    have hm := Option.some.inj hm
    subst hm
    exact q_iret (v := vT_he_ng) hx hb hr hlocks hP hS dX7_counted_81
  have hm := it_n c_1_2 hm
  rcases Decidable.em (p1 = 3) with c_1_3 | c_1_3
  · have hm := it_s c_1_3 hm
    refine lv_tableIn (tgt := 82) hx hb dX7_counted_1 (by rw [c_1_3]; decide) (by rw [c_1_3]; decide) (by rw [c_1_3]; rfl) (by decide) ?_
    refine lv_aload_n hx hb dX7_counted_82 rfl (lv_at hl 0 rfl) ?_
    refine gf_X7_17 (v := .ref AT_he) hx hb hts hown hK hN hP 0 rfl rfl dX7_counted_83 ?_
    obtain ⟨r_86, hc_86, hm⟩ := ob_s hm
    refine q_ci (q_rv (rest := []) ⟨hx, hb, hml, hown, hts⟩ hK hN hP hD (c_X4_doing l D cI cZ H.size AT_he AT_he_sl AT_he_fl AT_he_ro AT_he_nt AT_he_mk AT_he_mo AT_he_sl_c vT_he_ng vT_he_sl_n fT_he_sl_c r_86 hc_86) mb_X4_doing mv_X4_doing wl_X7_126 [1, 2, 4] rfl rfl rfl (Nat.le_of_ble_eq_true rfl) (Nat.le_of_ble_eq_true rfl) rfl hl.1 rfl (Nat.le_of_ble_eq_true rfl) ⟨Nat.le_refl 0, Nat.le_refl 0⟩ dX7_counted_86) hP hD hS hA [1, 2, 4] rfl rfl (fun H locs hP hD hS => ?_)
    have hP : va_P D vwCl (wd_X7_counted cI cZ AT AT_he AT_iz AT_io AT_tx AT_rd AT_fo AT_fi AT_he_sl AT_he_fl AT_he_ro AT_he_nt AT_he_mk AT_he_mo AT_he_sl_c AT_he_fl_c AT_he_ro_c AT_he_nt_c AT_he_mk_c AT_he_mo_c AT_tx_c vT_ab vT_be vT_bo vT_no vT_fu vT_he_ng vT_he_sl_n vT_he_fl_n fT_he_sl_c vT_he_ro_n vT_he_nt_n vT_he_mk_n vT_he_mo_n vT_tx_n) H := hP
    have hD : va_D A (wd_X7_counted cI cZ AT AT_he AT_iz AT_io AT_tx AT_rd AT_fo AT_fi AT_he_sl AT_he_fl AT_he_ro AT_he_nt AT_he_mk AT_he_mo AT_he_sl_c AT_he_fl_c AT_he_ro_c AT_he_nt_c AT_he_mk_c AT_he_mo_c AT_tx_c vT_ab vT_be vT_bo vT_no vT_fu vT_he_ng vT_he_sl_n vT_he_fl_n fT_he_sl_c vT_he_ro_n vT_he_nt_n vT_he_mk_n vT_he_mo_n vT_tx_n) := hD
    have hm := Option.some.inj hm
    subst hm
    exact q_iret (v := r_86) hx hb hr hlocks hP hS dX7_counted_89
  have hm := it_n c_1_3 hm
  rcases Decidable.em (p1 = 4) with c_1_4 | c_1_4
  · have hm := it_s c_1_4 hm
    refine lv_tableIn (tgt := 90) hx hb dX7_counted_1 (by rw [c_1_4]; decide) (by rw [c_1_4]; decide) (by rw [c_1_4]; rfl) (by decide) ?_
    refine lv_aload_n hx hb dX7_counted_90 rfl (lv_at hl 0 rfl) ?_
    refine gf_X7_17 (v := .ref AT_he) hx hb hts hown hK hN hP 0 rfl rfl dX7_counted_91 ?_
    obtain ⟨r_94, hc_94, hm⟩ := ob_s hm
    refine q_ci (q_rv (rest := []) ⟨hx, hb, hml, hown, hts⟩ hK hN hP hD (c_X4_mindsTogether l D cI cZ H.size AT_he AT_he_sl AT_he_fl AT_he_ro AT_he_nt AT_he_mk AT_he_mo AT_he_sl_c vT_he_ng vT_he_sl_n fT_he_sl_c r_94 hc_94) mb_X4_mindsTogether mv_X4_mindsTogether wl_X7_269 [1, 2, 4] rfl rfl rfl (Nat.le_of_ble_eq_true rfl) (Nat.le_of_ble_eq_true rfl) rfl hl.1 rfl (Nat.le_of_ble_eq_true rfl) ⟨Nat.le_refl 0, Nat.le_refl 0⟩ dX7_counted_94) hP hD hS hA [1, 2, 4] rfl rfl (fun H locs hP hD hS => ?_)
    have hP : va_P D vwCl (wd_X7_counted cI cZ AT AT_he AT_iz AT_io AT_tx AT_rd AT_fo AT_fi AT_he_sl AT_he_fl AT_he_ro AT_he_nt AT_he_mk AT_he_mo AT_he_sl_c AT_he_fl_c AT_he_ro_c AT_he_nt_c AT_he_mk_c AT_he_mo_c AT_tx_c vT_ab vT_be vT_bo vT_no vT_fu vT_he_ng vT_he_sl_n vT_he_fl_n fT_he_sl_c vT_he_ro_n vT_he_nt_n vT_he_mk_n vT_he_mo_n vT_tx_n) H := hP
    have hD : va_D A (wd_X7_counted cI cZ AT AT_he AT_iz AT_io AT_tx AT_rd AT_fo AT_fi AT_he_sl AT_he_fl AT_he_ro AT_he_nt AT_he_mk AT_he_mo AT_he_sl_c AT_he_fl_c AT_he_ro_c AT_he_nt_c AT_he_mk_c AT_he_mo_c AT_tx_c vT_ab vT_be vT_bo vT_no vT_fu vT_he_ng vT_he_sl_n vT_he_fl_n fT_he_sl_c vT_he_ro_n vT_he_nt_n vT_he_mk_n vT_he_mo_n vT_tx_n) := hD
    have hm := Option.some.inj hm
    subst hm
    exact q_iret (v := r_94) hx hb hr hlocks hP hS dX7_counted_97
  have hm := it_n c_1_4 hm
  rcases Decidable.em (p1 = 5) with c_1_5 | c_1_5
  · have hm := it_s c_1_5 hm
    refine lv_tableIn (tgt := 98) hx hb dX7_counted_1 (by rw [c_1_5]; decide) (by rw [c_1_5]; decide) (by rw [c_1_5]; rfl) (by decide) ?_
    refine lv_aload_n hx hb dX7_counted_98 rfl (lv_at hl 0 rfl) ?_
    refine gf_X7_17 (v := .ref AT_he) hx hb hts hown hK hN hP 0 rfl rfl dX7_counted_99 ?_
    refine gf_X7_183 (v := .ref AT_he_ro) hx hb hts hown hK hN hP 1 rfl rfl dX7_counted_102 ?_
    obtain ⟨r_105, hc_105, hm⟩ := ob_s hm
    refine q_ci (q_rv (rest := []) ⟨hx, hb, hml, hown, hts⟩ hK hN hP hD (c_X3_size l D cI cZ H.size AT_he_ro AT_he_ro_c 3 vT_he_ro_n r_105 hc_105) mb_X3_size mv_X3_size wl_X7_70 [5] rfl rfl rfl (Nat.le_of_ble_eq_true rfl) (Nat.le_of_ble_eq_true rfl) rfl hl.1 rfl (Nat.le_of_ble_eq_true rfl) ⟨Nat.le_refl 0, Nat.le_refl 0⟩ dX7_counted_105) hP hD hS hA [5] rfl rfl (fun H locs hP hD hS => ?_)
    have hP : va_P D vwCl (wd_X7_counted cI cZ AT AT_he AT_iz AT_io AT_tx AT_rd AT_fo AT_fi AT_he_sl AT_he_fl AT_he_ro AT_he_nt AT_he_mk AT_he_mo AT_he_sl_c AT_he_fl_c AT_he_ro_c AT_he_nt_c AT_he_mk_c AT_he_mo_c AT_tx_c vT_ab vT_be vT_bo vT_no vT_fu vT_he_ng vT_he_sl_n vT_he_fl_n fT_he_sl_c vT_he_ro_n vT_he_nt_n vT_he_mk_n vT_he_mo_n vT_tx_n) H := hP
    have hD : va_D A (wd_X7_counted cI cZ AT AT_he AT_iz AT_io AT_tx AT_rd AT_fo AT_fi AT_he_sl AT_he_fl AT_he_ro AT_he_nt AT_he_mk AT_he_mo AT_he_sl_c AT_he_fl_c AT_he_ro_c AT_he_nt_c AT_he_mk_c AT_he_mo_c AT_tx_c vT_ab vT_be vT_bo vT_no vT_fu vT_he_ng vT_he_sl_n vT_he_fl_n fT_he_sl_c vT_he_ro_n vT_he_nt_n vT_he_mk_n vT_he_mo_n vT_tx_n) := hD
    have hm := Option.some.inj hm
    subst hm
    exact q_iret (v := r_105) hx hb hr hlocks hP hS dX7_counted_108
  have hm := it_n c_1_5 hm
  rcases Decidable.em (p1 = 6) with c_1_6 | c_1_6
  · have hm := it_s c_1_6 hm
    refine lv_tableIn (tgt := 109) hx hb dX7_counted_1 (by rw [c_1_6]; decide) (by rw [c_1_6]; decide) (by rw [c_1_6]; rfl) (by decide) ?_
    refine lv_aload_n hx hb dX7_counted_109 rfl (lv_at hl 0 rfl) ?_
    refine gf_X7_17 (v := .ref AT_he) hx hb hts hown hK hN hP 0 rfl rfl dX7_counted_110 ?_
    refine gf_X7_201 (v := .ref AT_he_nt) hx hb hts hown hK hN hP 1 rfl rfl dX7_counted_113 ?_
    obtain ⟨r_116, hc_116, hm⟩ := ob_s hm
    refine q_ci (q_rv (rest := []) ⟨hx, hb, hml, hown, hts⟩ hK hN hP hD (c_X3_size l D cI cZ H.size AT_he_nt AT_he_nt_c 4 vT_he_nt_n r_116 hc_116) mb_X3_size mv_X3_size wl_X7_70 [6] rfl rfl rfl (Nat.le_of_ble_eq_true rfl) (Nat.le_of_ble_eq_true rfl) rfl hl.1 rfl (Nat.le_of_ble_eq_true rfl) ⟨Nat.le_refl 0, Nat.le_refl 0⟩ dX7_counted_116) hP hD hS hA [6] rfl rfl (fun H locs hP hD hS => ?_)
    have hP : va_P D vwCl (wd_X7_counted cI cZ AT AT_he AT_iz AT_io AT_tx AT_rd AT_fo AT_fi AT_he_sl AT_he_fl AT_he_ro AT_he_nt AT_he_mk AT_he_mo AT_he_sl_c AT_he_fl_c AT_he_ro_c AT_he_nt_c AT_he_mk_c AT_he_mo_c AT_tx_c vT_ab vT_be vT_bo vT_no vT_fu vT_he_ng vT_he_sl_n vT_he_fl_n fT_he_sl_c vT_he_ro_n vT_he_nt_n vT_he_mk_n vT_he_mo_n vT_tx_n) H := hP
    have hD : va_D A (wd_X7_counted cI cZ AT AT_he AT_iz AT_io AT_tx AT_rd AT_fo AT_fi AT_he_sl AT_he_fl AT_he_ro AT_he_nt AT_he_mk AT_he_mo AT_he_sl_c AT_he_fl_c AT_he_ro_c AT_he_nt_c AT_he_mk_c AT_he_mo_c AT_tx_c vT_ab vT_be vT_bo vT_no vT_fu vT_he_ng vT_he_sl_n vT_he_fl_n fT_he_sl_c vT_he_ro_n vT_he_nt_n vT_he_mk_n vT_he_mo_n vT_tx_n) := hD
    have hm := Option.some.inj hm
    subst hm
    exact q_iret (v := r_116) hx hb hr hlocks hP hS dX7_counted_119
  have hm := it_n c_1_6 hm
  rcases Decidable.em (p1 = 7) with c_1_7 | c_1_7
  · have hm := it_s c_1_7 hm
    refine lv_tableIn (tgt := 120) hx hb dX7_counted_1 (by rw [c_1_7]; decide) (by rw [c_1_7]; decide) (by rw [c_1_7]; rfl) (by decide) ?_
    refine lv_aload_n hx hb dX7_counted_120 rfl (lv_at hl 0 rfl) ?_
    refine gf_X7_17 (v := .ref AT_he) hx hb hts hown hK hN hP 0 rfl rfl dX7_counted_121 ?_
    refine gf_X7_204 (v := .ref AT_he_mk) hx hb hts hown hK hN hP 1 rfl rfl dX7_counted_124 ?_
    obtain ⟨r_127, hc_127, hm⟩ := ob_s hm
    refine q_ci (q_rv (rest := []) ⟨hx, hb, hml, hown, hts⟩ hK hN hP hD (c_X3_size l D cI cZ H.size AT_he_mk AT_he_mk_c 4 vT_he_mk_n r_127 hc_127) mb_X3_size mv_X3_size wl_X7_70 [7] rfl rfl rfl (Nat.le_of_ble_eq_true rfl) (Nat.le_of_ble_eq_true rfl) rfl hl.1 rfl (Nat.le_of_ble_eq_true rfl) ⟨Nat.le_refl 0, Nat.le_refl 0⟩ dX7_counted_127) hP hD hS hA [7] rfl rfl (fun H locs hP hD hS => ?_)
    have hP : va_P D vwCl (wd_X7_counted cI cZ AT AT_he AT_iz AT_io AT_tx AT_rd AT_fo AT_fi AT_he_sl AT_he_fl AT_he_ro AT_he_nt AT_he_mk AT_he_mo AT_he_sl_c AT_he_fl_c AT_he_ro_c AT_he_nt_c AT_he_mk_c AT_he_mo_c AT_tx_c vT_ab vT_be vT_bo vT_no vT_fu vT_he_ng vT_he_sl_n vT_he_fl_n fT_he_sl_c vT_he_ro_n vT_he_nt_n vT_he_mk_n vT_he_mo_n vT_tx_n) H := hP
    have hD : va_D A (wd_X7_counted cI cZ AT AT_he AT_iz AT_io AT_tx AT_rd AT_fo AT_fi AT_he_sl AT_he_fl AT_he_ro AT_he_nt AT_he_mk AT_he_mo AT_he_sl_c AT_he_fl_c AT_he_ro_c AT_he_nt_c AT_he_mk_c AT_he_mo_c AT_tx_c vT_ab vT_be vT_bo vT_no vT_fu vT_he_ng vT_he_sl_n vT_he_fl_n fT_he_sl_c vT_he_ro_n vT_he_nt_n vT_he_mk_n vT_he_mo_n vT_tx_n) := hD
    have hm := Option.some.inj hm
    subst hm
    exact q_iret (v := r_127) hx hb hr hlocks hP hS dX7_counted_130
  have hm := it_n c_1_7 hm
  rcases Decidable.em (p1 = 8) with c_1_8 | c_1_8
  · have hm := it_s c_1_8 hm
    refine lv_tableIn (tgt := 131) hx hb dX7_counted_1 (by rw [c_1_8]; decide) (by rw [c_1_8]; decide) (by rw [c_1_8]; rfl) (by decide) ?_
    refine lv_aload_n hx hb dX7_counted_131 rfl (lv_at hl 0 rfl) ?_
    refine gf_X7_17 (v := .ref AT_he) hx hb hts hown hK hN hP 0 rfl rfl dX7_counted_132 ?_
    refine gf_X7_148 (v := .ref AT_he_mo) hx hb hts hown hK hN hP 1 rfl rfl dX7_counted_135 ?_
    obtain ⟨r_138, hc_138, hm⟩ := ob_s hm
    refine q_ci (q_rv (rest := []) ⟨hx, hb, hml, hown, hts⟩ hK hN hP hD (c_X3_size l D cI cZ H.size AT_he_mo AT_he_mo_c 25 vT_he_mo_n r_138 hc_138) mb_X3_size mv_X3_size wl_X7_70 [8] rfl rfl rfl (Nat.le_of_ble_eq_true rfl) (Nat.le_of_ble_eq_true rfl) rfl hl.1 rfl (Nat.le_of_ble_eq_true rfl) ⟨Nat.le_refl 0, Nat.le_refl 0⟩ dX7_counted_138) hP hD hS hA [8] rfl rfl (fun H locs hP hD hS => ?_)
    have hP : va_P D vwCl (wd_X7_counted cI cZ AT AT_he AT_iz AT_io AT_tx AT_rd AT_fo AT_fi AT_he_sl AT_he_fl AT_he_ro AT_he_nt AT_he_mk AT_he_mo AT_he_sl_c AT_he_fl_c AT_he_ro_c AT_he_nt_c AT_he_mk_c AT_he_mo_c AT_tx_c vT_ab vT_be vT_bo vT_no vT_fu vT_he_ng vT_he_sl_n vT_he_fl_n fT_he_sl_c vT_he_ro_n vT_he_nt_n vT_he_mk_n vT_he_mo_n vT_tx_n) H := hP
    have hD : va_D A (wd_X7_counted cI cZ AT AT_he AT_iz AT_io AT_tx AT_rd AT_fo AT_fi AT_he_sl AT_he_fl AT_he_ro AT_he_nt AT_he_mk AT_he_mo AT_he_sl_c AT_he_fl_c AT_he_ro_c AT_he_nt_c AT_he_mk_c AT_he_mo_c AT_tx_c vT_ab vT_be vT_bo vT_no vT_fu vT_he_ng vT_he_sl_n vT_he_fl_n fT_he_sl_c vT_he_ro_n vT_he_nt_n vT_he_mk_n vT_he_mo_n vT_tx_n) := hD
    have hm := Option.some.inj hm
    subst hm
    exact q_iret (v := r_138) hx hb hr hlocks hP hS dX7_counted_141
  have hm := it_n c_1_8 hm
  have ht_0 := lv_neT c_1_0 (show (0 : Int32).toInt = 0 by decide)
  have ht_1 := lv_neT c_1_1 (show (1 : Int32).toInt = 1 by decide)
  have ht_2 := lv_neT c_1_2 (show (2 : Int32).toInt = 2 by decide)
  have ht_3 := lv_neT c_1_3 (show (3 : Int32).toInt = 3 by decide)
  have ht_4 := lv_neT c_1_4 (show (4 : Int32).toInt = 4 by decide)
  have ht_5 := lv_neT c_1_5 (show (5 : Int32).toInt = 5 by decide)
  have ht_6 := lv_neT c_1_6 (show (6 : Int32).toInt = 6 by decide)
  have ht_7 := lv_neT c_1_7 (show (7 : Int32).toInt = 7 by decide)
  have ht_8 := lv_neT c_1_8 (show (8 : Int32).toInt = 8 by decide)
  refine lv_tableOut (tgt := 142) hx hb dX7_counted_1 (by omega) (by decide) ?_
  refine lv_aload_n hx hb dX7_counted_142 rfl (lv_at hl 0 rfl) ?_
  refine gf_X7_21 (v := .ref AT_tx) hx hb hts hown hK hN hP 0 rfl rfl dX7_counted_143 ?_
  obtain ⟨r_146, hc_146, hm⟩ := ob_s hm
  refine q_ci (q_rv (rest := []) ⟨hx, hb, hml, hown, hts⟩ hK hN hP hD (c_X3_size l D cI cZ H.size AT_tx AT_tx_c 1 vT_tx_n r_146 hc_146) mb_X3_size mv_X3_size wl_X7_70 [9] rfl rfl rfl (Nat.le_of_ble_eq_true rfl) (Nat.le_of_ble_eq_true rfl) rfl hl.1 rfl (Nat.le_of_ble_eq_true rfl) ⟨Nat.le_refl 0, Nat.le_refl 0⟩ dX7_counted_146) hP hD hS hA [9] rfl rfl (fun H locs hP hD hS => ?_)
  have hP : va_P D vwCl (wd_X7_counted cI cZ AT AT_he AT_iz AT_io AT_tx AT_rd AT_fo AT_fi AT_he_sl AT_he_fl AT_he_ro AT_he_nt AT_he_mk AT_he_mo AT_he_sl_c AT_he_fl_c AT_he_ro_c AT_he_nt_c AT_he_mk_c AT_he_mo_c AT_tx_c vT_ab vT_be vT_bo vT_no vT_fu vT_he_ng vT_he_sl_n vT_he_fl_n fT_he_sl_c vT_he_ro_n vT_he_nt_n vT_he_mk_n vT_he_mo_n vT_tx_n) H := hP
  have hD : va_D A (wd_X7_counted cI cZ AT AT_he AT_iz AT_io AT_tx AT_rd AT_fo AT_fi AT_he_sl AT_he_fl AT_he_ro AT_he_nt AT_he_mk AT_he_mo AT_he_sl_c AT_he_fl_c AT_he_ro_c AT_he_nt_c AT_he_mk_c AT_he_mo_c AT_tx_c vT_ab vT_be vT_bo vT_no vT_fu vT_he_ng vT_he_sl_n vT_he_fl_n fT_he_sl_c vT_he_ro_n vT_he_nt_n vT_he_mk_n vT_he_mo_n vT_tx_n) := hD
  have hm := Option.some.inj hm
  subst hm
  exact q_iret (v := r_146) hx hb hr hlocks hP hS dX7_counted_149
theorem mb_X7_count : q_mb yX7_count cX7_count 2 (some .int) 1 := ⟨wc_X7_count, wn_X7, by decide, by decide, by decide +kernel⟩
theorem mv_X7_count : q_mv yX7_count 7 := ⟨wi_X7_count, ws_X7_count, _, rfl, rfl⟩
def wd_X7_count (cI cZ : ClassId) (AT AT_he AT_iz AT_io AT_tx AT_rd AT_fo AT_fi AT_he_sl AT_he_fl AT_he_ro AT_he_nt AT_he_mk AT_he_mo AT_he_sl_c AT_he_fl_c AT_he_ro_c AT_he_nt_c AT_he_mk_c AT_he_mo_c AT_tx_c : Nat) (vT_ab : Int32) (vT_be : Int32) (vT_bo : Int32) (vT_no : Int32) (vT_fu : Int32) (vT_he_ng : Int32) (vT_he_sl_n : Int32) (vT_he_fl_n : Int32) (fT_he_sl_c : Nat → Int32) (vT_he_ro_n : Int32) (vT_he_nt_n : Int32) (vT_he_mk_n : Int32) (vT_he_mo_n : Int32) (vT_tx_n : Int32) : va_W := [(AT, .inr (7, [.ref AT_he, .ref AT_iz, .ref AT_io, .ref AT_tx, .ref AT_rd, .ref AT_fo, .ref AT_fi, .int vT_ab, .int vT_be, .int vT_bo, .int vT_no, .int vT_fu])), (AT_he, .inr (4, [.ref AT_he_sl, .ref AT_he_fl, .ref AT_he_ro, .ref AT_he_nt, .ref AT_he_mk, .ref AT_he_mo, .int vT_he_ng])), (AT_he_sl, .inr (3, [.int 4, .ref AT_he_sl_c, .int vT_he_sl_n])), (AT_he_fl, .inr (3, [.int 3, .ref AT_he_fl_c, .int vT_he_fl_n])), (AT_he_sl_c, .inl (cI, 24, .inl fT_he_sl_c)), (AT_he_ro, .inr (3, [.int 3, .ref AT_he_ro_c, .int vT_he_ro_n])), (AT_he_nt, .inr (3, [.int 4, .ref AT_he_nt_c, .int vT_he_nt_n])), (AT_he_mk, .inr (3, [.int 4, .ref AT_he_mk_c, .int vT_he_mk_n])), (AT_he_mo, .inr (3, [.int 25, .ref AT_he_mo_c, .int vT_he_mo_n])), (AT_tx, .inr (3, [.int 1, .ref AT_tx_c, .int vT_tx_n]))]
def fm_X7_count (p1 : Int32) (vT_bo : Int32) (vT_no : Int32) (vT_fu : Int32) (vT_he_ng : Int32) (vT_he_sl_n : Int32) (vT_he_fl_n : Int32) (fT_he_sl_c : Nat → Int32) (vT_he_ro_n : Int32) (vT_he_nt_n : Int32) (vT_he_mk_n : Int32) (vT_he_mo_n : Int32) (vT_tx_n : Int32) : Option (Int32 × Int32 × Int32 × Int32) := Option.bind (fm_X7_within p1 0 9) (fun r_4 => if r_4 = 0 then (Option.bind (fm_X7_refused (-2) vT_bo vT_no vT_fu) (fun r_13 => some (r_13.1, r_13.2.1, r_13.2.2.1, r_13.2.2.2))) else (Option.bind (fm_X7_counted p1 vT_he_ng vT_he_sl_n vT_he_fl_n fT_he_sl_c vT_he_ro_n vT_he_nt_n vT_he_mk_n vT_he_mo_n vT_tx_n) (fun r_19 => some (r_19, vT_bo, vT_no, vT_fu))))
set_option maxHeartbeats 4000000 in
set_option maxRecDepth 100000 in
theorem c_X7_count (l : Launch) (D : va_G) (cI cZ : ClassId) (sz : Nat) (AT AT_he AT_iz AT_io AT_tx AT_rd AT_fo AT_fi AT_he_sl AT_he_fl AT_he_ro AT_he_nt AT_he_mk AT_he_mo AT_he_sl_c AT_he_fl_c AT_he_ro_c AT_he_nt_c AT_he_mk_c AT_he_mo_c AT_tx_c : Nat) (vT_ab : Int32) (vT_be : Int32) (vT_bo : Int32) (vT_no : Int32) (vT_fu : Int32) (vT_he_ng : Int32) (vT_he_sl_n : Int32) (vT_he_fl_n : Int32) (fT_he_sl_c : Nat → Int32) (vT_he_ro_n : Int32) (vT_he_nt_n : Int32) (vT_he_mk_n : Int32) (vT_he_mo_n : Int32) (vT_tx_n : Int32) (p1 : Int32) (out : (Int32 × Int32 × Int32 × Int32)) (hm : fm_X7_count p1 vT_bo vT_no vT_fu vT_he_ng vT_he_sl_n vT_he_fl_n fT_he_sl_c vT_he_ro_n vT_he_nt_n vT_he_mk_n vT_he_mo_n vT_tx_n = some out) : Met l yX7_count (Cond.code yX7_count cX7_count 2 (some .int) :: bg) { frames := 3, cells := 0, slots := 0, locals := 67 } (va_Pc [.ref AT, .int p1] (q_pre D cI cZ sz (wd_X7_count cI cZ AT AT_he AT_iz AT_io AT_tx AT_rd AT_fo AT_fi AT_he_sl AT_he_fl AT_he_ro AT_he_nt AT_he_mk AT_he_mo AT_he_sl_c AT_he_fl_c AT_he_ro_c AT_he_nt_c AT_he_mk_c AT_he_mo_c AT_tx_c vT_ab vT_be vT_bo vT_no vT_fu vT_he_ng vT_he_sl_n vT_he_fl_n fT_he_sl_c vT_he_ro_n vT_he_nt_n vT_he_mk_n vT_he_mo_n vT_tx_n))) (q_Qi D (wd_X7_count cI cZ AT AT_he AT_iz AT_io AT_tx AT_rd AT_fo AT_fi AT_he_sl AT_he_fl AT_he_ro AT_he_nt AT_he_mk AT_he_mo AT_he_sl_c AT_he_fl_c AT_he_ro_c AT_he_nt_c AT_he_mk_c AT_he_mo_c AT_tx_c vT_ab vT_be out.2.1 out.2.2.1 out.2.2.2 vT_he_ng vT_he_sl_n vT_he_fl_n fT_he_sl_c vT_he_ro_n vT_he_nt_n vT_he_mk_n vT_he_mo_n vT_tx_n) out.1 (va_A (wd_X7_count cI cZ AT AT_he AT_iz AT_io AT_tx AT_rd AT_fo AT_fi AT_he_sl AT_he_fl AT_he_ro AT_he_nt AT_he_mk AT_he_mo AT_he_sl_c AT_he_fl_c AT_he_ro_c AT_he_nt_c AT_he_mk_c AT_he_mo_c AT_tx_c vT_ab vT_be vT_bo vT_no vT_fu vT_he_ng vT_he_sl_n vT_he_fl_n fT_he_sl_c vT_he_ro_n vT_he_nt_n vT_he_mk_n vT_he_mo_n vT_tx_n) sz)) 0 0 (va_A (wd_X7_count cI cZ AT AT_he AT_iz AT_io AT_tx AT_rd AT_fo AT_fi AT_he_sl AT_he_fl AT_he_ro AT_he_nt AT_he_mk AT_he_mo AT_he_sl_c AT_he_fl_c AT_he_ro_c AT_he_nt_c AT_he_mk_c AT_he_mo_c AT_tx_c vT_ab vT_be vT_bo vT_no vT_fu vT_he_ng vT_he_sl_n vT_he_fl_n fT_he_sl_c vT_he_ro_n vT_he_nt_n vT_he_mk_n vT_he_mo_n vT_tx_n) sz) := by
  refine q_met (fun A => q_Qi D (wd_X7_count cI cZ AT AT_he AT_iz AT_io AT_tx AT_rd AT_fo AT_fi AT_he_sl AT_he_fl AT_he_ro AT_he_nt AT_he_mk AT_he_mo AT_he_sl_c AT_he_fl_c AT_he_ro_c AT_he_nt_c AT_he_mk_c AT_he_mo_c AT_tx_c vT_ab vT_be out.2.1 out.2.2.1 out.2.2.2 vT_he_ng vT_he_sl_n vT_he_fl_n fT_he_sl_c vT_he_ro_n vT_he_nt_n vT_he_mk_n vT_he_mo_n vT_tx_n) out.1 A) (by decide) (Nat.le_of_ble_eq_true rfl) ?_
  intro p e s m below meth c ls A hx hb hr hml hown hts hlocks _ hA hS hP hD hK hN hl
  have hown : s.vm.findClass RX7 = some m.cls := hown
  have hl : lv_has ls 2 [(0, .ref AT), (1, .int p1)] := hl
  unfold fm_X7_count at hm
  refine q_gen hS hP ?_
  intro H locs hP hS
  refine lv_iload_n hx hb dX7_count_0 rfl (lv_at hl 1 rfl) ?_
  refine lv_iconst (v := 0) hx hb dX7_count_1 (by decide) ?_
  refine lv_bipush (v := 9) hx hb dX7_count_2 (by decide) ?_
  obtain ⟨r_4, hc_4, hm⟩ := ob_s hm
  refine q_ci (q_rs (rest := []) ⟨hx, hb, hml, hown, hts⟩ hK hN hP hD (c_X7_within l D cI cZ H.size p1 0 9 r_4 hc_4) mb_X7_within wt_X7_within wl_X7_77 [] rfl rfl (Nat.le_of_ble_eq_true rfl) (Nat.le_of_ble_eq_true rfl) rfl hl.1 rfl (Nat.le_of_ble_eq_true rfl) ⟨Nat.le_refl 0, Nat.le_refl 0⟩ dX7_count_4) hP hD hS hA [] rfl rfl (fun H locs hP hD hS => ?_)
  have hP : va_P D vwCl (wd_X7_count cI cZ AT AT_he AT_iz AT_io AT_tx AT_rd AT_fo AT_fi AT_he_sl AT_he_fl AT_he_ro AT_he_nt AT_he_mk AT_he_mo AT_he_sl_c AT_he_fl_c AT_he_ro_c AT_he_nt_c AT_he_mk_c AT_he_mo_c AT_tx_c vT_ab vT_be vT_bo vT_no vT_fu vT_he_ng vT_he_sl_n vT_he_fl_n fT_he_sl_c vT_he_ro_n vT_he_nt_n vT_he_mk_n vT_he_mo_n vT_tx_n) H := hP
  have hD : va_D A (wd_X7_count cI cZ AT AT_he AT_iz AT_io AT_tx AT_rd AT_fo AT_fi AT_he_sl AT_he_fl AT_he_ro AT_he_nt AT_he_mk AT_he_mo AT_he_sl_c AT_he_fl_c AT_he_ro_c AT_he_nt_c AT_he_mk_c AT_he_mo_c AT_tx_c vT_ab vT_be vT_bo vT_no vT_fu vT_he_ng vT_he_sl_n vT_he_fl_n fT_he_sl_c vT_he_ro_n vT_he_nt_n vT_he_mk_n vT_he_mo_n vT_tx_n) := hD
  refine lv_if_ne (tgt := 17) hx hb dX7_count_7 (by decide) (fun c_7 => ?_) (fun c_7 => ?_)
  · have hm := it_n c_7 hm
    refine lv_aload_n hx hb dX7_count_17 rfl (lv_at hl 0 rfl) ?_
    refine lv_iload_n hx hb dX7_count_18 rfl (lv_at hl 1 rfl) ?_
    obtain ⟨r_19, hc_19, hm⟩ := ob_s hm
    refine q_ci (q_rv (rest := []) ⟨hx, hb, hml, hown, hts⟩ hK hN hP hD (c_X7_counted l D cI cZ H.size AT AT_he AT_iz AT_io AT_tx AT_rd AT_fo AT_fi AT_he_sl AT_he_fl AT_he_ro AT_he_nt AT_he_mk AT_he_mo AT_he_sl_c AT_he_fl_c AT_he_ro_c AT_he_nt_c AT_he_mk_c AT_he_mo_c AT_tx_c vT_ab vT_be vT_bo vT_no vT_fu vT_he_ng vT_he_sl_n vT_he_fl_n fT_he_sl_c vT_he_ro_n vT_he_nt_n vT_he_mk_n vT_he_mo_n vT_tx_n p1 r_19 hc_19) mb_X7_counted mv_X7_counted wl_X7_258 [0, 1, 2, 3, 4, 5, 6, 7, 8, 9] rfl rfl rfl (Nat.le_of_ble_eq_true rfl) (Nat.le_of_ble_eq_true rfl) rfl hl.1 rfl (Nat.le_of_ble_eq_true rfl) ⟨Nat.le_refl 0, Nat.le_refl 0⟩ dX7_count_19) hP hD hS hA [0, 1, 2, 3, 4, 5, 6, 7, 8, 9] rfl rfl (fun H locs hP hD hS => ?_)
    have hP : va_P D vwCl (wd_X7_count cI cZ AT AT_he AT_iz AT_io AT_tx AT_rd AT_fo AT_fi AT_he_sl AT_he_fl AT_he_ro AT_he_nt AT_he_mk AT_he_mo AT_he_sl_c AT_he_fl_c AT_he_ro_c AT_he_nt_c AT_he_mk_c AT_he_mo_c AT_tx_c vT_ab vT_be vT_bo vT_no vT_fu vT_he_ng vT_he_sl_n vT_he_fl_n fT_he_sl_c vT_he_ro_n vT_he_nt_n vT_he_mk_n vT_he_mo_n vT_tx_n) H := hP
    have hD : va_D A (wd_X7_count cI cZ AT AT_he AT_iz AT_io AT_tx AT_rd AT_fo AT_fi AT_he_sl AT_he_fl AT_he_ro AT_he_nt AT_he_mk AT_he_mo AT_he_sl_c AT_he_fl_c AT_he_ro_c AT_he_nt_c AT_he_mk_c AT_he_mo_c AT_tx_c vT_ab vT_be vT_bo vT_no vT_fu vT_he_ng vT_he_sl_n vT_he_fl_n fT_he_sl_c vT_he_ro_n vT_he_nt_n vT_he_mk_n vT_he_mo_n vT_tx_n) := hD
    have hm := Option.some.inj hm
    subst hm
    exact q_iret (v := r_19) hx hb hr hlocks hP hS dX7_count_22
  · have hm := it_s c_7 hm
    refine lv_aload_n hx hb dX7_count_10 rfl (lv_at hl 0 rfl) ?_
    refine lv_bipush (v := (-2)) hx hb dX7_count_11 (by decide) ?_
    obtain ⟨r_13, hc_13, hm⟩ := ob_s hm
    refine q_ci (q_rv (rest := []) ⟨hx, hb, hml, hown, hts⟩ hK hN hP hD (c_X7_refused l D cI cZ H.size AT AT_he AT_iz AT_io AT_tx AT_rd AT_fo AT_fi vT_ab vT_be vT_bo vT_no vT_fu (-2) r_13 hc_13) mb_X7_refused mv_X7_refused wl_X7_81 [0] rfl rfl rfl (Nat.le_of_ble_eq_true rfl) (Nat.le_of_ble_eq_true rfl) rfl hl.1 rfl (Nat.le_of_ble_eq_true rfl) ⟨Nat.le_refl 0, Nat.le_refl 0⟩ dX7_count_13) hP hD hS hA [0] rfl rfl (fun H locs hP hD hS => ?_)
    have hP : va_P D vwCl (wd_X7_count cI cZ AT AT_he AT_iz AT_io AT_tx AT_rd AT_fo AT_fi AT_he_sl AT_he_fl AT_he_ro AT_he_nt AT_he_mk AT_he_mo AT_he_sl_c AT_he_fl_c AT_he_ro_c AT_he_nt_c AT_he_mk_c AT_he_mo_c AT_tx_c vT_ab vT_be r_13.2.1 r_13.2.2.1 r_13.2.2.2 vT_he_ng vT_he_sl_n vT_he_fl_n fT_he_sl_c vT_he_ro_n vT_he_nt_n vT_he_mk_n vT_he_mo_n vT_tx_n) H := hP
    have hD : va_D A (wd_X7_count cI cZ AT AT_he AT_iz AT_io AT_tx AT_rd AT_fo AT_fi AT_he_sl AT_he_fl AT_he_ro AT_he_nt AT_he_mk AT_he_mo AT_he_sl_c AT_he_fl_c AT_he_ro_c AT_he_nt_c AT_he_mk_c AT_he_mo_c AT_tx_c vT_ab vT_be r_13.2.1 r_13.2.2.1 r_13.2.2.2 vT_he_ng vT_he_sl_n vT_he_fl_n fT_he_sl_c vT_he_ro_n vT_he_nt_n vT_he_mk_n vT_he_mo_n vT_tx_n) := hD
    have hm := Option.some.inj hm
    subst hm
    exact q_iret (v := r_13.1) hx hb hr hlocks hP hS dX7_count_16
theorem mb_X7_digest : q_mb yX7_digest cX7_digest 4 (some .long) 0 := ⟨wc_X7_digest, wn_X7, by decide, by decide, by decide +kernel⟩
theorem mv_X7_digest : q_mv yX7_digest 7 := ⟨wi_X7_digest, ws_X7_digest, _, rfl, rfl⟩
def wd_X7_digest (cI cZ : ClassId) (AT AT_he AT_iz AT_io AT_tx AT_rd AT_fo AT_fi AT_he_sl AT_he_fl AT_he_ro AT_he_nt AT_he_mk AT_he_mo AT_he_sl_c AT_he_fl_c AT_he_ro_c AT_he_nt_c AT_he_mk_c AT_he_mo_c AT_tx_c : Nat) (vT_ab : Int32) (vT_be : Int32) (vT_bo : Int32) (vT_no : Int32) (vT_fu : Int32) (vT_he_ng : Int32) (vT_he_sl_n : Int32) (fT_he_sl_c : Nat → Int32) (vT_he_fl_n : Int32) (fT_he_fl_c : Nat → Int32) (vT_he_ro_n : Int32) (fT_he_ro_c : Nat → Int32) (vT_he_nt_n : Int32) (fT_he_nt_c : Nat → Int32) (vT_he_mk_n : Int32) (fT_he_mk_c : Nat → Int32) (vT_he_mo_n : Int32) (vT_tx_n : Int32) : va_W := [(AT, .inr (7, [.ref AT_he, .ref AT_iz, .ref AT_io, .ref AT_tx, .ref AT_rd, .ref AT_fo, .ref AT_fi, .int vT_ab, .int vT_be, .int vT_bo, .int vT_no, .int vT_fu])), (AT_he, .inr (4, [.ref AT_he_sl, .ref AT_he_fl, .ref AT_he_ro, .ref AT_he_nt, .ref AT_he_mk, .ref AT_he_mo, .int vT_he_ng])), (AT_he_sl, .inr (3, [.int 4, .ref AT_he_sl_c, .int vT_he_sl_n])), (AT_he_sl_c, .inl (cI, 24, .inl fT_he_sl_c)), (AT_he_fl, .inr (3, [.int 3, .ref AT_he_fl_c, .int vT_he_fl_n])), (AT_he_fl_c, .inl (cI, 18, .inl fT_he_fl_c)), (AT_he_ro, .inr (3, [.int 3, .ref AT_he_ro_c, .int vT_he_ro_n])), (AT_he_ro_c, .inl (cI, 15, .inl fT_he_ro_c)), (AT_he_nt, .inr (3, [.int 4, .ref AT_he_nt_c, .int vT_he_nt_n])), (AT_he_nt_c, .inl (cI, 24, .inl fT_he_nt_c)), (AT_he_mk, .inr (3, [.int 4, .ref AT_he_mk_c, .int vT_he_mk_n])), (AT_he_mk_c, .inl (cI, 24, .inl fT_he_mk_c)), (AT_he_mo, .inr (3, [.int 25, .ref AT_he_mo_c, .int vT_he_mo_n])), (AT_tx, .inr (3, [.int 1, .ref AT_tx_c, .int vT_tx_n]))]
def fL_X7_digest_6 (vT_ab : Int32) (vT_be : Int32) (vT_he_ng : Int32) (vT_he_sl_n : Int32) (fT_he_sl_c : Nat → Int32) (vT_he_fl_n : Int32) (fT_he_fl_c : Nat → Int32) (vT_he_ro_n : Int32) (fT_he_ro_c : Nat → Int32) (vT_he_nt_n : Int32) (fT_he_nt_c : Nat → Int32) (vT_he_mk_n : Int32) (fT_he_mk_c : Nat → Int32) (vT_he_mo_n : Int32) (vT_tx_n : Int32) : Nat → Int32 → Int64 → Option (Int64)
  | 0, _, _ => none
  | fu + 1, x3, x1 => if 9 < x3 then (Option.bind (fm_X3_mixedInto 4 24 x1 vT_he_sl_n fT_he_sl_c) (fun r_39 => Option.bind (fm_X3_mixedInto 3 18 r_39 vT_he_fl_n fT_he_fl_c) (fun r_51 => Option.bind (fm_X3_mixedInto 3 15 r_51 vT_he_ro_n fT_he_ro_c) (fun r_63 => Option.bind (fm_X3_mixedInto 4 24 r_63 vT_he_nt_n fT_he_nt_c) (fun r_75 => Option.bind (fm_X3_mixedInto 4 24 r_75 vT_he_mk_n fT_he_mk_c) (fun r_87 => some (((31 * ((31 * r_87) + (Int32.toInt64 vT_ab))) + (Int32.toInt64 vT_be))))))))) else (Option.bind (fm_X7_counted x3 vT_he_ng vT_he_sl_n vT_he_fl_n fT_he_sl_c vT_he_ro_n vT_he_nt_n vT_he_mk_n vT_he_mo_n vT_tx_n) (fun r_19 => fL_X7_digest_6 vT_ab vT_be vT_he_ng vT_he_sl_n fT_he_sl_c vT_he_fl_n fT_he_fl_c vT_he_ro_n fT_he_ro_c vT_he_nt_n fT_he_nt_c vT_he_mk_n fT_he_mk_c vT_he_mo_n vT_tx_n fu (x3 + 1) ((31 * x1) + (Int32.toInt64 r_19))))
def fm_X7_digest (vT_ab : Int32) (vT_be : Int32) (vT_he_ng : Int32) (vT_he_sl_n : Int32) (fT_he_sl_c : Nat → Int32) (vT_he_fl_n : Int32) (fT_he_fl_c : Nat → Int32) (vT_he_ro_n : Int32) (fT_he_ro_c : Nat → Int32) (vT_he_nt_n : Int32) (fT_he_nt_c : Nat → Int32) (vT_he_mk_n : Int32) (fT_he_mk_c : Nat → Int32) (vT_he_mo_n : Int32) (vT_tx_n : Int32) : Option (Int64) := fL_X7_digest_6 vT_ab vT_be vT_he_ng vT_he_sl_n fT_he_sl_c vT_he_fl_n fT_he_fl_c vT_he_ro_n fT_he_ro_c vT_he_nt_n fT_he_nt_c vT_he_mk_n fT_he_mk_c vT_he_mo_n vT_tx_n FU 0 1609
set_option maxHeartbeats 4000000 in
set_option maxRecDepth 100000 in
theorem c_X7_digest (l : Launch) (D : va_G) (cI cZ : ClassId) (sz : Nat) (AT AT_he AT_iz AT_io AT_tx AT_rd AT_fo AT_fi AT_he_sl AT_he_fl AT_he_ro AT_he_nt AT_he_mk AT_he_mo AT_he_sl_c AT_he_fl_c AT_he_ro_c AT_he_nt_c AT_he_mk_c AT_he_mo_c AT_tx_c : Nat) (vT_ab : Int32) (vT_be : Int32) (vT_bo : Int32) (vT_no : Int32) (vT_fu : Int32) (vT_he_ng : Int32) (vT_he_sl_n : Int32) (fT_he_sl_c : Nat → Int32) (vT_he_fl_n : Int32) (fT_he_fl_c : Nat → Int32) (vT_he_ro_n : Int32) (fT_he_ro_c : Nat → Int32) (vT_he_nt_n : Int32) (fT_he_nt_c : Nat → Int32) (vT_he_mk_n : Int32) (fT_he_mk_c : Nat → Int32) (vT_he_mo_n : Int32) (vT_tx_n : Int32) (out : (Int64)) (hm : fm_X7_digest vT_ab vT_be vT_he_ng vT_he_sl_n fT_he_sl_c vT_he_fl_n fT_he_fl_c vT_he_ro_n fT_he_ro_c vT_he_nt_n fT_he_nt_c vT_he_mk_n fT_he_mk_c vT_he_mo_n vT_tx_n = some out) : Met l yX7_digest (Cond.code yX7_digest cX7_digest 4 (some .long) :: bg) { frames := 3, cells := 0, slots := 0, locals := 67 } (va_Pc [.ref AT] (q_pre D cI cZ sz (wd_X7_digest cI cZ AT AT_he AT_iz AT_io AT_tx AT_rd AT_fo AT_fi AT_he_sl AT_he_fl AT_he_ro AT_he_nt AT_he_mk AT_he_mo AT_he_sl_c AT_he_fl_c AT_he_ro_c AT_he_nt_c AT_he_mk_c AT_he_mo_c AT_tx_c vT_ab vT_be vT_bo vT_no vT_fu vT_he_ng vT_he_sl_n fT_he_sl_c vT_he_fl_n fT_he_fl_c vT_he_ro_n fT_he_ro_c vT_he_nt_n fT_he_nt_c vT_he_mk_n fT_he_mk_c vT_he_mo_n vT_tx_n))) (q_Ql D (wd_X7_digest cI cZ AT AT_he AT_iz AT_io AT_tx AT_rd AT_fo AT_fi AT_he_sl AT_he_fl AT_he_ro AT_he_nt AT_he_mk AT_he_mo AT_he_sl_c AT_he_fl_c AT_he_ro_c AT_he_nt_c AT_he_mk_c AT_he_mo_c AT_tx_c vT_ab vT_be vT_bo vT_no vT_fu vT_he_ng vT_he_sl_n fT_he_sl_c vT_he_fl_n fT_he_fl_c vT_he_ro_n fT_he_ro_c vT_he_nt_n fT_he_nt_c vT_he_mk_n fT_he_mk_c vT_he_mo_n vT_tx_n) out (va_A (wd_X7_digest cI cZ AT AT_he AT_iz AT_io AT_tx AT_rd AT_fo AT_fi AT_he_sl AT_he_fl AT_he_ro AT_he_nt AT_he_mk AT_he_mo AT_he_sl_c AT_he_fl_c AT_he_ro_c AT_he_nt_c AT_he_mk_c AT_he_mo_c AT_tx_c vT_ab vT_be vT_bo vT_no vT_fu vT_he_ng vT_he_sl_n fT_he_sl_c vT_he_fl_n fT_he_fl_c vT_he_ro_n fT_he_ro_c vT_he_nt_n fT_he_nt_c vT_he_mk_n fT_he_mk_c vT_he_mo_n vT_tx_n) sz)) 0 0 (va_A (wd_X7_digest cI cZ AT AT_he AT_iz AT_io AT_tx AT_rd AT_fo AT_fi AT_he_sl AT_he_fl AT_he_ro AT_he_nt AT_he_mk AT_he_mo AT_he_sl_c AT_he_fl_c AT_he_ro_c AT_he_nt_c AT_he_mk_c AT_he_mo_c AT_tx_c vT_ab vT_be vT_bo vT_no vT_fu vT_he_ng vT_he_sl_n fT_he_sl_c vT_he_fl_n fT_he_fl_c vT_he_ro_n fT_he_ro_c vT_he_nt_n fT_he_nt_c vT_he_mk_n fT_he_mk_c vT_he_mo_n vT_tx_n) sz) := by
  refine q_met (fun A => q_Ql D (wd_X7_digest cI cZ AT AT_he AT_iz AT_io AT_tx AT_rd AT_fo AT_fi AT_he_sl AT_he_fl AT_he_ro AT_he_nt AT_he_mk AT_he_mo AT_he_sl_c AT_he_fl_c AT_he_ro_c AT_he_nt_c AT_he_mk_c AT_he_mo_c AT_tx_c vT_ab vT_be vT_bo vT_no vT_fu vT_he_ng vT_he_sl_n fT_he_sl_c vT_he_fl_n fT_he_fl_c vT_he_ro_n fT_he_ro_c vT_he_nt_n fT_he_nt_c vT_he_mk_n fT_he_mk_c vT_he_mo_n vT_tx_n) out A) (by decide) (Nat.le_of_ble_eq_true rfl) ?_
  intro p e s m below meth c ls A hx hb hr hml hown hts hlocks _ hA hS hP hD hK hN hl
  have hown : s.vm.findClass RX7 = some m.cls := hown
  have hl : lv_has ls 4 [(0, .ref AT)] := hl
  have hL_6 : ∀ (fu_6 : Nat) (x3 : Int32) (x1 : Int64) (H : Heap) (locs : List Loc) (ls : Array Slot), fL_X7_digest_6 vT_ab vT_be vT_he_ng vT_he_sl_n fT_he_sl_c vT_he_fl_n fT_he_fl_c vT_he_ro_n fT_he_ro_c vT_he_nt_n fT_he_nt_c vT_he_mk_n fT_he_mk_c vT_he_mo_n vT_tx_n fu_6 x3 x1 = some out → va_P D vwCl (wd_X7_digest cI cZ AT AT_he AT_iz AT_io AT_tx AT_rd AT_fo AT_fi AT_he_sl AT_he_fl AT_he_ro AT_he_nt AT_he_mk AT_he_mo AT_he_sl_c AT_he_fl_c AT_he_ro_c AT_he_nt_c AT_he_mk_c AT_he_mo_c AT_tx_c vT_ab vT_be vT_bo vT_no vT_fu vT_he_ng vT_he_sl_n fT_he_sl_c vT_he_fl_n fT_he_fl_c vT_he_ro_n fT_he_ro_c vT_he_nt_n fT_he_nt_c vT_he_mk_n fT_he_mk_c vT_he_mo_n vT_tx_n) H → va_D A (wd_X7_digest cI cZ AT AT_he AT_iz AT_io AT_tx AT_rd AT_fo AT_fi AT_he_sl AT_he_fl AT_he_ro AT_he_nt AT_he_mk AT_he_mo AT_he_sl_c AT_he_fl_c AT_he_ro_c AT_he_nt_c AT_he_mk_c AT_he_mo_c AT_tx_c vT_ab vT_be vT_bo vT_no vT_fu vT_he_ng vT_he_sl_n fT_he_sl_c vT_he_fl_n fT_he_fl_c vT_he_ro_n fT_he_ro_c vT_he_nt_n fT_he_nt_c vT_he_mk_n fT_he_mk_c vT_he_mo_n vT_tx_n) → va_S A s.heap H locs → lv_has ls 4 [(3, .int x3), (1, .long x1), (0, .ref AT)] → W p l e { frames := 3, cells := 0, slots := 0, locals := 67 } s m ([.ref AT] : List Value).toArray below meth c H locs 0 0 (MQ below (q_Ql D (wd_X7_digest cI cZ AT AT_he AT_iz AT_io AT_tx AT_rd AT_fo AT_fi AT_he_sl AT_he_fl AT_he_ro AT_he_nt AT_he_mk AT_he_mo AT_he_sl_c AT_he_fl_c AT_he_ro_c AT_he_nt_c AT_he_mk_c AT_he_mo_c AT_tx_c vT_ab vT_be vT_bo vT_no vT_fu vT_he_ng vT_he_sl_n fT_he_sl_c vT_he_fl_n fT_he_fl_c vT_he_ro_n fT_he_ro_c vT_he_nt_n fT_he_nt_c vT_he_mk_n fT_he_mk_c vT_he_mo_n vT_tx_n) out A) ([.ref AT] : List Value).toArray s 0 0 A) (F0 m 6 ls []) := by
    intro fu_6
    induction fu_6 with
    | zero => intro x3 x1 H locs ls hm hP hD hS hl; exact absurd (show (none : Option (Int64)) = some out from hm) (fun h => nomatch h)
    | succ fu_6 ih_6 =>
      intro x3 x1 H locs ls hm hP hD hS hl
      rw [fL_X7_digest_6] at hm
      refine lv_iload_n hx hb dX7_digest_6 rfl (lv_at hl 0 rfl) ?_
      refine lv_bipush (v := 9) hx hb dX7_digest_7 (by decide) ?_
      refine lv_icmp_gt (tgt := 31) hx hb dX7_digest_9 (by decide) (fun c_9 => ?_) (fun c_9 => ?_)
      · have hm := it_s c_9 hm
        refine lv_aload_n hx hb dX7_digest_31 rfl (lv_at hl 2 rfl) ?_
        refine gf_X7_17 (v := .ref AT_he) hx hb hts hown hK hN hP 0 rfl rfl dX7_digest_32 ?_
        refine gf_X7_67 (v := .ref AT_he_sl) hx hb hts hown hK hN hP 1 rfl rfl dX7_digest_35 ?_
        refine lv_lload_n hx hb dX7_digest_38 rfl (lv_at hl 1 rfl) ?_
        obtain ⟨r_39, hc_39, hm⟩ := ob_s hm
        refine q_cl (q_rv (rest := []) ⟨hx, hb, hml, hown, hts⟩ hK hN hP hD (c_X3_mixedInto l D cI cZ H.size AT_he_sl AT_he_sl_c 4 24 vT_he_sl_n fT_he_sl_c x1 r_39 hc_39) mb_X3_mixedInto mv_X3_mixedInto wl_X7_265 [2, 3] rfl rfl rfl (Nat.le_of_ble_eq_true rfl) (Nat.le_of_ble_eq_true rfl) rfl hl.1 rfl (Nat.le_of_ble_eq_true rfl) ⟨Nat.le_refl 0, Nat.le_refl 0⟩ dX7_digest_39) hP hD hS hA [2, 3] rfl rfl (fun H locs hP hD hS => ?_)
        have hP : va_P D vwCl (wd_X7_digest cI cZ AT AT_he AT_iz AT_io AT_tx AT_rd AT_fo AT_fi AT_he_sl AT_he_fl AT_he_ro AT_he_nt AT_he_mk AT_he_mo AT_he_sl_c AT_he_fl_c AT_he_ro_c AT_he_nt_c AT_he_mk_c AT_he_mo_c AT_tx_c vT_ab vT_be vT_bo vT_no vT_fu vT_he_ng vT_he_sl_n fT_he_sl_c vT_he_fl_n fT_he_fl_c vT_he_ro_n fT_he_ro_c vT_he_nt_n fT_he_nt_c vT_he_mk_n fT_he_mk_c vT_he_mo_n vT_tx_n) H := hP
        have hD : va_D A (wd_X7_digest cI cZ AT AT_he AT_iz AT_io AT_tx AT_rd AT_fo AT_fi AT_he_sl AT_he_fl AT_he_ro AT_he_nt AT_he_mk AT_he_mo AT_he_sl_c AT_he_fl_c AT_he_ro_c AT_he_nt_c AT_he_mk_c AT_he_mo_c AT_tx_c vT_ab vT_be vT_bo vT_no vT_fu vT_he_ng vT_he_sl_n fT_he_sl_c vT_he_fl_n fT_he_fl_c vT_he_ro_n fT_he_ro_c vT_he_nt_n fT_he_nt_c vT_he_mk_n fT_he_mk_c vT_he_mo_n vT_tx_n) := hD
        refine lv_lstore_n (lv' := [(1, .long r_39), (3, .int x3), (0, .ref AT)]) hx hb dX7_digest_42 rfl hl (by decide) rfl (fun ls hl => ?_)
        refine lv_aload_n hx hb dX7_digest_43 rfl (lv_at hl 2 rfl) ?_
        refine gf_X7_17 (v := .ref AT_he) hx hb hts hown hK hN hP 0 rfl rfl dX7_digest_44 ?_
        refine gf_X7_96 (v := .ref AT_he_fl) hx hb hts hown hK hN hP 1 rfl rfl dX7_digest_47 ?_
        refine lv_lload_n hx hb dX7_digest_50 rfl (lv_at hl 0 rfl) ?_
        obtain ⟨r_51, hc_51, hm⟩ := ob_s hm
        refine q_cl (q_rv (rest := []) ⟨hx, hb, hml, hown, hts⟩ hK hN hP hD (c_X3_mixedInto l D cI cZ H.size AT_he_fl AT_he_fl_c 3 18 vT_he_fl_n fT_he_fl_c r_39 r_51 hc_51) mb_X3_mixedInto mv_X3_mixedInto wl_X7_265 [4, 5] rfl rfl rfl (Nat.le_of_ble_eq_true rfl) (Nat.le_of_ble_eq_true rfl) rfl hl.1 rfl (Nat.le_of_ble_eq_true rfl) ⟨Nat.le_refl 0, Nat.le_refl 0⟩ dX7_digest_51) hP hD hS hA [4, 5] rfl rfl (fun H locs hP hD hS => ?_)
        have hP : va_P D vwCl (wd_X7_digest cI cZ AT AT_he AT_iz AT_io AT_tx AT_rd AT_fo AT_fi AT_he_sl AT_he_fl AT_he_ro AT_he_nt AT_he_mk AT_he_mo AT_he_sl_c AT_he_fl_c AT_he_ro_c AT_he_nt_c AT_he_mk_c AT_he_mo_c AT_tx_c vT_ab vT_be vT_bo vT_no vT_fu vT_he_ng vT_he_sl_n fT_he_sl_c vT_he_fl_n fT_he_fl_c vT_he_ro_n fT_he_ro_c vT_he_nt_n fT_he_nt_c vT_he_mk_n fT_he_mk_c vT_he_mo_n vT_tx_n) H := hP
        have hD : va_D A (wd_X7_digest cI cZ AT AT_he AT_iz AT_io AT_tx AT_rd AT_fo AT_fi AT_he_sl AT_he_fl AT_he_ro AT_he_nt AT_he_mk AT_he_mo AT_he_sl_c AT_he_fl_c AT_he_ro_c AT_he_nt_c AT_he_mk_c AT_he_mo_c AT_tx_c vT_ab vT_be vT_bo vT_no vT_fu vT_he_ng vT_he_sl_n fT_he_sl_c vT_he_fl_n fT_he_fl_c vT_he_ro_n fT_he_ro_c vT_he_nt_n fT_he_nt_c vT_he_mk_n fT_he_mk_c vT_he_mo_n vT_tx_n) := hD
        refine lv_lstore_n (lv' := [(1, .long r_51), (3, .int x3), (0, .ref AT)]) hx hb dX7_digest_54 rfl hl (by decide) rfl (fun ls hl => ?_)
        refine lv_aload_n hx hb dX7_digest_55 rfl (lv_at hl 2 rfl) ?_
        refine gf_X7_17 (v := .ref AT_he) hx hb hts hown hK hN hP 0 rfl rfl dX7_digest_56 ?_
        refine gf_X7_183 (v := .ref AT_he_ro) hx hb hts hown hK hN hP 1 rfl rfl dX7_digest_59 ?_
        refine lv_lload_n hx hb dX7_digest_62 rfl (lv_at hl 0 rfl) ?_
        obtain ⟨r_63, hc_63, hm⟩ := ob_s hm
        refine q_cl (q_rv (rest := []) ⟨hx, hb, hml, hown, hts⟩ hK hN hP hD (c_X3_mixedInto l D cI cZ H.size AT_he_ro AT_he_ro_c 3 15 vT_he_ro_n fT_he_ro_c r_51 r_63 hc_63) mb_X3_mixedInto mv_X3_mixedInto wl_X7_265 [6, 7] rfl rfl rfl (Nat.le_of_ble_eq_true rfl) (Nat.le_of_ble_eq_true rfl) rfl hl.1 rfl (Nat.le_of_ble_eq_true rfl) ⟨Nat.le_refl 0, Nat.le_refl 0⟩ dX7_digest_63) hP hD hS hA [6, 7] rfl rfl (fun H locs hP hD hS => ?_)
        have hP : va_P D vwCl (wd_X7_digest cI cZ AT AT_he AT_iz AT_io AT_tx AT_rd AT_fo AT_fi AT_he_sl AT_he_fl AT_he_ro AT_he_nt AT_he_mk AT_he_mo AT_he_sl_c AT_he_fl_c AT_he_ro_c AT_he_nt_c AT_he_mk_c AT_he_mo_c AT_tx_c vT_ab vT_be vT_bo vT_no vT_fu vT_he_ng vT_he_sl_n fT_he_sl_c vT_he_fl_n fT_he_fl_c vT_he_ro_n fT_he_ro_c vT_he_nt_n fT_he_nt_c vT_he_mk_n fT_he_mk_c vT_he_mo_n vT_tx_n) H := hP
        have hD : va_D A (wd_X7_digest cI cZ AT AT_he AT_iz AT_io AT_tx AT_rd AT_fo AT_fi AT_he_sl AT_he_fl AT_he_ro AT_he_nt AT_he_mk AT_he_mo AT_he_sl_c AT_he_fl_c AT_he_ro_c AT_he_nt_c AT_he_mk_c AT_he_mo_c AT_tx_c vT_ab vT_be vT_bo vT_no vT_fu vT_he_ng vT_he_sl_n fT_he_sl_c vT_he_fl_n fT_he_fl_c vT_he_ro_n fT_he_ro_c vT_he_nt_n fT_he_nt_c vT_he_mk_n fT_he_mk_c vT_he_mo_n vT_tx_n) := hD
        refine lv_lstore_n (lv' := [(1, .long r_63), (3, .int x3), (0, .ref AT)]) hx hb dX7_digest_66 rfl hl (by decide) rfl (fun ls hl => ?_)
        refine lv_aload_n hx hb dX7_digest_67 rfl (lv_at hl 2 rfl) ?_
        refine gf_X7_17 (v := .ref AT_he) hx hb hts hown hK hN hP 0 rfl rfl dX7_digest_68 ?_
        refine gf_X7_201 (v := .ref AT_he_nt) hx hb hts hown hK hN hP 1 rfl rfl dX7_digest_71 ?_
        refine lv_lload_n hx hb dX7_digest_74 rfl (lv_at hl 0 rfl) ?_
        obtain ⟨r_75, hc_75, hm⟩ := ob_s hm
        refine q_cl (q_rv (rest := []) ⟨hx, hb, hml, hown, hts⟩ hK hN hP hD (c_X3_mixedInto l D cI cZ H.size AT_he_nt AT_he_nt_c 4 24 vT_he_nt_n fT_he_nt_c r_63 r_75 hc_75) mb_X3_mixedInto mv_X3_mixedInto wl_X7_265 [8, 9] rfl rfl rfl (Nat.le_of_ble_eq_true rfl) (Nat.le_of_ble_eq_true rfl) rfl hl.1 rfl (Nat.le_of_ble_eq_true rfl) ⟨Nat.le_refl 0, Nat.le_refl 0⟩ dX7_digest_75) hP hD hS hA [8, 9] rfl rfl (fun H locs hP hD hS => ?_)
        have hP : va_P D vwCl (wd_X7_digest cI cZ AT AT_he AT_iz AT_io AT_tx AT_rd AT_fo AT_fi AT_he_sl AT_he_fl AT_he_ro AT_he_nt AT_he_mk AT_he_mo AT_he_sl_c AT_he_fl_c AT_he_ro_c AT_he_nt_c AT_he_mk_c AT_he_mo_c AT_tx_c vT_ab vT_be vT_bo vT_no vT_fu vT_he_ng vT_he_sl_n fT_he_sl_c vT_he_fl_n fT_he_fl_c vT_he_ro_n fT_he_ro_c vT_he_nt_n fT_he_nt_c vT_he_mk_n fT_he_mk_c vT_he_mo_n vT_tx_n) H := hP
        have hD : va_D A (wd_X7_digest cI cZ AT AT_he AT_iz AT_io AT_tx AT_rd AT_fo AT_fi AT_he_sl AT_he_fl AT_he_ro AT_he_nt AT_he_mk AT_he_mo AT_he_sl_c AT_he_fl_c AT_he_ro_c AT_he_nt_c AT_he_mk_c AT_he_mo_c AT_tx_c vT_ab vT_be vT_bo vT_no vT_fu vT_he_ng vT_he_sl_n fT_he_sl_c vT_he_fl_n fT_he_fl_c vT_he_ro_n fT_he_ro_c vT_he_nt_n fT_he_nt_c vT_he_mk_n fT_he_mk_c vT_he_mo_n vT_tx_n) := hD
        refine lv_lstore_n (lv' := [(1, .long r_75), (3, .int x3), (0, .ref AT)]) hx hb dX7_digest_78 rfl hl (by decide) rfl (fun ls hl => ?_)
        refine lv_aload_n hx hb dX7_digest_79 rfl (lv_at hl 2 rfl) ?_
        refine gf_X7_17 (v := .ref AT_he) hx hb hts hown hK hN hP 0 rfl rfl dX7_digest_80 ?_
        refine gf_X7_204 (v := .ref AT_he_mk) hx hb hts hown hK hN hP 1 rfl rfl dX7_digest_83 ?_
        refine lv_lload_n hx hb dX7_digest_86 rfl (lv_at hl 0 rfl) ?_
        obtain ⟨r_87, hc_87, hm⟩ := ob_s hm
        refine q_cl (q_rv (rest := []) ⟨hx, hb, hml, hown, hts⟩ hK hN hP hD (c_X3_mixedInto l D cI cZ H.size AT_he_mk AT_he_mk_c 4 24 vT_he_mk_n fT_he_mk_c r_75 r_87 hc_87) mb_X3_mixedInto mv_X3_mixedInto wl_X7_265 [10, 11] rfl rfl rfl (Nat.le_of_ble_eq_true rfl) (Nat.le_of_ble_eq_true rfl) rfl hl.1 rfl (Nat.le_of_ble_eq_true rfl) ⟨Nat.le_refl 0, Nat.le_refl 0⟩ dX7_digest_87) hP hD hS hA [10, 11] rfl rfl (fun H locs hP hD hS => ?_)
        have hP : va_P D vwCl (wd_X7_digest cI cZ AT AT_he AT_iz AT_io AT_tx AT_rd AT_fo AT_fi AT_he_sl AT_he_fl AT_he_ro AT_he_nt AT_he_mk AT_he_mo AT_he_sl_c AT_he_fl_c AT_he_ro_c AT_he_nt_c AT_he_mk_c AT_he_mo_c AT_tx_c vT_ab vT_be vT_bo vT_no vT_fu vT_he_ng vT_he_sl_n fT_he_sl_c vT_he_fl_n fT_he_fl_c vT_he_ro_n fT_he_ro_c vT_he_nt_n fT_he_nt_c vT_he_mk_n fT_he_mk_c vT_he_mo_n vT_tx_n) H := hP
        have hD : va_D A (wd_X7_digest cI cZ AT AT_he AT_iz AT_io AT_tx AT_rd AT_fo AT_fi AT_he_sl AT_he_fl AT_he_ro AT_he_nt AT_he_mk AT_he_mo AT_he_sl_c AT_he_fl_c AT_he_ro_c AT_he_nt_c AT_he_mk_c AT_he_mo_c AT_tx_c vT_ab vT_be vT_bo vT_no vT_fu vT_he_ng vT_he_sl_n fT_he_sl_c vT_he_fl_n fT_he_fl_c vT_he_ro_n fT_he_ro_c vT_he_nt_n fT_he_nt_c vT_he_mk_n fT_he_mk_c vT_he_mo_n vT_tx_n) := hD
        refine lv_lstore_n (lv' := [(1, .long r_87), (3, .int x3), (0, .ref AT)]) hx hb dX7_digest_90 rfl hl (by decide) rfl (fun ls hl => ?_)
        refine lv_ldc2 (v := 31) hx hb hown (hts _ wv_X7_263) dX7_digest_91 ?_
        refine lv_lload_n hx hb dX7_digest_94 rfl (lv_at hl 0 rfl) ?_
        refine lv_lmul hx hb dX7_digest_95 ?_
        refine lv_aload_n hx hb dX7_digest_96 rfl (lv_at hl 2 rfl) ?_
        refine gf_X7_60 (v := .int vT_ab) hx hb hts hown hK hN hP 0 rfl rfl dX7_digest_97 ?_
        refine lv_i2l (v := (Int32.toInt64 vT_ab)) hx hb dX7_digest_100 rfl ?_
        refine lv_ladd hx hb dX7_digest_101 ?_
        refine lv_lstore_n (lv' := [(1, .long ((31 * r_87) + (Int32.toInt64 vT_ab))), (3, .int x3), (0, .ref AT)]) hx hb dX7_digest_102 rfl hl (by decide) rfl (fun ls hl => ?_)
        refine lv_ldc2 (v := 31) hx hb hown (hts _ wv_X7_263) dX7_digest_103 ?_
        refine lv_lload_n hx hb dX7_digest_106 rfl (lv_at hl 0 rfl) ?_
        refine lv_lmul hx hb dX7_digest_107 ?_
        refine lv_aload_n hx hb dX7_digest_108 rfl (lv_at hl 2 rfl) ?_
        refine gf_X7_64 (v := .int vT_be) hx hb hts hown hK hN hP 0 rfl rfl dX7_digest_109 ?_
        refine lv_i2l (v := (Int32.toInt64 vT_be)) hx hb dX7_digest_112 rfl ?_
        refine lv_ladd hx hb dX7_digest_113 ?_
        have hm := Option.some.inj hm
        subst hm
        exact q_lret (v := ((31 * ((31 * r_87) + (Int32.toInt64 vT_ab))) + (Int32.toInt64 vT_be))) hx hb hr hlocks hP hS dX7_digest_114
      · have hm := it_n c_9 hm
        refine lv_ldc2 (v := 31) hx hb hown (hts _ wv_X7_263) dX7_digest_12 ?_
        refine lv_lload_n hx hb dX7_digest_15 rfl (lv_at hl 1 rfl) ?_
        refine lv_lmul hx hb dX7_digest_16 ?_
        refine lv_aload_n hx hb dX7_digest_17 rfl (lv_at hl 2 rfl) ?_
        refine lv_iload_n hx hb dX7_digest_18 rfl (lv_at hl 0 rfl) ?_
        obtain ⟨r_19, hc_19, hm⟩ := ob_s hm
        refine q_ci (q_rv (rest := [.long (31 * x1)]) ⟨hx, hb, hml, hown, hts⟩ hK hN hP hD (c_X7_counted l D cI cZ H.size AT AT_he AT_iz AT_io AT_tx AT_rd AT_fo AT_fi AT_he_sl AT_he_fl AT_he_ro AT_he_nt AT_he_mk AT_he_mo AT_he_sl_c AT_he_fl_c AT_he_ro_c AT_he_nt_c AT_he_mk_c AT_he_mo_c AT_tx_c vT_ab vT_be vT_bo vT_no vT_fu vT_he_ng vT_he_sl_n vT_he_fl_n fT_he_sl_c vT_he_ro_n vT_he_nt_n vT_he_mk_n vT_he_mo_n vT_tx_n x3 r_19 hc_19) mb_X7_counted mv_X7_counted wl_X7_258 [0, 1, 2, 4, 3, 6, 8, 10, 12, 13] rfl rfl rfl (Nat.le_of_ble_eq_true rfl) (Nat.le_of_ble_eq_true rfl) rfl hl.1 rfl (Nat.le_of_ble_eq_true rfl) ⟨Nat.le_refl 0, Nat.le_refl 0⟩ dX7_digest_19) hP hD hS hA [0, 1, 2, 4, 3, 6, 8, 10, 12, 13] rfl rfl (fun H locs hP hD hS => ?_)
        have hP : va_P D vwCl (wd_X7_digest cI cZ AT AT_he AT_iz AT_io AT_tx AT_rd AT_fo AT_fi AT_he_sl AT_he_fl AT_he_ro AT_he_nt AT_he_mk AT_he_mo AT_he_sl_c AT_he_fl_c AT_he_ro_c AT_he_nt_c AT_he_mk_c AT_he_mo_c AT_tx_c vT_ab vT_be vT_bo vT_no vT_fu vT_he_ng vT_he_sl_n fT_he_sl_c vT_he_fl_n fT_he_fl_c vT_he_ro_n fT_he_ro_c vT_he_nt_n fT_he_nt_c vT_he_mk_n fT_he_mk_c vT_he_mo_n vT_tx_n) H := hP
        have hD : va_D A (wd_X7_digest cI cZ AT AT_he AT_iz AT_io AT_tx AT_rd AT_fo AT_fi AT_he_sl AT_he_fl AT_he_ro AT_he_nt AT_he_mk AT_he_mo AT_he_sl_c AT_he_fl_c AT_he_ro_c AT_he_nt_c AT_he_mk_c AT_he_mo_c AT_tx_c vT_ab vT_be vT_bo vT_no vT_fu vT_he_ng vT_he_sl_n fT_he_sl_c vT_he_fl_n fT_he_fl_c vT_he_ro_n fT_he_ro_c vT_he_nt_n fT_he_nt_c vT_he_mk_n fT_he_mk_c vT_he_mo_n vT_tx_n) := hD
        refine lv_i2l (v := (Int32.toInt64 r_19)) hx hb dX7_digest_22 rfl ?_
        refine lv_ladd hx hb dX7_digest_23 ?_
        refine lv_lstore_n (lv' := [(1, .long ((31 * x1) + (Int32.toInt64 r_19))), (3, .int x3), (0, .ref AT)]) hx hb dX7_digest_24 rfl hl (by decide) rfl (fun ls hl => ?_)
        refine lv_iinc (v := (x3 + 1)) (lv' := [(3, .int (x3 + 1)), (1, .long ((31 * x1) + (Int32.toInt64 r_19))), (0, .ref AT)]) hx hb dX7_digest_25 hl (k := 1) rfl rfl (by decide) rfl (fun ls hl => ?_)
        refine lv_goto (tgt := 6) hx hb dX7_digest_28 (by decide) ?_
        exact ih_6 (x3 + 1) ((31 * x1) + (Int32.toInt64 r_19)) H locs ls hm hP hD hS (lv_sub hl [0, 1, 2] rfl)
  unfold fm_X7_digest at hm
  refine q_gen hS hP ?_
  intro H locs hP hS
  refine lv_ldc2 (v := 1609) hx hb hown (hts _ wv_X7_261) dX7_digest_0 ?_
  refine lv_lstore_n (lv' := [(1, .long 1609), (0, .ref AT)]) hx hb dX7_digest_3 rfl hl (by decide) rfl (fun ls hl => ?_)
  refine lv_iconst (v := 0) hx hb dX7_digest_4 (by decide) ?_
  refine lv_istore_n (lv' := [(3, .int 0), (1, .long 1609), (0, .ref AT)]) hx hb dX7_digest_5 rfl hl (by decide) rfl (fun ls hl => ?_)
  exact hL_6 FU 0 1609 H locs ls hm hP hD hS (lv_sub hl [0, 1, 2] rfl)
