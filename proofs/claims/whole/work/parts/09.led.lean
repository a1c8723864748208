theorem mb_X7_within : q_mb yX7_within cX7_within 3 (some .boolean) 3 := ⟨wc_X7_within, wn_X7, by decide, by decide, by decide +kernel⟩
def wd_X7_within (cI cZ : ClassId) : va_W := []
def fm_X7_within (p0 : Int32) (p1 : Int32) (p2 : Int32) : Option (Int32) := if p0 < p1 then (some (0)) else (if p2 < p0 then (some (0)) else (some (1)))
set_option maxHeartbeats 4000000 in
set_option maxRecDepth 100000 in
theorem c_X7_within (l : Launch) (D : va_G) (cI cZ : ClassId) (sz : Nat) (p0 : Int32) (p1 : Int32) (p2 : Int32) (out : (Int32)) (hm : fm_X7_within p0 p1 p2 = some out) : Met l yX7_within (Cond.code yX7_within cX7_within 3 (some .boolean) :: bg) { frames := 0, cells := 0, slots := 0, locals := 0 } (va_Pc [.int p0, .int p1, .int p2] (q_pre D cI cZ sz (wd_X7_within cI cZ))) (q_Qi D (wd_X7_within cI cZ) out (va_A (wd_X7_within cI cZ) sz)) 0 0 (va_A (wd_X7_within cI cZ) sz) := by
  refine q_met (fun A => q_Qi D (wd_X7_within cI cZ) out A) (by decide) (Nat.le_of_ble_eq_true rfl) ?_
  intro p e s m below meth c ls A hx hb hr hml hown hts hlocks _ hA hS hP hD hK hN hl
  have hown : s.vm.findClass RX7 = some m.cls := hown
  have hl : lv_has ls 3 [(0, .int p0), (1, .int p1), (2, .int p2)] := hl
  unfold fm_X7_within at hm
  refine q_gen hS hP ?_
  intro H locs hP hS
  refine lv_iload_n hx hb dX7_within_0 rfl (lv_at hl 0 rfl) ?_
  refine lv_iload_n hx hb dX7_within_1 rfl (lv_at hl 1 rfl) ?_
  refine lv_icmp_lt (tgt := 14) hx hb dX7_within_2 (by decide) (fun c_2 => ?_) (fun c_2 => ?_)
  · have hm := it_s c_2 hm
    refine lv_iconst (v := 0) hx hb dX7_within_14 (by decide) ?_
    have hm := Option.some.inj hm
    subst hm
    exact q_zret (v := 0) hx hb hr hlocks rfl hP hS dX7_within_15
  · have hm := it_n c_2 hm
    refine lv_iload_n hx hb dX7_within_5 rfl (lv_at hl 0 rfl) ?_
    refine lv_iload_n hx hb dX7_within_6 rfl (lv_at hl 2 rfl) ?_
    refine lv_icmp_gt (tgt := 14) hx hb dX7_within_7 (by decide) (fun c_7 => ?_) (fun c_7 => ?_)
    · have hm := it_s c_7 hm
      refine lv_iconst (v := 0) hx hb dX7_within_14 (by decide) ?_
      have hm := Option.some.inj hm
      subst hm
      exact q_zret (v := 0) hx hb hr hlocks rfl hP hS dX7_within_15
    · have hm := it_n c_7 hm
      refine lv_iconst (v := 1) hx hb dX7_within_10 (by decide) ?_
      refine lv_goto (tgt := 15) hx hb dX7_within_11 (by decide) ?_
      have hm := Option.some.inj hm
      subst hm
      exact q_zret (v := 1) hx hb hr hlocks rfl hP hS dX7_within_15
theorem mb_X7_at : q_mb yX7_at cX7_at 2 (some .int) 2 := ⟨wc_X7_at, wn_X7, by decide, by decide, by decide +kernel⟩
def wd_X7_at (cI cZ : ClassId) (A0 : Nat) (n0 : Nat) (f0 : Nat → Int32) : va_W := [(A0, .inl (cI, n0, .inl f0))]
def fm_X7_at (n0 : Nat) (p1 : Int32) (f0 : Nat → Int32) : Option (Int32) := if p1 < 0 then (some (0)) else (if (Int32.ofNat n0) ≤ p1 then (some (0)) else (gd p1 n0 (some ((f0 (Int32.toNatClampNeg p1))))))
set_option maxHeartbeats 4000000 in
set_option maxRecDepth 100000 in
theorem c_X7_at (l : Launch) (D : va_G) (cI cZ : ClassId) (sz : Nat) (A0 : Nat) (n0 : Nat) (f0 : Nat → Int32) (p1 : Int32) (out : (Int32)) (hm : fm_X7_at n0 p1 f0 = some out) : Met l yX7_at (Cond.code yX7_at cX7_at 2 (some .int) :: bg) { frames := 0, cells := 0, slots := 0, locals := 0 } (va_Pc [.ref A0, .int p1] (q_pre D cI cZ sz (wd_X7_at cI cZ A0 n0 f0))) (q_Qi D (wd_X7_at cI cZ A0 n0 f0) out (va_A (wd_X7_at cI cZ A0 n0 f0) sz)) 0 0 (va_A (wd_X7_at cI cZ A0 n0 f0) sz) := by
  refine q_met (fun A => q_Qi D (wd_X7_at cI cZ A0 n0 f0) out A) (by decide) (Nat.le_of_ble_eq_true rfl) ?_
  intro p e s m below meth c ls A hx hb hr hml hown hts hlocks _ hA hS hP hD hK hN hl
  have hown : s.vm.findClass RX7 = some m.cls := hown
  have hl : lv_has ls 2 [(0, .ref A0), (1, .int p1)] := hl
  unfold fm_X7_at at hm
  refine q_gen hS hP ?_
  intro H locs hP hS
  refine lv_iload_n hx hb dX7_at_0 rfl (lv_at hl 1 rfl) ?_
  refine lv_if_lt (tgt := 16) hx hb dX7_at_1 (by decide) (fun c_1 => ?_) (fun c_1 => ?_)
  · have hm := it_s c_1 hm
    refine lv_iconst (v := 0) hx hb dX7_at_16 (by decide) ?_
    have hm := Option.some.inj hm
    subst hm
    exact q_iret (v := 0) hx hb hr hlocks hP hS dX7_at_17
  · have hm := it_n c_1 hm
    refine lv_iload_n hx hb dX7_at_4 rfl (lv_at hl 1 rfl) ?_
    refine lv_aload_n hx hb dX7_at_5 rfl (lv_at hl 0 rfl) ?_
    refine va_alen (v := (Int32.ofNat n0)) hx hb hK hP 0 0 rfl rfl rfl dX7_at_6 ?_
    refine lv_icmp_ge (tgt := 16) hx hb dX7_at_7 (by decide) (fun c_7 => ?_) (fun c_7 => ?_)
    · have hm := it_s c_7 hm
      refine lv_iconst (v := 0) hx hb dX7_at_16 (by decide) ?_
      have hm := Option.some.inj hm
      subst hm
      exact q_iret (v := 0) hx hb hr hlocks hP hS dX7_at_17
    · have hm := it_n c_7 hm
      refine lv_aload_n hx hb dX7_at_10 rfl (lv_at hl 0 rfl) ?_
      refine lv_iload_n hx hb dX7_at_11 rfl (lv_at hl 1 rfl) ?_
      obtain ⟨hi_12, hm⟩ := gd_s hm
      refine q_iald (j := (Int32.toNatClampNeg p1)) hx hb hK hP 0 rfl hi_12 rfl dX7_at_12 ?_
      refine lv_goto (tgt := 17) hx hb dX7_at_13 (by decide) ?_
      have hm := Option.some.inj hm
      subst hm
      exact q_iret (v := (f0 (Int32.toNatClampNeg p1))) hx hb hr hlocks hP hS dX7_at_17
theorem mb_X7_put : q_mb yX7_put cX7_put 3 none 3 := ⟨wc_X7_put, wn_X7, by decide, by decide, by decide +kernel⟩
def wd_X7_put (cI cZ : ClassId) (A0 : Nat) (n0 : Nat) (f0 : Nat → Int32) : va_W := [(A0, .inl (cI, n0, .inl f0))]
def fm_X7_put (n0 : Nat) (p1 : Int32) (p2 : Int32) (f0 : Nat → Int32) : Option ((Nat → Int32)) := if p1 < 0 then (some (f0)) else (if (Int32.ofNat n0) ≤ p1 then (some (f0)) else (gd p1 n0 (some ((upd f0 (Int32.toNatClampNeg p1) p2)))))
set_option maxHeartbeats 4000000 in
set_option maxRecDepth 100000 in
theorem c_X7_put (l : Launch) (D : va_G) (cI cZ : ClassId) (sz : Nat) (A0 : Nat) (n0 : Nat) (f0 : Nat → Int32) (p1 : Int32) (p2 : Int32) (out : ((Nat → Int32))) (hm : fm_X7_put n0 p1 p2 f0 = some out) : Met l yX7_put (Cond.code yX7_put cX7_put 3 none :: bg) { frames := 0, cells := 0, slots := 0, locals := 0 } (va_Pc [.ref A0, .int p1, .int p2] (q_pre D cI cZ sz (wd_X7_put cI cZ A0 n0 f0))) (q_Qv D (wd_X7_put cI cZ A0 n0 out) (va_A (wd_X7_put cI cZ A0 n0 f0) sz)) 0 0 (va_A (wd_X7_put cI cZ A0 n0 f0) sz) := by
  refine q_met (fun A => q_Qv D (wd_X7_put cI cZ A0 n0 out) A) (by decide) (Nat.le_of_ble_eq_true rfl) ?_
  intro p e s m below meth c ls A hx hb hr hml hown hts hlocks _ hA hS hP hD hK hN hl
  have hown : s.vm.findClass RX7 = some m.cls := hown
  have hl : lv_has ls 3 [(0, .ref A0), (1, .int p1), (2, .int p2)] := hl
  unfold fm_X7_put at hm
  refine q_gen hS hP ?_
  intro H locs hP hS
  refine lv_iload_n hx hb dX7_put_0 rfl (lv_at hl 1 rfl) ?_
  refine lv_if_lt (tgt := 14) hx hb dX7_put_1 (by decide) (fun c_1 => ?_) (fun c_1 => ?_)
  · have hm := it_s c_1 hm
    have hm := Option.some.inj hm
    subst hm
    exact q_vret hx hb hr hlocks hP hS dX7_put_14
  · have hm := it_n c_1 hm
    refine lv_iload_n hx hb dX7_put_4 rfl (lv_at hl 1 rfl) ?_
    refine lv_aload_n hx hb dX7_put_5 rfl (lv_at hl 0 rfl) ?_
    refine va_alen (v := (Int32.ofNat n0)) hx hb hK hP 0 0 rfl rfl rfl dX7_put_6 ?_
    refine lv_icmp_ge (tgt := 14) hx hb dX7_put_7 (by decide) (fun c_7 => ?_) (fun c_7 => ?_)
    · have hm := it_s c_7 hm
      have hm := Option.some.inj hm
      subst hm
      exact q_vret hx hb hr hlocks hP hS dX7_put_14
    · have hm := it_n c_7 hm
      refine lv_aload_n hx hb dX7_put_10 rfl (lv_at hl 0 rfl) ?_
      refine lv_iload_n hx hb dX7_put_11 rfl (lv_at hl 1 rfl) ?_
      refine lv_iload_n hx hb dX7_put_12 rfl (lv_at hl 2 rfl) ?_
      obtain ⟨hi_13, hm⟩ := gd_s hm
      refine q_iast (j := (Int32.toNatClampNeg p1)) hx hb hK hP hD hS 0 rfl hi_13 rfl dX7_put_13 (fun H locs hP hD hS => ?_)
      have hP : va_P D vwCl (wd_X7_put cI cZ A0 n0 (upd f0 (Int32.toNatClampNeg p1) p2)) H := hP
      have hD : va_D A (wd_X7_put cI cZ A0 n0 (upd f0 (Int32.toNatClampNeg p1) p2)) := hD
      have hm := Option.some.inj hm
      subst hm
      exact q_vret hx hb hr hlocks hP hS dX7_put_14
theorem gf_X3_17 {p : Program} {l : Launch} {e : Env} {R : Room} {s : State} {m : MethodId} {args : Array Value} {below : List Frame} {meth : Method} {c : Code} {H : Heap} {locs : List Loc} {cells slots : Nat} {Q : State → Prop} {pc : Nat} {ls : Array Slot} {cc : ByteArray} {D : va_G} {cI cZ : ClassId} {ws : va_W} {a : Nat} {rest fs : List Value} (hx : p.tables.exec = Jvm.exec) (hb : c.code = cc) (hts : ∀ w ∈ bg, w.before args s = true) (hown : s.vm.findClass RX3 = some m.cls) (hK : va_K D vwCl (q_tys cI cZ) s) (hN : q_N s) (hP : va_P D vwCl ws H) (q0 : Nat) (he : ws[q0]? = some (a, .inr (3, fs))) {v : Value} (hv : fs[2]? = some v) (hdg : decode cc pc = .ok (.getfield 17, 3)) (kk : W p l e R s m args below meth c H locs cells slots Q (F0 m (pc + 3) ls (v :: rest))) : W p l e R s m args below meth c H locs cells slots Q (F0 m pc ls (.ref a :: rest)) :=
  va_get (C := RX3) (T := TX3) (N := 3) hx hb hts wu_X3 hown hK hP q0 he rfl 2 (by decide) (hts _ wf_X3_17) (fun _ h9 => h9) hv hdg kk
theorem mb_X3_size : q_mb yX3_size cX3_size 1 (some .int) 0 := ⟨wc_X3_size, wn_X3, by decide, by decide, by decide +kernel⟩
theorem mv_X3_size : q_mv yX3_size 3 := ⟨wi_X3_size, ws_X3_size, _, rfl, rfl⟩
def wd_X3_size (cI cZ : ClassId) (AT AT_c : Nat) (wT : Int32) (vT_n : Int32) : va_W := [(AT, .inr (3, [.int wT, .ref AT_c, .int vT_n]))]
def fm_X3_size (vT_n : Int32) : Option (Int32) := some (vT_n)
set_option maxHeartbeats 4000000 in
set_option maxRecDepth 100000 in
theorem c_X3_size (l : Launch) (D : va_G) (cI cZ : ClassId) (sz : Nat) (AT AT_c : Nat) (wT : Int32) (vT_n : Int32) (out : (Int32)) (hm : fm_X3_size vT_n = some out) : Met l yX3_size (Cond.code yX3_size cX3_size 1 (some .int) :: bg) { frames := 0, cells := 0, slots := 0, locals := 0 } (va_Pc [.ref AT] (q_pre D cI cZ sz (wd_X3_size cI cZ AT AT_c wT vT_n))) (q_Qi D (wd_X3_size cI cZ AT AT_c wT vT_n) out (va_A (wd_X3_size cI cZ AT AT_c wT vT_n) sz)) 0 0 (va_A (wd_X3_size cI cZ AT AT_c wT vT_n) sz) := by
  refine q_met (fun A => q_Qi D (wd_X3_size cI cZ AT AT_c wT vT_n) out A) (by decide) (Nat.le_of_ble_eq_true rfl) ?_
  intro p e s m below meth c ls A hx hb hr hml hown hts hlocks _ hA hS hP hD hK hN hl
  have hown : s.vm.findClass RX3 = some m.cls := hown
  have hl : lv_has ls 1 [(0, .ref AT)] := hl
  unfold fm_X3_size at hm
  refine q_gen hS hP ?_
  intro H locs hP hS
  refine lv_aload_n hx hb dX3_size_0 rfl (lv_at hl 0 rfl) ?_
  refine gf_X3_17 (v := .int vT_n) hx hb hts hown hK hN hP 0 rfl rfl dX3_size_1 ?_
  have hm := Option.some.inj hm
  subst hm
  exact q_iret (v := vT_n) hx hb hr hlocks hP hS dX3_size_4
theorem gf_X3_7 {p : Program} {l : Launch} {e : Env} {R : Room} {s : State} {m : MethodId} {args : Array Value} {below : List Frame} {meth : Method} {c : Code} {H : Heap} {locs : List Loc} {cells slots : Nat} {Q : State → Prop} {pc : Nat} {ls : Array Slot} {cc : ByteArray} {D : va_G} {cI cZ : ClassId} {ws : va_W} {a : Nat} {rest fs : List Value} (hx : p.tables.exec = Jvm.exec) (hb : c.code = cc) (hts : ∀ w ∈ bg, w.before args s = true) (hown : s.vm.findClass RX3 = some m.cls) (hK : va_K D vwCl (q_tys cI cZ) s) (hN : q_N s) (hP : va_P D vwCl ws H) (q0 : Nat) (he : ws[q0]? = some (a, .inr (3, fs))) {v : Value} (hv : fs[0]? = some v) (hdg : decode cc pc = .ok (.getfield 7, 3)) (kk : W p l e R s m args below meth c H locs cells slots Q (F0 m (pc + 3) ls (v :: rest))) : W p l e R s m args below meth c H locs cells slots Q (F0 m pc ls (.ref a :: rest)) :=
  va_get (C := RX3) (T := TX3) (N := 3) hx hb hts wu_X3 hown hK hP q0 he rfl 0 (by decide) (hts _ wf_X3_7) (fun _ h9 => h9) hv hdg kk
theorem gf_X3_13 {p : Program} {l : Launch} {e : Env} {R : Room} {s : State} {m : MethodId} {args : Array Value} {below : List Frame} {meth : Method} {c : Code} {H : Heap} {locs : List Loc} {cells slots : Nat} {Q : State → Prop} {pc : Nat} {ls : Array Slot} {cc : ByteArray} {D : va_G} {cI cZ : ClassId} {ws : va_W} {a : Nat} {rest fs : List Value} (hx : p.tables.exec = Jvm.exec) (hb : c.code = cc) (hts : ∀ w ∈ bg, w.before args s = true) (hown : s.vm.findClass RX3 = some m.cls) (hK : va_K D vwCl (q_tys cI cZ) s) (hN : q_N s) (hP : va_P D vwCl ws H) (q0 : Nat) (he : ws[q0]? = some (a, .inr (3, fs))) {v : Value} (hv : fs[1]? = some v) (hdg : decode cc pc = .ok (.getfield 13, 3)) (kk : W p l e R s m args below meth c H locs cells slots Q (F0 m (pc + 3) ls (v :: rest))) : W p l e R s m args below meth c H locs cells slots Q (F0 m pc ls (.ref a :: rest)) :=
  va_get (C := RX3) (T := TX3) (N := 3) hx hb hts wu_X3 hown hK hP q0 he rfl 1 (by decide) (hts _ wf_X3_13) (fun _ h9 => h9) hv hdg kk
theorem mb_X3_cell : q_mb yX3_cell cX3_cell 5 (some .int) 2 := ⟨wc_X3_cell, wn_X3, by decide, by decide, by decide +kernel⟩
theorem mv_X3_cell : q_mv yX3_cell 3 := ⟨wi_X3_cell, ws_X3_cell, _, rfl, rfl⟩
def wd_X3_cell (cI cZ : ClassId) (AT AT_c : Nat) (wT : Int32) (nT_c : Nat) (vT_n : Int32) (fT_c : Nat → Int32) : va_W := [(AT, .inr (3, [.int wT, .ref AT_c, .int vT_n])), (AT_c, .inl (cI, nT_c, .inl fT_c))]
def fm_X3_cell (wT : Int32) (nT_c : Nat) (p1 : Int32) (p2 : Int32) (vT_n : Int32) (fT_c : Nat → Int32) : Option (Int32) := if p1 < 0 then (some (0)) else (if vT_n ≤ p1 then (some (0)) else (if p2 < 0 then (some (0)) else (if wT ≤ p2 then (some (0)) else (if ((p1 * wT) + p2) < 0 then (some (0)) else (if (Int32.ofNat nT_c) ≤ ((p1 * wT) + p2) then (some (0)) else (gd ((p1 * wT) + p2) nT_c (some ((fT_c (Int32.toNatClampNeg ((p1 * wT) + p2)))))))))))
set_option maxHeartbeats 4000000 in
set_option maxRecDepth 100000 in
theorem c_X3_cell (l : Launch) (D : va_G) (cI cZ : ClassId) (sz : Nat) (AT AT_c : Nat) (wT : Int32) (nT_c : Nat) (vT_n : Int32) (fT_c : Nat → Int32) (p1 : Int32) (p2 : Int32) (out : (Int32)) (hm : fm_X3_cell wT nT_c p1 p2 vT_n fT_c = some out) : Met l yX3_cell (Cond.code yX3_cell cX3_cell 5 (some .int) :: bg) { frames := 0, cells := 0, slots := 0, locals := 0 } (va_Pc [.ref AT, .int p1, .int p2] (q_pre D cI cZ sz (wd_X3_cell cI cZ AT AT_c wT nT_c vT_n fT_c))) (q_Qi D (wd_X3_cell cI cZ AT AT_c wT nT_c vT_n fT_c) out (va_A (wd_X3_cell cI cZ AT AT_c wT nT_c vT_n fT_c) sz)) 0 0 (va_A (wd_X3_cell cI cZ AT AT_c wT nT_c vT_n fT_c) sz) := by
  refine q_met (fun A => q_Qi D (wd_X3_cell cI cZ AT AT_c wT nT_c vT_n fT_c) out A) (by decide) (Nat.le_of_ble_eq_true rfl) ?_
  intro p e s m below meth c ls A hx hb hr hml hown hts hlocks _ hA hS hP hD hK hN hl
  have hown : s.vm.findClass RX3 = some m.cls := hown
  have hl : lv_has ls 5 [(0, .ref AT), (1, .int p1), (2, .int p2)] := hl
  unfold fm_X3_cell at hm
  refine q_gen hS hP ?_
  intro H locs hP hS
  refine lv_iload_n hx hb dX3_cell_0 rfl (lv_at hl 1 rfl) ?_
  refine lv_aload_n hx hb dX3_cell_1 rfl (lv_at hl 0 rfl) ?_
  refine gf_X3_7 (v := .int wT) hx hb hts hown hK hN hP 0 rfl rfl dX3_cell_2 ?_
  refine lv_imul hx hb dX3_cell_5 ?_
  refine lv_iload_n hx hb dX3_cell_6 rfl (lv_at hl 2 rfl) ?_
  refine lv_iadd hx hb dX3_cell_7 ?_
  refine lv_istore_n (lv' := [(3, .int ((p1 * wT) + p2)), (0, .ref AT), (1, .int p1), (2, .int p2)]) hx hb dX3_cell_8 rfl hl (by decide) rfl (fun ls hl => ?_)
  refine lv_iload_n hx hb dX3_cell_9 rfl (lv_at hl 2 rfl) ?_
  refine lv_if_lt (tgt := 37) hx hb dX3_cell_10 (by decide) (fun c_10 => ?_) (fun c_10 => ?_)
  · have hm := it_s c_10 hm
    refine lv_iconst (v := 0) hx hb dX3_cell_37 (by decide) ?_
    refine lv_istore (lv' := [(4, .int 0), (3, .int ((p1 * wT) + p2)), (0, .ref AT), (1, .int p1), (2, .int p2)]) hx hb dX3_cell_38 hl (by decide) rfl (fun ls hl => ?_)
    refine lv_iload hx hb dX3_cell_40 (lv_at hl 0 rfl) ?_
    refine lv_if_eq (tgt := 67) hx hb dX3_cell_42 (by decide) (fun _ => ?_) (fun c => absurd c (by decide))
    refine lv_iconst (v := 0) hx hb dX3_cell_67 (by decide) ?_
    have hm := Option.some.inj hm
    subst hm
    exact q_iret (v := 0) hx hb hr hlocks hP hS dX3_cell_68
  · have hm := it_n c_10 hm
    refine lv_iload_n hx hb dX3_cell_13 rfl (lv_at hl 2 rfl) ?_
    refine lv_aload_n hx hb dX3_cell_14 rfl (lv_at hl 1 rfl) ?_
    refine gf_X3_17 (v := .int vT_n) hx hb hts hown hK hN hP 0 rfl rfl dX3_cell_15 ?_
    refine lv_icmp_ge (tgt := 37) hx hb dX3_cell_18 (by decide) (fun c_18 => ?_) (fun c_18 => ?_)
    · have hm := it_s c_18 hm
      refine lv_iconst (v := 0) hx hb dX3_cell_37 (by decide) ?_
      refine lv_istore (lv' := [(4, .int 0), (3, .int ((p1 * wT) + p2)), (0, .ref AT), (1, .int p1), (2, .int p2)]) hx hb dX3_cell_38 hl (by decide) rfl (fun ls hl => ?_)
      refine lv_iload hx hb dX3_cell_40 (lv_at hl 0 rfl) ?_
      refine lv_if_eq (tgt := 67) hx hb dX3_cell_42 (by decide) (fun _ => ?_) (fun c => absurd c (by decide))
      refine lv_iconst (v := 0) hx hb dX3_cell_67 (by decide) ?_
      have hm := Option.some.inj hm
      subst hm
      exact q_iret (v := 0) hx hb hr hlocks hP hS dX3_cell_68
    · have hm := it_n c_18 hm
      refine lv_iload_n hx hb dX3_cell_21 rfl (lv_at hl 3 rfl) ?_
      refine lv_if_lt (tgt := 37) hx hb dX3_cell_22 (by decide) (fun c_22 => ?_) (fun c_22 => ?_)
      · have hm := it_s c_22 hm
        refine lv_iconst (v := 0) hx hb dX3_cell_37 (by decide) ?_
        refine lv_istore (lv' := [(4, .int 0), (3, .int ((p1 * wT) + p2)), (0, .ref AT), (1, .int p1), (2, .int p2)]) hx hb dX3_cell_38 hl (by decide) rfl (fun ls hl => ?_)
        refine lv_iload hx hb dX3_cell_40 (lv_at hl 0 rfl) ?_
        refine lv_if_eq (tgt := 67) hx hb dX3_cell_42 (by decide) (fun _ => ?_) (fun c => absurd c (by decide))
        refine lv_iconst (v := 0) hx hb dX3_cell_67 (by decide) ?_
        have hm := Option.some.inj hm
        subst hm
        exact q_iret (v := 0) hx hb hr hlocks hP hS dX3_cell_68
      · have hm := it_n c_22 hm
        refine lv_iload_n hx hb dX3_cell_25 rfl (lv_at hl 3 rfl) ?_
        refine lv_aload_n hx hb dX3_cell_26 rfl (lv_at hl 1 rfl) ?_
        refine gf_X3_7 (v := .int wT) hx hb hts hown hK hN hP 0 rfl rfl dX3_cell_27 ?_
        refine lv_icmp_ge (tgt := 37) hx hb dX3_cell_30 (by decide) (fun c_30 => ?_) (fun c_30 => ?_)
        · have hm := it_s c_30 hm
          refine lv_iconst (v := 0) hx hb dX3_cell_37 (by decide) ?_
          refine lv_istore (lv' := [(4, .int 0), (3, .int ((p1 * wT) + p2)), (0, .ref AT), (1, .int p1), (2, .int p2)]) hx hb dX3_cell_38 hl (by decide) rfl (fun ls hl => ?_)
          refine lv_iload hx hb dX3_cell_40 (lv_at hl 0 rfl) ?_
          refine lv_if_eq (tgt := 67) hx hb dX3_cell_42 (by decide) (fun _ => ?_) (fun c => absurd c (by decide))
          refine lv_iconst (v := 0) hx hb dX3_cell_67 (by decide) ?_
          have hm := Option.some.inj hm
          subst hm
          exact q_iret (v := 0) hx hb hr hlocks hP hS dX3_cell_68
        · have hm := it_n c_30 hm
          refine lv_iconst (v := 1) hx hb dX3_cell_33 (by decide) ?_
          refine lv_goto (tgt := 38) hx hb dX3_cell_34 (by decide) ?_
          refine lv_istore (lv' := [(4, .int 1), (3, .int ((p1 * wT) + p2)), (0, .ref AT), (1, .int p1), (2, .int p2)]) hx hb dX3_cell_38 hl (by decide) rfl (fun ls hl => ?_)
          refine lv_iload hx hb dX3_cell_40 (lv_at hl 0 rfl) ?_
          refine lv_if_eq (tgt := 67) hx hb dX3_cell_42 (by decide) (fun c => absurd c (by decide)) (fun _ => ?_)
          refine lv_iload_n hx hb dX3_cell_45 rfl (lv_at hl 1 rfl) ?_
          refine lv_if_lt (tgt := 67) hx hb dX3_cell_46 (by decide) (fun c_46 => ?_) (fun c_46 => ?_)
          · have hm := it_s c_46 hm
            refine lv_iconst (v := 0) hx hb dX3_cell_67 (by decide) ?_
            have hm := Option.some.inj hm
            subst hm
            exact q_iret (v := 0) hx hb hr hlocks hP hS dX3_cell_68
          · have hm := it_n c_46 hm
            refine lv_iload_n hx hb dX3_cell_49 rfl (lv_at hl 1 rfl) ?_
            refine lv_aload_n hx hb dX3_cell_50 rfl (lv_at hl 2 rfl) ?_
            refine gf_X3_13 (v := .ref AT_c) hx hb hts hown hK hN hP 0 rfl rfl dX3_cell_51 ?_
            refine va_alen (v := (Int32.ofNat nT_c)) hx hb hK hP 1 0 rfl rfl rfl dX3_cell_54 ?_
            refine lv_icmp_ge (tgt := 67) hx hb dX3_cell_55 (by decide) (fun c_55 => ?_) (fun c_55 => ?_)
            · have hm := it_s c_55 hm
              refine lv_iconst (v := 0) hx hb dX3_cell_67 (by decide) ?_
              have hm := Option.some.inj hm
              subst hm
              exact q_iret (v := 0) hx hb hr hlocks hP hS dX3_cell_68
            · have hm := it_n c_55 hm
              refine lv_aload_n hx hb dX3_cell_58 rfl (lv_at hl 2 rfl) ?_
              refine gf_X3_13 (v := .ref AT_c) hx hb hts hown hK hN hP 0 rfl rfl dX3_cell_59 ?_
              refine lv_iload_n hx hb dX3_cell_62 rfl (lv_at hl 1 rfl) ?_
              obtain ⟨hi_63, hm⟩ := gd_s hm
              refine q_iald (j := (Int32.toNatClampNeg ((p1 * wT) + p2))) hx hb hK hP 1 rfl hi_63 rfl dX3_cell_63 ?_
              refine lv_goto (tgt := 68) hx hb dX3_cell_64 (by decide) ?_
              have hm := Option.some.inj hm
              subst hm
              exact q_iret (v := (fT_c (Int32.toNatClampNeg ((p1 * wT) + p2)))) hx hb hr hlocks hP hS dX3_cell_68
theorem mb_X3_write : q_mb yX3_write cX3_write 6 none 3 := ⟨wc_X3_write, wn_X3, by decide, by decide, by decide +kernel⟩
theorem mv_X3_write : q_mv yX3_write 3 := ⟨wi_X3_write, ws_X3_write, _, rfl, rfl⟩
def wd_X3_write (cI cZ : ClassId) (AT AT_c : Nat) (wT : Int32) (nT_c : Nat) (vT_n : Int32) (fT_c : Nat → Int32) : va_W := [(AT, .inr (3, [.int wT, .ref AT_c, .int vT_n])), (AT_c, .inl (cI, nT_c, .inl fT_c))]
def fm_X3_write (wT : Int32) (nT_c : Nat) (p1 : Int32) (p2 : Int32) (p3 : Int32) (vT_n : Int32) (fT_c : Nat → Int32) : Option ((Nat → Int32)) := if p1 < 0 then (some (fT_c)) else (if vT_n ≤ p1 then (some (fT_c)) else (if p2 < 0 then (some (fT_c)) else (if wT ≤ p2 then (some (fT_c)) else (if ((p1 * wT) + p2) < 0 then (some (fT_c)) else (if (Int32.ofNat nT_c) ≤ ((p1 * wT) + p2) then (some (fT_c)) else (gd ((p1 * wT) + p2) nT_c (some ((upd fT_c (Int32.toNatClampNeg ((p1 * wT) + p2)) p3)))))))))
set_option maxHeartbeats 4000000 in
set_option maxRecDepth 100000 in
theorem c_X3_write (l : Launch) (D : va_G) (cI cZ : ClassId) (sz : Nat) (AT AT_c : Nat) (wT : Int32) (nT_c : Nat) (vT_n : Int32) (fT_c : Nat → Int32) (p1 : Int32) (p2 : Int32) (p3 : Int32) (out : ((Nat → Int32))) (hm : fm_X3_write wT nT_c p1 p2 p3 vT_n fT_c = some out) : Met l yX3_write (Cond.code yX3_write cX3_write 6 none :: bg) { frames := 0, cells := 0, slots := 0, locals := 0 } (va_Pc [.ref AT, .int p1, .int p2, .int p3] (q_pre D cI cZ sz (wd_X3_write cI cZ AT AT_c wT nT_c vT_n fT_c))) (q_Qv D (wd_X3_write cI cZ AT AT_c wT nT_c vT_n out) (va_A (wd_X3_write cI cZ AT AT_c wT nT_c vT_n fT_c) sz)) 0 0 (va_A (wd_X3_write cI cZ AT AT_c wT nT_c vT_n fT_c) sz) := by
  refine q_met (fun A => q_Qv D (wd_X3_write cI cZ AT AT_c wT nT_c vT_n out) A) (by decide) (Nat.le_of_ble_eq_true rfl) ?_
  intro p e s m below meth c ls A hx hb hr hml hown hts hlocks _ hA hS hP hD hK hN hl
  have hown : s.vm.findClass RX3 = some m.cls := hown
  have hl : lv_has ls 6 [(0, .ref AT), (1, .int p1), (2, .int p2), (3, .int p3)] := hl
  unfold fm_X3_write at hm
  refine q_gen hS hP ?_
  intro H locs hP hS
  refine lv_iload_n hx hb dX3_write_0 rfl (lv_at hl 1 rfl) ?_
  refine lv_aload_n hx hb dX3_write_1 rfl (lv_at hl 0 rfl) ?_
  refine gf_X3_7 (v := .int wT) hx hb hts hown hK hN hP 0 rfl rfl dX3_write_2 ?_
  refine lv_imul hx hb dX3_write_5 ?_
  refine lv_iload_n hx hb dX3_write_6 rfl (lv_at hl 2 rfl) ?_
  refine lv_iadd hx hb dX3_write_7 ?_
  refine lv_istore (lv' := [(4, .int ((p1 * wT) + p2)), (0, .ref AT), (1, .int p1), (2, .int p2), (3, .int p3)]) hx hb dX3_write_8 hl (by decide) rfl (fun ls hl => ?_)
  refine lv_iload_n hx hb dX3_write_10 rfl (lv_at hl 2 rfl) ?_
  refine lv_if_lt (tgt := 38) hx hb dX3_write_11 (by decide) (fun c_11 => ?_) (fun c_11 => ?_)
  · have hm := it_s c_11 hm
    refine lv_iconst (v := 0) hx hb dX3_write_38 (by decide) ?_
    refine lv_istore (lv' := [(5, .int 0), (4, .int ((p1 * wT) + p2)), (0, .ref AT), (1, .int p1), (2, .int p2), (3, .int p3)]) hx hb dX3_write_39 hl (by decide) rfl (fun ls hl => ?_)
    refine lv_iload hx hb dX3_write_41 (lv_at hl 0 rfl) ?_
    refine lv_if_eq (tgt := 69) hx hb dX3_write_43 (by decide) (fun _ => ?_) (fun c => absurd c (by decide))
    have hm := Option.some.inj hm
    subst hm
    exact q_vret hx hb hr hlocks hP hS dX3_write_69
  · have hm := it_n c_11 hm
    refine lv_iload_n hx hb dX3_write_14 rfl (lv_at hl 2 rfl) ?_
    refine lv_aload_n hx hb dX3_write_15 rfl (lv_at hl 1 rfl) ?_
    refine gf_X3_17 (v := .int vT_n) hx hb hts hown hK hN hP 0 rfl rfl dX3_write_16 ?_
    refine lv_icmp_ge (tgt := 38) hx hb dX3_write_19 (by decide) (fun c_19 => ?_) (fun c_19 => ?_)
    · have hm := it_s c_19 hm
      refine lv_iconst (v := 0) hx hb dX3_write_38 (by decide) ?_
      refine lv_istore (lv' := [(5, .int 0), (4, .int ((p1 * wT) + p2)), (0, .ref AT), (1, .int p1), (2, .int p2), (3, .int p3)]) hx hb dX3_write_39 hl (by decide) rfl (fun ls hl => ?_)
      refine lv_iload hx hb dX3_write_41 (lv_at hl 0 rfl) ?_
      refine lv_if_eq (tgt := 69) hx hb dX3_write_43 (by decide) (fun _ => ?_) (fun c => absurd c (by decide))
      have hm := Option.some.inj hm
      subst hm
      exact q_vret hx hb hr hlocks hP hS dX3_write_69
    · have hm := it_n c_19 hm
      refine lv_iload_n hx hb dX3_write_22 rfl (lv_at hl 3 rfl) ?_
      refine lv_if_lt (tgt := 38) hx hb dX3_write_23 (by decide) (fun c_23 => ?_) (fun c_23 => ?_)
      · have hm := it_s c_23 hm
        refine lv_iconst (v := 0) hx hb dX3_write_38 (by decide) ?_
        refine lv_istore (lv' := [(5, .int 0), (4, .int ((p1 * wT) + p2)), (0, .ref AT), (1, .int p1), (2, .int p2), (3, .int p3)]) hx hb dX3_write_39 hl (by decide) rfl (fun ls hl => ?_)
        refine lv_iload hx hb dX3_write_41 (lv_at hl 0 rfl) ?_
        refine lv_if_eq (tgt := 69) hx hb dX3_write_43 (by decide) (fun _ => ?_) (fun c => absurd c (by decide))
        have hm := Option.some.inj hm
        subst hm
        exact q_vret hx hb hr hlocks hP hS dX3_write_69
      · have hm := it_n c_23 hm
        refine lv_iload_n hx hb dX3_write_26 rfl (lv_at hl 3 rfl) ?_
        refine lv_aload_n hx hb dX3_write_27 rfl (lv_at hl 1 rfl) ?_
        refine gf_X3_7 (v := .int wT) hx hb hts hown hK hN hP 0 rfl rfl dX3_write_28 ?_
        refine lv_icmp_ge (tgt := 38) hx hb dX3_write_31 (by decide) (fun c_31 => ?_) (fun c_31 => ?_)
        · have hm := it_s c_31 hm
          refine lv_iconst (v := 0) hx hb dX3_write_38 (by decide) ?_
          refine lv_istore (lv' := [(5, .int 0), (4, .int ((p1 * wT) + p2)), (0, .ref AT), (1, .int p1), (2, .int p2), (3, .int p3)]) hx hb dX3_write_39 hl (by decide) rfl (fun ls hl => ?_)
          refine lv_iload hx hb dX3_write_41 (lv_at hl 0 rfl) ?_
          refine lv_if_eq (tgt := 69) hx hb dX3_write_43 (by decide) (fun _ => ?_) (fun c => absurd c (by decide))
          have hm := Option.some.inj hm
          subst hm
          exact q_vret hx hb hr hlocks hP hS dX3_write_69
        · have hm := it_n c_31 hm
          refine lv_iconst (v := 1) hx hb dX3_write_34 (by decide) ?_
          refine lv_goto (tgt := 39) hx hb dX3_write_35 (by decide) ?_
          refine lv_istore (lv' := [(5, .int 1), (4, .int ((p1 * wT) + p2)), (0, .ref AT), (1, .int p1), (2, .int p2), (3, .int p3)]) hx hb dX3_write_39 hl (by decide) rfl (fun ls hl => ?_)
          refine lv_iload hx hb dX3_write_41 (lv_at hl 0 rfl) ?_
          refine lv_if_eq (tgt := 69) hx hb dX3_write_43 (by decide) (fun c => absurd c (by decide)) (fun _ => ?_)
          refine lv_iload hx hb dX3_write_46 (lv_at hl 1 rfl) ?_
          refine lv_if_lt (tgt := 69) hx hb dX3_write_48 (by decide) (fun c_48 => ?_) (fun c_48 => ?_)
          · have hm := it_s c_48 hm
            have hm := Option.some.inj hm
            subst hm
            exact q_vret hx hb hr hlocks hP hS dX3_write_69
          · have hm := it_n c_48 hm
            refine lv_iload hx hb dX3_write_51 (lv_at hl 1 rfl) ?_
            refine lv_aload_n hx hb dX3_write_53 rfl (lv_at hl 2 rfl) ?_
            refine gf_X3_13 (v := .ref AT_c) hx hb hts hown hK hN hP 0 rfl rfl dX3_write_54 ?_
            refine va_alen (v := (Int32.ofNat nT_c)) hx hb hK hP 1 0 rfl rfl rfl dX3_write_57 ?_
            refine lv_icmp_ge (tgt := 69) hx hb dX3_write_58 (by decide) (fun c_58 => ?_) (fun c_58 => ?_)
            · have hm := it_s c_58 hm
              have hm := Option.some.inj hm
              subst hm
              exact q_vret hx hb hr hlocks hP hS dX3_write_69
            · have hm := it_n c_58 hm
              refine lv_aload_n hx hb dX3_write_61 rfl (lv_at hl 2 rfl) ?_
              refine gf_X3_13 (v := .ref AT_c) hx hb hts hown hK hN hP 0 rfl rfl dX3_write_62 ?_
              refine lv_iload hx hb dX3_write_65 (lv_at hl 1 rfl) ?_
              refine lv_iload_n hx hb dX3_write_67 rfl (lv_at hl 5 rfl) ?_
              obtain ⟨hi_68, hm⟩ := gd_s hm
              refine q_iast (j := (Int32.toNatClampNeg ((p1 * wT) + p2))) hx hb hK hP hD hS 1 rfl hi_68 rfl dX3_write_68 (fun H locs hP hD hS => ?_)
              have hP : va_P D vwCl (wd_X3_write cI cZ AT AT_c wT nT_c vT_n (upd fT_c (Int32.toNatClampNeg ((p1 * wT) + p2)) p3)) H := hP
              have hD : va_D A (wd_X3_write cI cZ AT AT_c wT nT_c vT_n (upd fT_c (Int32.toNatClampNeg ((p1 * wT) + p2)) p3)) := hD
              have hm := Option.some.inj hm
              subst hm
              exact q_vret hx hb hr hlocks hP hS dX3_write_69
theorem mb_X3_isFull : q_mb yX3_isFull cX3_isFull 1 (some .boolean) 0 := ⟨wc_X3_isFull, wn_X3, by decide, by decide, by decide +kernel⟩
theorem mv_X3_isFull : q_mv yX3_isFull 3 := ⟨wi_X3_isFull, ws_X3_isFull, _, rfl, rfl⟩
def wd_X3_isFull (cI cZ : ClassId) (AT AT_c : Nat) (wT : Int32) (nT_c : Nat) (vT_n : Int32) (fT_c : Nat → Int32) : va_W := [(AT, .inr (3, [.int wT, .ref AT_c, .int vT_n])), (AT_c, .inl (cI, nT_c, .inl fT_c))]
def fm_X3_isFull (wT : Int32) (nT_c : Nat) (vT_n : Int32) : Option (Int32) := if ((vT_n + 1) * wT) ≤ (Int32.ofNat nT_c) then (some (0)) else (some (1))
set_option maxHeartbeats 4000000 in
set_option maxRecDepth 100000 in
theorem c_X3_isFull (l : Launch) (D : va_G) (cI cZ : ClassId) (sz : Nat) (AT AT_c : Nat) (wT : Int32) (nT_c : Nat) (vT_n : Int32) (fT_c : Nat → Int32) (out : (Int32)) (hm : fm_X3_isFull wT nT_c vT_n = some out) : Met l yX3_isFull (Cond.code yX3_isFull cX3_isFull 1 (some .boolean) :: bg) { frames := 0, cells := 0, slots := 0, locals := 0 } (va_Pc [.ref AT] (q_pre D cI cZ sz (wd_X3_isFull cI cZ AT AT_c wT nT_c vT_n fT_c))) (q_Qi D (wd_X3_isFull cI cZ AT AT_c wT nT_c vT_n fT_c) out (va_A (wd_X3_isFull cI cZ AT AT_c wT nT_c vT_n fT_c) sz)) 0 0 (va_A (wd_X3_isFull cI cZ AT AT_c wT nT_c vT_n fT_c) sz) := by
  refine q_met (fun A => q_Qi D (wd_X3_isFull cI cZ AT AT_c wT nT_c vT_n fT_c) out A) (by decide) (Nat.le_of_ble_eq_true rfl) ?_
  intro p e s m below meth c ls A hx hb hr hml hown hts hlocks _ hA hS hP hD hK hN hl
  have hown : s.vm.findClass RX3 = some m.cls := hown
  have hl : lv_has ls 1 [(0, .ref AT)] := hl
  unfold fm_X3_isFull at hm
  refine q_gen hS hP ?_
  intro H locs hP hS
  refine lv_aload_n hx hb dX3_isFull_0 rfl (lv_at hl 0 rfl) ?_
  refine gf_X3_17 (v := .int vT_n) hx hb hts hown hK hN hP 0 rfl rfl dX3_isFull_1 ?_
  refine lv_iconst (v := 1) hx hb dX3_isFull_4 (by decide) ?_
  refine lv_iadd hx hb dX3_isFull_5 ?_
  refine lv_aload_n hx hb dX3_isFull_6 rfl (lv_at hl 0 rfl) ?_
  refine gf_X3_7 (v := .int wT) hx hb hts hown hK hN hP 0 rfl rfl dX3_isFull_7 ?_
  refine lv_imul hx hb dX3_isFull_10 ?_
  refine lv_aload_n hx hb dX3_isFull_11 rfl (lv_at hl 0 rfl) ?_
  refine gf_X3_13 (v := .ref AT_c) hx hb hts hown hK hN hP 0 rfl rfl dX3_isFull_12 ?_
  refine va_alen (v := (Int32.ofNat nT_c)) hx hb hK hP 1 0 rfl rfl rfl dX3_isFull_15 ?_
  refine lv_icmp_le (tgt := 23) hx hb dX3_isFull_16 (by decide) (fun c_16 => ?_) (fun c_16 => ?_)
  · have hm := it_s c_16 hm
    refine lv_iconst (v := 0) hx hb dX3_isFull_23 (by decide) ?_
    have hm := Option.some.inj hm
    subst hm
    exact q_zret (v := 0) hx hb hr hlocks rfl hP hS dX3_isFull_24
  · have hm := it_n c_16 hm
    refine lv_iconst (v := 1) hx hb dX3_isFull_19 (by decide) ?_
    refine lv_goto (tgt := 24) hx hb dX3_isFull_20 (by decide) ?_
    have hm := Option.some.inj hm
    subst hm
    exact q_zret (v := 1) hx hb hr hlocks rfl hP hS dX3_isFull_24
theorem pf_X3_17 {p : Program} {l : Launch} {e : Env} {R : Room} {s : State} {m : MethodId} {args : Array Value} {below : List Frame} {meth : Method} {c : Code} {H : Heap} {locs : List Loc} {cells slots : Nat} {Q : State → Prop} {pc : Nat} {ls : Array Slot} {cc : ByteArray} {D : va_G} {cI cZ : ClassId} {ws : va_W} {A : Nat → Prop} {a : Nat} {rest fs : List Value} {x : Int32} (hx : p.tables.exec = Jvm.exec) (hb : c.code = cc) (hts : ∀ w ∈ bg, w.before args s = true) (hown : s.vm.findClass RX3 = some m.cls) (hK : va_K D vwCl (q_tys cI cZ) s) (hN : q_N s) (hP : va_P D vwCl ws H) (hD : va_D A ws) (hS : va_S A s.heap H locs) (q0 : Nat) (he : ws[q0]? = some (a, .inr (3, fs))) (hdg : decode cc pc = .ok (.putfield 17, 3)) (kk : ∀ (H1 : Heap) (locs1 : List Loc), va_P D vwCl (ws.set q0 (a, .inr (3, fs.set 2 (.int x)))) H1 → va_D A (ws.set q0 (a, .inr (3, fs.set 2 (.int x)))) → va_S A s.heap H1 locs1 → W p l e R s m args below meth c H1 locs1 cells slots Q (F0 m (pc + 3) ls rest)) (hl : 2 < fs.length := by exact Nat.le_of_ble_eq_true rfl) : W p l e R s m args below meth c H locs cells slots Q (F0 m pc ls (.int x :: .ref a :: rest)) :=
  va_put (C := RX3) (T := TX3) (N := 3) (ty := .int) hx hb hts wu_X3 tyX3 tyX3_ok nmX3 hown hK hP hD hS q0 he rfl 2 (by decide) (hts _ wf_X3_17) (fun _ h9 => h9) rfl (by decide +kernel) rfl rfl hl hdg kk
theorem mb_X3_add : q_mb yX3_add cX3_add 5 none 4 := ⟨wc_X3_add, wn_X3, by decide, by decide, by decide +kernel⟩
theorem mv_X3_add : q_mv yX3_add 3 := ⟨wi_X3_add, ws_X3_add, _, rfl, rfl⟩
def wd_X3_add (cI cZ : ClassId) (AT AT_c : Nat) (wT : Int32) (nT_c : Nat) (vT_n : Int32) (fT_c : Nat → Int32) : va_W := [(AT, .inr (3, [.int wT, .ref AT_c, .int vT_n])), (AT_c, .inl (cI, nT_c, .inl fT_c))]
def fm_X3_add (wT : Int32) (nT_c : Nat) (p1 : Int32) (p2 : Int32) (p3 : Int32) (p4 : Int32) (vT_n : Int32) (fT_c : Nat → Int32) : Option (Int32 × (Nat → Int32)) := Option.bind (fm_X3_isFull wT nT_c vT_n) (fun r_1 => if r_1 = 0 then (Option.bind (fm_X3_write wT nT_c ((vT_n + 1) - 1) 0 p1 (vT_n + 1) fT_c) (fun r_26 => Option.bind (fm_X3_write wT nT_c ((vT_n + 1) - 1) 1 p2 (vT_n + 1) r_26) (fun r_38 => Option.bind (fm_X3_write wT nT_c ((vT_n + 1) - 1) 2 p3 (vT_n + 1) r_38) (fun r_50 => Option.bind (fm_X3_write wT nT_c ((vT_n + 1) - 1) 3 p4 (vT_n + 1) r_50) (fun r_63 => some ((vT_n + 1), r_63)))))) else (some (vT_n, fT_c)))
set_option maxHeartbeats 4000000 in
set_option maxRecDepth 100000 in
theorem c_X3_add (l : Launch) (D : va_G) (cI cZ : ClassId) (sz : Nat) (AT AT_c : Nat) (wT : Int32) (nT_c : Nat) (vT_n : Int32) (fT_c : Nat → Int32) (p1 : Int32) (p2 : Int32) (p3 : Int32) (p4 : Int32) (out : (Int32 × (Nat → Int32))) (hm : fm_X3_add wT nT_c p1 p2 p3 p4 vT_n fT_c = some out) : Met l yX3_add (Cond.code yX3_add cX3_add 5 none :: bg) { frames := 1, cells := 0, slots := 0, locals := 25 } (va_Pc [.ref AT, .int p1, .int p2, .int p3, .int p4] (q_pre D cI cZ sz (wd_X3_add cI cZ AT AT_c wT nT_c vT_n fT_c))) (q_Qv D (wd_X3_add cI cZ AT AT_c wT nT_c out.1 out.2) (va_A (wd_X3_add cI cZ AT AT_c wT nT_c vT_n fT_c) sz)) 0 0 (va_A (wd_X3_add cI cZ AT AT_c wT nT_c vT_n fT_c) sz) := by
  refine q_met (fun A => q_Qv D (wd_X3_add cI cZ AT AT_c wT nT_c out.1 out.2) A) (by decide) (Nat.le_of_ble_eq_true rfl) ?_
  intro p e s m below meth c ls A hx hb hr hml hown hts hlocks _ hA hS hP hD hK hN hl
  have hown : s.vm.findClass RX3 = some m.cls := hown
  have hl : lv_has ls 5 [(0, .ref AT), (1, .int p1), (2, .int p2), (3, .int p3), (4, .int p4)] := hl
  unfold fm_X3_add at hm
  refine q_gen hS hP ?_
  intro H locs hP hS
  refine lv_aload_n hx hb dX3_add_0 rfl (lv_at hl 0 rfl) ?_
  obtain ⟨r_1, hc_1, hm⟩ := ob_s hm
  refine q_ci (q_rv (rest := []) ⟨hx, hb, hml, hown, hts⟩ hK hN hP hD (c_X3_isFull l D cI cZ H.size AT AT_c wT nT_c vT_n fT_c r_1 hc_1) mb_X3_isFull mv_X3_isFull wl_X3_20 [0, 1] rfl rfl rfl (Nat.le_of_ble_eq_true rfl) (Nat.le_of_ble_eq_true rfl) rfl hl.1 rfl (Nat.le_of_ble_eq_true rfl) ⟨Nat.le_refl 0, Nat.le_refl 0⟩ dX3_add_1) hP hD hS hA [0, 1] rfl rfl (fun H locs hP hD hS => ?_)
  have hP : va_P D vwCl (wd_X3_add cI cZ AT AT_c wT nT_c vT_n fT_c) H := hP
  have hD : va_D A (wd_X3_add cI cZ AT AT_c wT nT_c vT_n fT_c) := hD
  refine lv_if_ne (tgt := 66) hx hb dX3_add_4 (by decide) (fun c_4 => ?_) (fun c_4 => ?_)
  · have hm := it_n c_4 hm
    have hm := Option.some.inj hm
    subst hm
    exact q_vret hx hb hr hlocks hP hS dX3_add_66
  · have hm := it_s c_4 hm
    refine lv_aload_n hx hb dX3_add_7 rfl (lv_at hl 0 rfl) ?_
    refine lv_dup hx hb dX3_add_8 rfl ?_
    refine gf_X3_17 (v := .int vT_n) hx hb hts hown hK hN hP 0 rfl rfl dX3_add_9 ?_
    refine lv_iconst (v := 1) hx hb dX3_add_12 (by decide) ?_
    refine lv_iadd hx hb dX3_add_13 ?_
    refine pf_X3_17 hx hb hts hown hK hN hP hD hS 0 rfl dX3_add_14 (fun H locs hP hD hS => ?_)
    have hP : va_P D vwCl (wd_X3_add cI cZ AT AT_c wT nT_c (vT_n + 1) fT_c) H := hP
    have hD : va_D A (wd_X3_add cI cZ AT AT_c wT nT_c (vT_n + 1) fT_c) := hD
    refine lv_aload_n hx hb dX3_add_17 rfl (lv_at hl 0 rfl) ?_
    refine lv_aload_n hx hb dX3_add_18 rfl (lv_at hl 0 rfl) ?_
    refine gf_X3_17 (v := .int (vT_n + 1)) hx hb hts hown hK hN hP 0 rfl rfl dX3_add_19 ?_
    refine lv_iconst (v := 1) hx hb dX3_add_22 (by decide) ?_
    refine lv_isub hx hb dX3_add_23 ?_
    refine lv_iconst (v := 0) hx hb dX3_add_24 (by decide) ?_
    refine lv_iload_n hx hb dX3_add_25 rfl (lv_at hl 1 rfl) ?_
    obtain ⟨r_26, hc_26, hm⟩ := ob_s hm
    refine q_cv (q_rv (rest := []) ⟨hx, hb, hml, hown, hts⟩ hK hN hP hD (c_X3_write l D cI cZ H.size AT AT_c wT nT_c (vT_n + 1) fT_c ((vT_n + 1) - 1) 0 p1 r_26 hc_26) mb_X3_write mv_X3_write wl_X3_24 [0, 1] rfl rfl rfl (Nat.le_of_ble_eq_true rfl) (Nat.le_of_ble_eq_true rfl) rfl hl.1 rfl (Nat.le_of_ble_eq_true rfl) ⟨Nat.le_refl 0, Nat.le_refl 0⟩ dX3_add_26) hP hD hS hA [0, 1] rfl rfl (fun H locs hP hD hS => ?_)
    have hP : va_P D vwCl (wd_X3_add cI cZ AT AT_c wT nT_c (vT_n + 1) r_26) H := hP
    have hD : va_D A (wd_X3_add cI cZ AT AT_c wT nT_c (vT_n + 1) r_26) := hD
    refine lv_aload_n hx hb dX3_add_29 rfl (lv_at hl 0 rfl) ?_
    refine lv_aload_n hx hb dX3_add_30 rfl (lv_at hl 0 rfl) ?_
    refine gf_X3_17 (v := .int (vT_n + 1)) hx hb hts hown hK hN hP 0 rfl rfl dX3_add_31 ?_
    refine lv_iconst (v := 1) hx hb dX3_add_34 (by decide) ?_
    refine lv_isub hx hb dX3_add_35 ?_
    refine lv_iconst (v := 1) hx hb dX3_add_36 (by decide) ?_
    refine lv_iload_n hx hb dX3_add_37 rfl (lv_at hl 2 rfl) ?_
    obtain ⟨r_38, hc_38, hm⟩ := ob_s hm
    refine q_cv (q_rv (rest := []) ⟨hx, hb, hml, hown, hts⟩ hK hN hP hD (c_X3_write l D cI cZ H.size AT AT_c wT nT_c (vT_n + 1) r_26 ((vT_n + 1) - 1) 1 p2 r_38 hc_38) mb_X3_write mv_X3_write wl_X3_24 [0, 1] rfl rfl rfl (Nat.le_of_ble_eq_true rfl) (Nat.le_of_ble_eq_true rfl) rfl hl.1 rfl (Nat.le_of_ble_eq_true rfl) ⟨Nat.le_refl 0, Nat.le_refl 0⟩ dX3_add_38) hP hD hS hA [0, 1] rfl rfl (fun H locs hP hD hS => ?_)
    have hP : va_P D vwCl (wd_X3_add cI cZ AT AT_c wT nT_c (vT_n + 1) r_38) H := hP
    have hD : va_D A (wd_X3_add cI cZ AT AT_c wT nT_c (vT_n + 1) r_38) := hD
    refine lv_aload_n hx hb dX3_add_41 rfl (lv_at hl 0 rfl) ?_
    refine lv_aload_n hx hb dX3_add_42 rfl (lv_at hl 0 rfl) ?_
    refine gf_X3_17 (v := .int (vT_n + 1)) hx hb hts hown hK hN hP 0 rfl rfl dX3_add_43 ?_
    refine lv_iconst (v := 1) hx hb dX3_add_46 (by decide) ?_
    refine lv_isub hx hb dX3_add_47 ?_
    refine lv_iconst (v := 2) hx hb dX3_add_48 (by decide) ?_
    refine lv_iload_n hx hb dX3_add_49 rfl (lv_at hl 3 rfl) ?_
    obtain ⟨r_50, hc_50, hm⟩ := ob_s hm
    refine q_cv (q_rv (rest := []) ⟨hx, hb, hml, hown, hts⟩ hK hN hP hD (c_X3_write l D cI cZ H.size AT AT_c wT nT_c (vT_n + 1) r_38 ((vT_n + 1) - 1) 2 p3 r_50 hc_50) mb_X3_write mv_X3_write wl_X3_24 [0, 1] rfl rfl rfl (Nat.le_of_ble_eq_true rfl) (Nat.le_of_ble_eq_true rfl) rfl hl.1 rfl (Nat.le_of_ble_eq_true rfl) ⟨Nat.le_refl 0, Nat.le_refl 0⟩ dX3_add_50) hP hD hS hA [0, 1] rfl rfl (fun H locs hP hD hS => ?_)
    have hP : va_P D vwCl (wd_X3_add cI cZ AT AT_c wT nT_c (vT_n + 1) r_50) H := hP
    have hD : va_D A (wd_X3_add cI cZ AT AT_c wT nT_c (vT_n + 1) r_50) := hD
    refine lv_aload_n hx hb dX3_add_53 rfl (lv_at hl 0 rfl) ?_
    refine lv_aload_n hx hb dX3_add_54 rfl (lv_at hl 0 rfl) ?_
    refine gf_X3_17 (v := .int (vT_n + 1)) hx hb hts hown hK hN hP 0 rfl rfl dX3_add_55 ?_
    refine lv_iconst (v := 1) hx hb dX3_add_58 (by decide) ?_
    refine lv_isub hx hb dX3_add_59 ?_
    refine lv_iconst (v := 3) hx hb dX3_add_60 (by decide) ?_
    refine lv_iload hx hb dX3_add_61 (lv_at hl 4 rfl) ?_
    obtain ⟨r_63, hc_63, hm⟩ := ob_s hm
    refine q_cv (q_rv (rest := []) ⟨hx, hb, hml, hown, hts⟩ hK hN hP hD (c_X3_write l D cI cZ H.size AT AT_c wT nT_c (vT_n + 1) r_50 ((vT_n + 1) - 1) 3 p4 r_63 hc_63) mb_X3_write mv_X3_write wl_X3_24 [0, 1] rfl rfl rfl (Nat.le_of_ble_eq_true rfl) (Nat.le_of_ble_eq_true rfl) rfl hl.1 rfl (Nat.le_of_ble_eq_true rfl) ⟨Nat.le_refl 0, Nat.le_refl 0⟩ dX3_add_63) hP hD hS hA [0, 1] rfl rfl (fun H locs hP hD hS => ?_)
    have hP : va_P D vwCl (wd_X3_add cI cZ AT AT_c wT nT_c (vT_n + 1) r_63) H := hP
    have hD : va_D A (wd_X3_add cI cZ AT AT_c wT nT_c (vT_n + 1) r_63) := hD
    have hm := Option.some.inj hm
    subst hm
    exact q_vret hx hb hr hlocks hP hS dX3_add_66
theorem mb_X3_dropLast : q_mb yX3_dropLast cX3_dropLast 1 none 0 := ⟨wc_X3_dropLast, wn_X3, by decide, by decide, by decide +kernel⟩
theorem mv_X3_dropLast : q_mv yX3_dropLast 3 := ⟨wi_X3_dropLast, ws_X3_dropLast, _, rfl, rfl⟩
def wd_X3_dropLast (cI cZ : ClassId) (AT AT_c : Nat) (wT : Int32) (vT_n : Int32) : va_W := [(AT, .inr (3, [.int wT, .ref AT_c, .int vT_n]))]
def fm_X3_dropLast (vT_n : Int32) : Option (Int32) := if vT_n ≤ 0 then (some (vT_n)) else (some ((vT_n - 1)))
set_option maxHeartbeats 4000000 in
set_option maxRecDepth 100000 in
theorem c_X3_dropLast (l : Launch) (D : va_G) (cI cZ : ClassId) (sz : Nat) (AT AT_c : Nat) (wT : Int32) (vT_n : Int32) (out : (Int32)) (hm : fm_X3_dropLast vT_n = some out) : Met l yX3_dropLast (Cond.code yX3_dropLast cX3_dropLast 1 none :: bg) { frames := 0, cells := 0, slots := 0, locals := 0 } (va_Pc [.ref AT] (q_pre D cI cZ sz (wd_X3_dropLast cI cZ AT AT_c wT vT_n))) (q_Qv D (wd_X3_dropLast cI cZ AT AT_c wT out) (va_A (wd_X3_dropLast cI cZ AT AT_c wT vT_n) sz)) 0 0 (va_A (wd_X3_dropLast cI cZ AT AT_c wT vT_n) sz) := by
  refine q_met (fun A => q_Qv D (wd_X3_dropLast cI cZ AT AT_c wT out) A) (by decide) (Nat.le_of_ble_eq_true rfl) ?_
  intro p e s m below meth c ls A hx hb hr hml hown hts hlocks _ hA hS hP hD hK hN hl
  have hown : s.vm.findClass RX3 = some m.cls := hown
  have hl : lv_has ls 1 [(0, .ref AT)] := hl
  unfold fm_X3_dropLast at hm
  refine q_gen hS hP ?_
  intro H locs hP hS
  refine lv_aload_n hx hb dX3_dropLast_0 rfl (lv_at hl 0 rfl) ?_
  refine gf_X3_17 (v := .int vT_n) hx hb hts hown hK hN hP 0 rfl rfl dX3_dropLast_1 ?_
  refine lv_if_le (tgt := 17) hx hb dX3_dropLast_4 (by decide) (fun c_4 => ?_) (fun c_4 => ?_)
  · have hm := it_s c_4 hm
    have hm := Option.some.inj hm
    subst hm
    exact q_vret hx hb hr hlocks hP hS dX3_dropLast_17
  · have hm := it_n c_4 hm
    refine lv_aload_n hx hb dX3_dropLast_7 rfl (lv_at hl 0 rfl) ?_
    refine lv_dup hx hb dX3_dropLast_8 rfl ?_
    refine gf_X3_17 (v := .int vT_n) hx hb hts hown hK hN hP 0 rfl rfl dX3_dropLast_9 ?_
    refine lv_iconst (v := 1) hx hb dX3_dropLast_12 (by decide) ?_
    refine lv_isub hx hb dX3_dropLast_13 ?_
    refine pf_X3_17 hx hb hts hown hK hN hP hD hS 0 rfl dX3_dropLast_14 (fun H locs hP hD hS => ?_)
    have hP : va_P D vwCl (wd_X3_dropLast cI cZ AT AT_c wT (vT_n - 1)) H := hP
    have hD : va_D A (wd_X3_dropLast cI cZ AT AT_c wT (vT_n - 1)) := hD
    have hm := Option.some.inj hm
    subst hm
    exact q_vret hx hb hr hlocks hP hS dX3_dropLast_17
theorem mb_X3_empty : q_mb yX3_empty cX3_empty 1 none 0 := ⟨wc_X3_empty, wn_X3, by decide, by decide, by decide +kernel⟩
theorem mv_X3_empty : q_mv yX3_empty 3 := ⟨wi_X3_empty, ws_X3_empty, _, rfl, rfl⟩
def wd_X3_empty (cI cZ : ClassId) (AT AT_c : Nat) (wT : Int32) (vT_n : Int32) : va_W := [(AT, .inr (3, [.int wT, .ref AT_c, .int vT_n]))]
def fm_X3_empty (vT_n : Int32) : Option (Int32) := some (0)
set_option maxHeartbeats 4000000 in
set_option maxRecDepth 100000 in
theorem c_X3_empty (l : Launch) (D : va_G) (cI cZ : ClassId) (sz : Nat) (AT AT_c : Nat) (wT : Int32) (vT_n : Int32) (out : (Int32)) (hm : fm_X3_empty vT_n = some out) : Met l yX3_empty (Cond.code yX3_empty cX3_empty 1 none :: bg) { frames := 0, cells := 0, slots := 0, locals := 0 } (va_Pc [.ref AT] (q_pre D cI cZ sz (wd_X3_empty cI cZ AT AT_c wT vT_n))) (q_Qv D (wd_X3_empty cI cZ AT AT_c wT out) (va_A (wd_X3_empty cI cZ AT AT_c wT vT_n) sz)) 0 0 (va_A (wd_X3_empty cI cZ AT AT_c wT vT_n) sz) := by
  refine q_met (fun A => q_Qv D (wd_X3_empty cI cZ AT AT_c wT out) A) (by decide) (Nat.le_of_ble_eq_true rfl) ?_
  intro p e s m below meth c ls A hx hb hr hml hown hts hlocks _ hA hS hP hD hK hN hl
  have hown : s.vm.findClass RX3 = some m.cls := hown
  have hl : lv_has ls 1 [(0, .ref AT)] := hl
  unfold fm_X3_empty at hm
  refine q_gen hS hP ?_
  intro H locs hP hS
  refine lv_aload_n hx hb dX3_empty_0 rfl (lv_at hl 0 rfl) ?_
  refine lv_iconst (v := 0) hx hb dX3_empty_1 (by decide) ?_
  refine pf_X3_17 hx hb hts hown hK hN hP hD hS 0 rfl dX3_empty_2 (fun H locs hP hD hS => ?_)
  have hP : va_P D vwCl (wd_X3_empty cI cZ AT AT_c wT 0) H := hP
  have hD : va_D A (wd_X3_empty cI cZ AT AT_c wT 0) := hD
  have hm := Option.some.inj hm
  subst hm
  exact q_vret hx hb hr hlocks hP hS dX3_empty_5
