theorem gf_X0_9 {p : Program} {l : Launch} {e : Env} {R : Room} {s : State} {m : MethodId} {args : Array Value} {below : List Frame} {meth : Method} {c : Code} {H : Heap} {locs : List Loc} {cells slots : Nat} {Q : State → Prop} {pc : Nat} {ls : Array Slot} {cc : ByteArray} {D : va_G} {cI cZ : ClassId} {ws : va_W} {a : Nat} {rest fs : List Value} (hx : p.tables.exec = Jvm.exec) (hb : c.code = cc) (hts : ∀ w ∈ bg, w.before args s = true) (hown : s.vm.findClass RX0 = some m.cls) (hK : va_K D vwCl (q_tys cI cZ) s) (hN : q_N s) (hP : va_P D vwCl ws H) (q0 : Nat) (he : ws[q0]? = some (a, .inr (0, fs))) {v : Value} (hv : fs[0]? = some v) (hdg : decode cc pc = .ok (.getfield 9, 3)) (kk : W p l e R s m args below meth c H locs cells slots Q (F0 m (pc + 3) ls (v :: rest))) : W p l e R s m args below meth c H locs cells slots Q (F0 m pc ls (.ref a :: rest)) :=
  va_get (C := RX0) (T := TX0) (N := 4) hx hb hts wu_X0 hown hK hP q0 he rfl 0 (by decide) (hts _ wf_X0_9) (fun _ h9 => h9) hv hdg kk
theorem gf_X0_29 {p : Program} {l : Launch} {e : Env} {R : Room} {s : State} {m : MethodId} {args : Array Value} {below : List Frame} {meth : Method} {c : Code} {H : Heap} {locs : List Loc} {cells slots : Nat} {Q : State → Prop} {pc : Nat} {ls : Array Slot} {cc : ByteArray} {D : va_G} {cI cZ : ClassId} {ws : va_W} {a : Nat} {rest fs : List Value} (hx : p.tables.exec = Jvm.exec) (hb : c.code = cc) (hts : ∀ w ∈ bg, w.before args s = true) (hown : s.vm.findClass RX0 = some m.cls) (hK : va_K D vwCl (q_tys cI cZ) s) (hN : q_N s) (hP : va_P D vwCl ws H) (q0 : Nat) (he : ws[q0]? = some (a, .inr (4, fs))) {v : Value} (hv : fs[1]? = some v) (hdg : decode cc pc = .ok (.getfield 29, 3)) (kk : W p l e R s m args below meth c H locs cells slots Q (F0 m (pc + 3) ls (v :: rest))) : W p l e R s m args below meth c H locs cells slots Q (F0 m pc ls (.ref a :: rest)) :=
  va_getN (C := RX4) (T := TX4) (N := 7) hx hb hts wu_X4 hown hK hP q0 he rfl 1 (by decide) ((ng_X0_29 hN).use rfl) (fun _ h9 => h9) hv hdg kk
theorem gf_X0_19 {p : Program} {l : Launch} {e : Env} {R : Room} {s : State} {m : MethodId} {args : Array Value} {below : List Frame} {meth : Method} {c : Code} {H : Heap} {locs : List Loc} {cells slots : Nat} {Q : State → Prop} {pc : Nat} {ls : Array Slot} {cc : ByteArray} {D : va_G} {cI cZ : ClassId} {ws : va_W} {a : Nat} {rest fs : List Value} (hx : p.tables.exec = Jvm.exec) (hb : c.code = cc) (hts : ∀ w ∈ bg, w.before args s = true) (hown : s.vm.findClass RX0 = some m.cls) (hK : va_K D vwCl (q_tys cI cZ) s) (hN : q_N s) (hP : va_P D vwCl ws H) (q0 : Nat) (he : ws[q0]? = some (a, .inr (0, fs))) {v : Value} (hv : fs[2]? = some v) (hdg : decode cc pc = .ok (.getfield 19, 3)) (kk : W p l e R s m args below meth c H locs cells slots Q (F0 m (pc + 3) ls (v :: rest))) : W p l e R s m args below meth c H locs cells slots Q (F0 m pc ls (.ref a :: rest)) :=
  va_get (C := RX0) (T := TX0) (N := 4) hx hb hts wu_X0 hown hK hP q0 he rfl 2 (by decide) (hts _ wf_X0_19) (fun _ h9 => h9) hv hdg kk
theorem mb_X0_believedOfSet : q_mb yX0_believedOfSet cX0_believedOfSet 4 (some .int) 1 := ⟨wc_X0_believedOfSet, wn_X0, by decide, by decide, by decide +kernel⟩
theorem mv_X0_believedOfSet : q_mv yX0_believedOfSet 0 := ⟨wi_X0_believedOfSet, ws_X0_believedOfSet, _, rfl, rfl⟩
def wd_X0_believedOfSet (cI cZ : ClassId) (AT AT_of AT_ft AT_bv AT_ta AT_of_sl AT_of_fl AT_of_ro AT_of_nt AT_of_mk AT_of_mo AT_of_fl_c : Nat) (vT_of_ng : Int32) (vT_of_fl_n : Int32) (fT_bv : Nat → Int32) : va_W := [(AT, .inr (0, [.ref AT_of, .ref AT_ft, .ref AT_bv, .ref AT_ta])), (AT_of, .inr (4, [.ref AT_of_sl, .ref AT_of_fl, .ref AT_of_ro, .ref AT_of_nt, .ref AT_of_mk, .ref AT_of_mo, .int vT_of_ng])), (AT_of_fl, .inr (3, [.int 3, .ref AT_of_fl_c, .int vT_of_fl_n])), (AT_bv, .inl (cI, 6, .inl fT_bv))]
def fL_X0_believedOfSet_4 (p1 : Int32) (vT_of_fl_n : Int32) (fT_bv : Nat → Int32) : Nat → Int32 → Int32 → Option (Int32)
  | 0, _, _ => none
  | fu + 1, x3, x2 => Option.bind (fm_X3_size vT_of_fl_n) (fun r_12 => if r_12 ≤ x3 then (some (x2)) else (Option.bind (fm_X7_holds p1 x3) (fun r_20 => if r_20 = 0 then (fL_X0_believedOfSet_4 p1 vT_of_fl_n fT_bv fu (x3 + 1) x2) else (Option.bind (fm_X7_at 6 x3 fT_bv) (fun r_32 => fL_X0_believedOfSet_4 p1 vT_of_fl_n fT_bv fu (x3 + 1) (x2 + r_32))))))
def fm_X0_believedOfSet (p1 : Int32) (vT_of_fl_n : Int32) (fT_bv : Nat → Int32) : Option (Int32) := fL_X0_believedOfSet_4 p1 vT_of_fl_n fT_bv FU 0 0
set_option maxHeartbeats 4000000 in
set_option maxRecDepth 100000 in
theorem c_X0_believedOfSet (l : Launch) (D : va_G) (cI cZ : ClassId) (sz : Nat) (AT AT_of AT_ft AT_bv AT_ta AT_of_sl AT_of_fl AT_of_ro AT_of_nt AT_of_mk AT_of_mo AT_of_fl_c : Nat) (vT_of_ng : Int32) (vT_of_fl_n : Int32) (fT_bv : Nat → Int32) (p1 : Int32) (out : (Int32)) (hm : fm_X0_believedOfSet p1 vT_of_fl_n fT_bv = some out) : Met l yX0_believedOfSet (Cond.code yX0_believedOfSet cX0_believedOfSet 4 (some .int) :: bg) { frames := 1, cells := 0, slots := 0, locals := 21 } (va_Pc [.ref AT, .int p1] (q_pre D cI cZ sz (wd_X0_believedOfSet cI cZ AT AT_of AT_ft AT_bv AT_ta AT_of_sl AT_of_fl AT_of_ro AT_of_nt AT_of_mk AT_of_mo AT_of_fl_c vT_of_ng vT_of_fl_n fT_bv))) (q_Qi D (wd_X0_believedOfSet cI cZ AT AT_of AT_ft AT_bv AT_ta AT_of_sl AT_of_fl AT_of_ro AT_of_nt AT_of_mk AT_of_mo AT_of_fl_c vT_of_ng vT_of_fl_n fT_bv) out (va_A (wd_X0_believedOfSet cI cZ AT AT_of AT_ft AT_bv AT_ta AT_of_sl AT_of_fl AT_of_ro AT_of_nt AT_of_mk AT_of_mo AT_of_fl_c vT_of_ng vT_of_fl_n fT_bv) sz)) 0 0 (va_A (wd_X0_believedOfSet cI cZ AT AT_of AT_ft AT_bv AT_ta AT_of_sl AT_of_fl AT_of_ro AT_of_nt AT_of_mk AT_of_mo AT_of_fl_c vT_of_ng vT_of_fl_n fT_bv) sz) := by
  refine q_met (fun A => q_Qi D (wd_X0_believedOfSet cI cZ AT AT_of AT_ft AT_bv AT_ta AT_of_sl AT_of_fl AT_of_ro AT_of_nt AT_of_mk AT_of_mo AT_of_fl_c vT_of_ng vT_of_fl_n fT_bv) out A) (by decide) (Nat.le_of_ble_eq_true rfl) ?_
  intro p e s m below meth c ls A hx hb hr hml hown hts hlocks _ hA hS hP hD hK hN hl
  have hown : s.vm.findClass RX0 = some m.cls := hown
  have hl : lv_has ls 4 [(0, .ref AT), (1, .int p1)] := hl
  have hL_4 : ∀ (fu_4 : Nat) (x3 : Int32) (x2 : Int32) (H : Heap) (locs : List Loc) (ls : Array Slot), fL_X0_believedOfSet_4 p1 vT_of_fl_n fT_bv fu_4 x3 x2 = some out → va_P D vwCl (wd_X0_believedOfSet cI cZ AT AT_of AT_ft AT_bv AT_ta AT_of_sl AT_of_fl AT_of_ro AT_of_nt AT_of_mk AT_of_mo AT_of_fl_c vT_of_ng vT_of_fl_n fT_bv) H → va_D A (wd_X0_believedOfSet cI cZ AT AT_of AT_ft AT_bv AT_ta AT_of_sl AT_of_fl AT_of_ro AT_of_nt AT_of_mk AT_of_mo AT_of_fl_c vT_of_ng vT_of_fl_n fT_bv) → va_S A s.heap H locs → lv_has ls 4 [(3, .int x3), (2, .int x2), (0, .ref AT), (1, .int p1)] → W p l e { frames := 1, cells := 0, slots := 0, locals := 21 } s m ([.ref AT, .int p1] : List Value).toArray below meth c H locs 0 0 (MQ below (q_Qi D (wd_X0_believedOfSet cI cZ AT AT_of AT_ft AT_bv AT_ta AT_of_sl AT_of_fl AT_of_ro AT_of_nt AT_of_mk AT_of_mo AT_of_fl_c vT_of_ng vT_of_fl_n fT_bv) out A) ([.ref AT, .int p1] : List Value).toArray s 0 0 A) (F0 m 4 ls []) := by
    intro fu_4
    induction fu_4 with
    | zero => intro x3 x2 H locs ls hm hP hD hS hl; exact absurd (show (none : Option (Int32)) = some out from hm) (fun h => nomatch h)
    | succ fu_4 ih_4 =>
      intro x3 x2 H locs ls hm hP hD hS hl
      rw [fL_X0_believedOfSet_4] at hm
      refine lv_iload_n hx hb dX0_believedOfSet_4 rfl (lv_at hl 0 rfl) ?_
      refine lv_aload_n hx hb dX0_believedOfSet_5 rfl (lv_at hl 2 rfl) ?_
      refine gf_X0_9 (v := .ref AT_of) hx hb hts hown hK hN hP 0 rfl rfl dX0_believedOfSet_6 ?_
      refine gf_X0_29 (v := .ref AT_of_fl) hx hb hts hown hK hN hP 1 rfl rfl dX0_believedOfSet_9 ?_
      obtain ⟨r_12, hc_12, hm⟩ := ob_s hm
      refine q_ci (q_rv (rest := [.int x3]) ⟨hx, hb, hml, hown, hts⟩ hK hN hP hD (c_X3_size l D cI cZ H.size AT_of_fl AT_of_fl_c 3 vT_of_fl_n r_12 hc_12) mb_X3_size mv_X3_size wl_X0_35 [2] rfl rfl rfl (Nat.le_of_ble_eq_true rfl) (Nat.le_of_ble_eq_true rfl) rfl hl.1 rfl (Nat.le_of_ble_eq_true rfl) ⟨Nat.le_refl 0, Nat.le_refl 0⟩ dX0_believedOfSet_12) hP hD hS hA [2] rfl rfl (fun H locs hP hD hS => ?_)
      have hP : va_P D vwCl (wd_X0_believedOfSet cI cZ AT AT_of AT_ft AT_bv AT_ta AT_of_sl AT_of_fl AT_of_ro AT_of_nt AT_of_mk AT_of_mo AT_of_fl_c vT_of_ng vT_of_fl_n fT_bv) H := hP
      have hD : va_D A (wd_X0_believedOfSet cI cZ AT AT_of AT_ft AT_bv AT_ta AT_of_sl AT_of_fl AT_of_ro AT_of_nt AT_of_mk AT_of_mo AT_of_fl_c vT_of_ng vT_of_fl_n fT_bv) := hD
      refine lv_icmp_ge (tgt := 43) hx hb dX0_believedOfSet_15 (by decide) (fun c_15 => ?_) (fun c_15 => ?_)
      · have hm := it_s c_15 hm
        refine lv_iload_n hx hb dX0_believedOfSet_43 rfl (lv_at hl 1 rfl) ?_
        have hm := Option.some.inj hm
        subst hm
        exact q_iret (v := x2) hx hb hr hlocks hP hS dX0_believedOfSet_44
      · have hm := it_n c_15 hm
        refine lv_iload_n hx hb dX0_believedOfSet_18 rfl (lv_at hl 3 rfl) ?_
        refine lv_iload_n hx hb dX0_believedOfSet_19 rfl (lv_at hl 0 rfl) ?_
        obtain ⟨r_20, hc_20, hm⟩ := ob_s hm
        refine q_ci (q_rn (rest := []) ⟨hx, hb, hml, hown, hts⟩ hK hN hP hD (c_X7_holds l D cI cZ H.size p1 x3 r_20 hc_20) mb_X7_holds wt_X7_holds (nl_X0_68 hN) [] rfl rfl (Nat.le_of_ble_eq_true rfl) (Nat.le_of_ble_eq_true rfl) rfl hl.1 rfl (Nat.le_of_ble_eq_true rfl) ⟨Nat.le_refl 0, Nat.le_refl 0⟩ dX0_believedOfSet_20) hP hD hS hA [] rfl rfl (fun H locs hP hD hS => ?_)
        have hP : va_P D vwCl (wd_X0_believedOfSet cI cZ AT AT_of AT_ft AT_bv AT_ta AT_of_sl AT_of_fl AT_of_ro AT_of_nt AT_of_mk AT_of_mo AT_of_fl_c vT_of_ng vT_of_fl_n fT_bv) H := hP
        have hD : va_D A (wd_X0_believedOfSet cI cZ AT AT_of AT_ft AT_bv AT_ta AT_of_sl AT_of_fl AT_of_ro AT_of_nt AT_of_mk AT_of_mo AT_of_fl_c vT_of_ng vT_of_fl_n fT_bv) := hD
        refine lv_if_eq (tgt := 37) hx hb dX0_believedOfSet_23 (by decide) (fun c_23 => ?_) (fun c_23 => ?_)
        · have hm := it_s c_23 hm
          refine lv_iinc (v := (x3 + 1)) (lv' := [(3, .int (x3 + 1)), (2, .int x2), (0, .ref AT), (1, .int p1)]) hx hb dX0_believedOfSet_37 hl (k := 0) rfl rfl (by decide) rfl (fun ls hl => ?_)
          refine lv_goto (tgt := 4) hx hb dX0_believedOfSet_40 (by decide) ?_
          exact ih_4 (x3 + 1) x2 H locs ls hm hP hD hS (lv_sub hl [0, 1, 2, 3] rfl)
        · have hm := it_n c_23 hm
          refine lv_iload_n hx hb dX0_believedOfSet_26 rfl (lv_at hl 1 rfl) ?_
          refine lv_aload_n hx hb dX0_believedOfSet_27 rfl (lv_at hl 2 rfl) ?_
          refine gf_X0_19 (v := .ref AT_bv) hx hb hts hown hK hN hP 0 rfl rfl dX0_believedOfSet_28 ?_
          refine lv_iload_n hx hb dX0_believedOfSet_31 rfl (lv_at hl 0 rfl) ?_
          obtain ⟨r_32, hc_32, hm⟩ := ob_s hm
          refine q_ci (q_rn (rest := [.int x2]) ⟨hx, hb, hml, hown, hts⟩ hK hN hP hD (c_X7_at l D cI cZ H.size AT_bv 6 fT_bv x3 r_32 hc_32) mb_X7_at wt_X7_at (nl_X0_72 hN) [3] rfl rfl (Nat.le_of_ble_eq_true rfl) (Nat.le_of_ble_eq_true rfl) rfl hl.1 rfl (Nat.le_of_ble_eq_true rfl) ⟨Nat.le_refl 0, Nat.le_refl 0⟩ dX0_believedOfSet_32) hP hD hS hA [3] rfl rfl (fun H locs hP hD hS => ?_)
          have hP : va_P D vwCl (wd_X0_believedOfSet cI cZ AT AT_of AT_ft AT_bv AT_ta AT_of_sl AT_of_fl AT_of_ro AT_of_nt AT_of_mk AT_of_mo AT_of_fl_c vT_of_ng vT_of_fl_n fT_bv) H := hP
          have hD : va_D A (wd_X0_believedOfSet cI cZ AT AT_of AT_ft AT_bv AT_ta AT_of_sl AT_of_fl AT_of_ro AT_of_nt AT_of_mk AT_of_mo AT_of_fl_c vT_of_ng vT_of_fl_n fT_bv) := hD
          refine lv_iadd hx hb dX0_believedOfSet_35 ?_
          refine lv_istore_n (lv' := [(2, .int (x2 + r_32)), (3, .int x3), (0, .ref AT), (1, .int p1)]) hx hb dX0_believedOfSet_36 rfl hl (by decide) rfl (fun ls hl => ?_)
          refine lv_iinc (v := (x3 + 1)) (lv' := [(3, .int (x3 + 1)), (2, .int (x2 + r_32)), (0, .ref AT), (1, .int p1)]) hx hb dX0_believedOfSet_37 hl (k := 1) rfl rfl (by decide) rfl (fun ls hl => ?_)
          refine lv_goto (tgt := 4) hx hb dX0_believedOfSet_40 (by decide) ?_
          exact ih_4 (x3 + 1) (x2 + r_32) H locs ls hm hP hD hS (lv_sub hl [0, 1, 2, 3] rfl)
  unfold fm_X0_believedOfSet at hm
  refine q_gen hS hP ?_
  intro H locs hP hS
  refine lv_iconst (v := 0) hx hb dX0_believedOfSet_0 (by decide) ?_
  refine lv_istore_n (lv' := [(2, .int 0), (0, .ref AT), (1, .int p1)]) hx hb dX0_believedOfSet_1 rfl hl (by decide) rfl (fun ls hl => ?_)
  refine lv_iconst (v := 0) hx hb dX0_believedOfSet_2 (by decide) ?_
  refine lv_istore_n (lv' := [(3, .int 0), (2, .int 0), (0, .ref AT), (1, .int p1)]) hx hb dX0_believedOfSet_3 rfl hl (by decide) rfl (fun ls hl => ?_)
  exact hL_4 FU 0 0 H locs ls hm hP hD hS (lv_sub hl [0, 1, 2, 3] rfl)
theorem mb_X0_fillBelieved : q_mb yX0_fillBelieved cX0_fillBelieved 4 none 2 := ⟨wc_X0_fillBelieved, wn_X0, by decide, by decide, by decide +kernel⟩
theorem mv_X0_fillBelieved : q_mv yX0_fillBelieved 0 := ⟨wi_X0_fillBelieved, ws_X0_fillBelieved, _, rfl, rfl⟩
def wd_X0_fillBelieved (cI cZ : ClassId) (AT AT_of AT_ft AT_bv AT_ta AT_of_sl AT_of_fl AT_of_ro AT_of_nt AT_of_mk AT_of_mo AT_of_fl_c AT_of_sl_c : Nat) (vT_of_ng : Int32) (vT_of_fl_n : Int32) (vT_of_sl_n : Int32) (fT_of_sl_c : Nat → Int32) (fT_of_fl_c : Nat → Int32) (fT_bv : Nat → Int32) : va_W := [(AT, .inr (0, [.ref AT_of, .ref AT_ft, .ref AT_bv, .ref AT_ta])), (AT_of, .inr (4, [.ref AT_of_sl, .ref AT_of_fl, .ref AT_of_ro, .ref AT_of_nt, .ref AT_of_mk, .ref AT_of_mo, .int vT_of_ng])), (AT_of_fl, .inr (3, [.int 3, .ref AT_of_fl_c, .int vT_of_fl_n])), (AT_of_sl, .inr (3, [.int 4, .ref AT_of_sl_c, .int vT_of_sl_n])), (AT_of_sl_c, .inl (cI, 24, .inl fT_of_sl_c)), (AT_of_fl_c, .inl (cI, 18, .inl fT_of_fl_c)), (AT_bv, .inl (cI, 6, .inl fT_bv))]
def fL_X0_fillBelieved_2 (p1 : Int32) (p2 : Int32) (vT_of_fl_n : Int32) (vT_of_sl_n : Int32) (fT_of_sl_c : Nat → Int32) (fT_of_fl_c : Nat → Int32) : Nat → Int32 → (Nat → Int32) → Option ((Nat → Int32))
  | 0, _, _ => none
  | fu + 1, x3, fT_bv => Option.bind (fm_X3_size vT_of_fl_n) (fun r_10 => if r_10 ≤ x3 then (some (fT_bv)) else (Option.bind (fm_X4_believedOf p1 x3 p2 vT_of_sl_n fT_of_sl_c vT_of_fl_n fT_of_fl_c) (fun r_28 => Option.bind (fm_X7_put 6 x3 r_28 fT_bv) (fun r_31 => fL_X0_fillBelieved_2 p1 p2 vT_of_fl_n vT_of_sl_n fT_of_sl_c fT_of_fl_c fu (x3 + 1) r_31))))
def fm_X0_fillBelieved (p1 : Int32) (p2 : Int32) (vT_of_fl_n : Int32) (vT_of_sl_n : Int32) (fT_of_sl_c : Nat → Int32) (fT_of_fl_c : Nat → Int32) (fT_bv : Nat → Int32) : Option ((Nat → Int32)) := fL_X0_fillBelieved_2 p1 p2 vT_of_fl_n vT_of_sl_n fT_of_sl_c fT_of_fl_c FU 0 fT_bv
set_option maxHeartbeats 4000000 in
set_option maxRecDepth 100000 in
theorem c_X0_fillBelieved (l : Launch) (D : va_G) (cI cZ : ClassId) (sz : Nat) (AT AT_of AT_ft AT_bv AT_ta AT_of_sl AT_of_fl AT_of_ro AT_of_nt AT_of_mk AT_of_mo AT_of_fl_c AT_of_sl_c : Nat) (vT_of_ng : Int32) (vT_of_fl_n : Int32) (vT_of_sl_n : Int32) (fT_of_sl_c : Nat → Int32) (fT_of_fl_c : Nat → Int32) (fT_bv : Nat → Int32) (p1 : Int32) (p2 : Int32) (out : ((Nat → Int32))) (hm : fm_X0_fillBelieved p1 p2 vT_of_fl_n vT_of_sl_n fT_of_sl_c fT_of_fl_c fT_bv = some out) : Met l yX0_fillBelieved (Cond.code yX0_fillBelieved cX0_fillBelieved 4 none :: bg) { frames := 3, cells := 0, slots := 0, locals := 70 } (va_Pc [.ref AT, .int p1, .int p2] (q_pre D cI cZ sz (wd_X0_fillBelieved cI cZ AT AT_of AT_ft AT_bv AT_ta AT_of_sl AT_of_fl AT_of_ro AT_of_nt AT_of_mk AT_of_mo AT_of_fl_c AT_of_sl_c vT_of_ng vT_of_fl_n vT_of_sl_n fT_of_sl_c fT_of_fl_c fT_bv))) (q_Qv D (wd_X0_fillBelieved cI cZ AT AT_of AT_ft AT_bv AT_ta AT_of_sl AT_of_fl AT_of_ro AT_of_nt AT_of_mk AT_of_mo AT_of_fl_c AT_of_sl_c vT_of_ng vT_of_fl_n vT_of_sl_n fT_of_sl_c fT_of_fl_c out) (va_A (wd_X0_fillBelieved cI cZ AT AT_of AT_ft AT_bv AT_ta AT_of_sl AT_of_fl AT_of_ro AT_of_nt AT_of_mk AT_of_mo AT_of_fl_c AT_of_sl_c vT_of_ng vT_of_fl_n vT_of_sl_n fT_of_sl_c fT_of_fl_c fT_bv) sz)) 0 0 (va_A (wd_X0_fillBelieved cI cZ AT AT_of AT_ft AT_bv AT_ta AT_of_sl AT_of_fl AT_of_ro AT_of_nt AT_of_mk AT_of_mo AT_of_fl_c AT_of_sl_c vT_of_ng vT_of_fl_n vT_of_sl_n fT_of_sl_c fT_of_fl_c fT_bv) sz) := by
  refine q_met (fun A => q_Qv D (wd_X0_fillBelieved cI cZ AT AT_of AT_ft AT_bv AT_ta AT_of_sl AT_of_fl AT_of_ro AT_of_nt AT_of_mk AT_of_mo AT_of_fl_c AT_of_sl_c vT_of_ng vT_of_fl_n vT_of_sl_n fT_of_sl_c fT_of_fl_c out) A) (by decide) (Nat.le_of_ble_eq_true rfl) ?_
  intro p e s m below meth c ls A hx hb hr hml hown hts hlocks _ hA hS hP hD hK hN hl
  have hown : s.vm.findClass RX0 = some m.cls := hown
  have hl : lv_has ls 4 [(0, .ref AT), (1, .int p1), (2, .int p2)] := hl
  have hL_2 : ∀ (fu_2 : Nat) (x3 : Int32) (fT_bv : Nat → Int32) (H : Heap) (locs : List Loc) (ls : Array Slot), fL_X0_fillBelieved_2 p1 p2 vT_of_fl_n vT_of_sl_n fT_of_sl_c fT_of_fl_c fu_2 x3 fT_bv = some out → va_P D vwCl (wd_X0_fillBelieved cI cZ AT AT_of AT_ft AT_bv AT_ta AT_of_sl AT_of_fl AT_of_ro AT_of_nt AT_of_mk AT_of_mo AT_of_fl_c AT_of_sl_c vT_of_ng vT_of_fl_n vT_of_sl_n fT_of_sl_c fT_of_fl_c fT_bv) H → va_D A (wd_X0_fillBelieved cI cZ AT AT_of AT_ft AT_bv AT_ta AT_of_sl AT_of_fl AT_of_ro AT_of_nt AT_of_mk AT_of_mo AT_of_fl_c AT_of_sl_c vT_of_ng vT_of_fl_n vT_of_sl_n fT_of_sl_c fT_of_fl_c fT_bv) → va_S A s.heap H locs → lv_has ls 4 [(3, .int x3), (0, .ref AT), (1, .int p1), (2, .int p2)] → W p l e { frames := 3, cells := 0, slots := 0, locals := 70 } s m ([.ref AT, .int p1, .int p2] : List Value).toArray below meth c H locs 0 0 (MQ below (q_Qv D (wd_X0_fillBelieved cI cZ AT AT_of AT_ft AT_bv AT_ta AT_of_sl AT_of_fl AT_of_ro AT_of_nt AT_of_mk AT_of_mo AT_of_fl_c AT_of_sl_c vT_of_ng vT_of_fl_n vT_of_sl_n fT_of_sl_c fT_of_fl_c out) A) ([.ref AT, .int p1, .int p2] : List Value).toArray s 0 0 A) (F0 m 2 ls []) := by
    intro fu_2
    induction fu_2 with
    | zero => intro x3 fT_bv H locs ls hm hP hD hS hl; exact absurd (show (none : Option ((Nat → Int32))) = some out from hm) (fun h => nomatch h)
    | succ fu_2 ih_2 =>
      intro x3 fT_bv H locs ls hm hP hD hS hl
      rw [fL_X0_fillBelieved_2] at hm
      refine lv_iload_n hx hb dX0_fillBelieved_2 rfl (lv_at hl 0 rfl) ?_
      refine lv_aload_n hx hb dX0_fillBelieved_3 rfl (lv_at hl 1 rfl) ?_
      refine gf_X0_9 (v := .ref AT_of) hx hb hts hown hK hN hP 0 rfl rfl dX0_fillBelieved_4 ?_
      refine gf_X0_29 (v := .ref AT_of_fl) hx hb hts hown hK hN hP 1 rfl rfl dX0_fillBelieved_7 ?_
      obtain ⟨r_10, hc_10, hm⟩ := ob_s hm
      refine q_ci (q_rv (rest := [.int x3]) ⟨hx, hb, hml, hown, hts⟩ hK hN hP hD (c_X3_size l D cI cZ H.size AT_of_fl AT_of_fl_c 3 vT_of_fl_n r_10 hc_10) mb_X3_size mv_X3_size wl_X0_35 [2] rfl rfl rfl (Nat.le_of_ble_eq_true rfl) (Nat.le_of_ble_eq_true rfl) rfl hl.1 rfl (Nat.le_of_ble_eq_true rfl) ⟨Nat.le_refl 0, Nat.le_refl 0⟩ dX0_fillBelieved_10) hP hD hS hA [2] rfl rfl (fun H locs hP hD hS => ?_)
      have hP : va_P D vwCl (wd_X0_fillBelieved cI cZ AT AT_of AT_ft AT_bv AT_ta AT_of_sl AT_of_fl AT_of_ro AT_of_nt AT_of_mk AT_of_mo AT_of_fl_c AT_of_sl_c vT_of_ng vT_of_fl_n vT_of_sl_n fT_of_sl_c fT_of_fl_c fT_bv) H := hP
      have hD : va_D A (wd_X0_fillBelieved cI cZ AT AT_of AT_ft AT_bv AT_ta AT_of_sl AT_of_fl AT_of_ro AT_of_nt AT_of_mk AT_of_mo AT_of_fl_c AT_of_sl_c vT_of_ng vT_of_fl_n vT_of_sl_n fT_of_sl_c fT_of_fl_c fT_bv) := hD
      refine lv_icmp_ge (tgt := 40) hx hb dX0_fillBelieved_13 (by decide) (fun c_13 => ?_) (fun c_13 => ?_)
      · have hm := it_s c_13 hm
        have hm := Option.some.inj hm
        subst hm
        exact q_vret hx hb hr hlocks hP hS dX0_fillBelieved_40
      · have hm := it_n c_13 hm
        refine lv_aload_n hx hb dX0_fillBelieved_16 rfl (lv_at hl 1 rfl) ?_
        refine gf_X0_19 (v := .ref AT_bv) hx hb hts hown hK hN hP 0 rfl rfl dX0_fillBelieved_17 ?_
        refine lv_iload_n hx hb dX0_fillBelieved_20 rfl (lv_at hl 0 rfl) ?_
        refine lv_aload_n hx hb dX0_fillBelieved_21 rfl (lv_at hl 1 rfl) ?_
        refine gf_X0_9 (v := .ref AT_of) hx hb hts hown hK hN hP 0 rfl rfl dX0_fillBelieved_22 ?_
        refine lv_iload_n hx hb dX0_fillBelieved_25 rfl (lv_at hl 2 rfl) ?_
        refine lv_iload_n hx hb dX0_fillBelieved_26 rfl (lv_at hl 0 rfl) ?_
        refine lv_iload_n hx hb dX0_fillBelieved_27 rfl (lv_at hl 3 rfl) ?_
        obtain ⟨r_28, hc_28, hm⟩ := ob_s hm
        refine q_ci (q_rv (rest := [.int x3, .ref AT_bv]) ⟨hx, hb, hml, hown, hts⟩ hK hN hP hD (c_X4_believedOf l D cI cZ H.size AT_of AT_of_sl AT_of_fl AT_of_ro AT_of_nt AT_of_mk AT_of_mo AT_of_sl_c AT_of_fl_c vT_of_ng vT_of_sl_n fT_of_sl_c vT_of_fl_n fT_of_fl_c p1 x3 p2 r_28 hc_28) mb_X4_believedOf mv_X4_believedOf wl_X0_64 [1, 3, 4, 2, 5] rfl rfl rfl (Nat.le_of_ble_eq_true rfl) (Nat.le_of_ble_eq_true rfl) rfl hl.1 rfl (Nat.le_of_ble_eq_true rfl) ⟨Nat.le_refl 0, Nat.le_refl 0⟩ dX0_fillBelieved_28) hP hD hS hA [1, 3, 4, 2, 5] rfl rfl (fun H locs hP hD hS => ?_)
        have hP : va_P D vwCl (wd_X0_fillBelieved cI cZ AT AT_of AT_ft AT_bv AT_ta AT_of_sl AT_of_fl AT_of_ro AT_of_nt AT_of_mk AT_of_mo AT_of_fl_c AT_of_sl_c vT_of_ng vT_of_fl_n vT_of_sl_n fT_of_sl_c fT_of_fl_c fT_bv) H := hP
        have hD : va_D A (wd_X0_fillBelieved cI cZ AT AT_of AT_ft AT_bv AT_ta AT_of_sl AT_of_fl AT_of_ro AT_of_nt AT_of_mk AT_of_mo AT_of_fl_c AT_of_sl_c vT_of_ng vT_of_fl_n vT_of_sl_n fT_of_sl_c fT_of_fl_c fT_bv) := hD
        obtain ⟨r_31, hc_31, hm⟩ := ob_s hm
        refine q_cv (q_rn (rest := []) ⟨hx, hb, hml, hown, hts⟩ hK hN hP hD (c_X7_put l D cI cZ H.size AT_bv 6 fT_bv x3 r_28 r_31 hc_31) mb_X7_put wt_X7_put (nl_X0_41 hN) [6] rfl rfl (Nat.le_of_ble_eq_true rfl) (Nat.le_of_ble_eq_true rfl) rfl hl.1 rfl (Nat.le_of_ble_eq_true rfl) ⟨Nat.le_refl 0, Nat.le_refl 0⟩ dX0_fillBelieved_31) hP hD hS hA [6] rfl rfl (fun H locs hP hD hS => ?_)
        have hP : va_P D vwCl (wd_X0_fillBelieved cI cZ AT AT_of AT_ft AT_bv AT_ta AT_of_sl AT_of_fl AT_of_ro AT_of_nt AT_of_mk AT_of_mo AT_of_fl_c AT_of_sl_c vT_of_ng vT_of_fl_n vT_of_sl_n fT_of_sl_c fT_of_fl_c r_31) H := hP
        have hD : va_D A (wd_X0_fillBelieved cI cZ AT AT_of AT_ft AT_bv AT_ta AT_of_sl AT_of_fl AT_of_ro AT_of_nt AT_of_mk AT_of_mo AT_of_fl_c AT_of_sl_c vT_of_ng vT_of_fl_n vT_of_sl_n fT_of_sl_c fT_of_fl_c r_31) := hD
        refine lv_iinc (v := (x3 + 1)) (lv' := [(3, .int (x3 + 1)), (0, .ref AT), (1, .int p1), (2, .int p2)]) hx hb dX0_fillBelieved_34 hl (k := 0) rfl rfl (by decide) rfl (fun ls hl => ?_)
        refine lv_goto (tgt := 2) hx hb dX0_fillBelieved_37 (by decide) ?_
        exact ih_2 (x3 + 1) r_31 H locs ls hm hP hD hS (lv_sub hl [0, 1, 2, 3] rfl)
  unfold fm_X0_fillBelieved at hm
  refine q_gen hS hP ?_
  intro H locs hP hS
  refine lv_iconst (v := 0) hx hb dX0_fillBelieved_0 (by decide) ?_
  refine lv_istore_n (lv' := [(3, .int 0), (0, .ref AT), (1, .int p1), (2, .int p2)]) hx hb dX0_fillBelieved_1 rfl hl (by decide) rfl (fun ls hl => ?_)
  exact hL_2 FU 0 fT_bv H locs ls hm hP hD hS (lv_sub hl [0, 1, 2, 3] rfl)
theorem gf_X0_15 {p : Program} {l : Launch} {e : Env} {R : Room} {s : State} {m : MethodId} {args : Array Value} {below : List Frame} {meth : Method} {c : Code} {H : Heap} {locs : List Loc} {cells slots : Nat} {Q : State → Prop} {pc : Nat} {ls : Array Slot} {cc : ByteArray} {D : va_G} {cI cZ : ClassId} {ws : va_W} {a : Nat} {rest fs : List Value} (hx : p.tables.exec = Jvm.exec) (hb : c.code = cc) (hts : ∀ w ∈ bg, w.before args s = true) (hown : s.vm.findClass RX0 = some m.cls) (hK : va_K D vwCl (q_tys cI cZ) s) (hN : q_N s) (hP : va_P D vwCl ws H) (q0 : Nat) (he : ws[q0]? = some (a, .inr (0, fs))) {v : Value} (hv : fs[1]? = some v) (hdg : decode cc pc = .ok (.getfield 15, 3)) (kk : W p l e R s m args below meth c H locs cells slots Q (F0 m (pc + 3) ls (v :: rest))) : W p l e R s m args below meth c H locs cells slots Q (F0 m pc ls (.ref a :: rest)) :=
  va_get (C := RX0) (T := TX0) (N := 4) hx hb hts wu_X0 hown hK hP q0 he rfl 1 (by decide) (hts _ wf_X0_15) (fun _ h9 => h9) hv hdg kk
theorem mb_X0_dropUnlike : q_mb yX0_dropUnlike cX0_dropUnlike 5 none 3 := ⟨wc_X0_dropUnlike, wn_X0, by decide, by decide, by decide +kernel⟩
theorem mv_X0_dropUnlike : q_mv yX0_dropUnlike 0 := ⟨wi_X0_dropUnlike, ws_X0_dropUnlike, _, rfl, rfl⟩
def wd_X0_dropUnlike (cI cZ : ClassId) (AT AT_of AT_ft AT_bv AT_ta AT_of_sl AT_of_fl AT_of_ro AT_of_nt AT_of_mk AT_of_mo AT_of_fl_c AT_of_sl_c : Nat) (vT_of_ng : Int32) (vT_of_fl_n : Int32) (vT_of_sl_n : Int32) (fT_of_sl_c : Nat → Int32) (fT_of_fl_c : Nat → Int32) (fT_bv : Nat → Int32) (fT_ft : Nat → Int32) : va_W := [(AT, .inr (0, [.ref AT_of, .ref AT_ft, .ref AT_bv, .ref AT_ta])), (AT_of, .inr (4, [.ref AT_of_sl, .ref AT_of_fl, .ref AT_of_ro, .ref AT_of_nt, .ref AT_of_mk, .ref AT_of_mo, .int vT_of_ng])), (AT_of_fl, .inr (3, [.int 3, .ref AT_of_fl_c, .int vT_of_fl_n])), (AT_of_sl, .inr (3, [.int 4, .ref AT_of_sl_c, .int vT_of_sl_n])), (AT_of_sl_c, .inl (cI, 24, .inl fT_of_sl_c)), (AT_of_fl_c, .inl (cI, 18, .inl fT_of_fl_c)), (AT_bv, .inl (cI, 6, .inl fT_bv)), (AT_ft, .inl (cI, 64, .inl fT_ft))]
def fL_X0_dropUnlike_9 (p1 : Int32) (p2 : Int32) (p3 : Int32) (vT_of_fl_n : Int32) (vT_of_sl_n : Int32) (fT_of_sl_c : Nat → Int32) (fT_of_fl_c : Nat → Int32) : Nat → Int32 → (Nat → Int32) → (Nat → Int32) → Option ((Nat → Int32) × (Nat → Int32))
  | 0, _, _, _ => none
  | fu + 1, x4, fT_bv, fT_ft => if 64 ≤ x4 then (some (fT_bv, fT_ft)) else (Option.bind (fm_X0_believedOfSet x4 vT_of_fl_n fT_bv) (fun r_19 => if r_19 = p3 then (fL_X0_dropUnlike_9 p1 p2 p3 vT_of_fl_n vT_of_sl_n fT_of_sl_c fT_of_fl_c fu (x4 + 1) fT_bv fT_ft) else (Option.bind (fm_X7_put 64 x4 0 fT_ft) (fun r_33 => fL_X0_dropUnlike_9 p1 p2 p3 vT_of_fl_n vT_of_sl_n fT_of_sl_c fT_of_fl_c fu (x4 + 1) fT_bv r_33))))
def fm_X0_dropUnlike (p1 : Int32) (p2 : Int32) (p3 : Int32) (vT_of_fl_n : Int32) (vT_of_sl_n : Int32) (fT_of_sl_c : Nat → Int32) (fT_of_fl_c : Nat → Int32) (fT_bv : Nat → Int32) (fT_ft : Nat → Int32) : Option ((Nat → Int32) × (Nat → Int32)) := Option.bind (fm_X0_fillBelieved p1 p2 vT_of_fl_n vT_of_sl_n fT_of_sl_c fT_of_fl_c fT_bv) (fun r_3 => fL_X0_dropUnlike_9 p1 p2 p3 vT_of_fl_n vT_of_sl_n fT_of_sl_c fT_of_fl_c FU 0 r_3 fT_ft)
set_option maxHeartbeats 4000000 in
set_option maxRecDepth 100000 in
theorem c_X0_dropUnlike (l : Launch) (D : va_G) (cI cZ : ClassId) (sz : Nat) (AT AT_of AT_ft AT_bv AT_ta AT_of_sl AT_of_fl AT_of_ro AT_of_nt AT_of_mk AT_of_mo AT_of_fl_c AT_of_sl_c : Nat) (vT_of_ng : Int32) (vT_of_fl_n : Int32) (vT_of_sl_n : Int32) (fT_of_sl_c : Nat → Int32) (fT_of_fl_c : Nat → Int32) (fT_bv : Nat → Int32) (fT_ft : Nat → Int32) (p1 : Int32) (p2 : Int32) (p3 : Int32) (out : ((Nat → Int32) × (Nat → Int32))) (hm : fm_X0_dropUnlike p1 p2 p3 vT_of_fl_n vT_of_sl_n fT_of_sl_c fT_of_fl_c fT_bv fT_ft = some out) : Met l yX0_dropUnlike (Cond.code yX0_dropUnlike cX0_dropUnlike 5 none :: bg) { frames := 4, cells := 0, slots := 0, locals := 93 } (va_Pc [.ref AT, .int p1, .int p2, .int p3] (q_pre D cI cZ sz (wd_X0_dropUnlike cI cZ AT AT_of AT_ft AT_bv AT_ta AT_of_sl AT_of_fl AT_of_ro AT_of_nt AT_of_mk AT_of_mo AT_of_fl_c AT_of_sl_c vT_of_ng vT_of_fl_n vT_of_sl_n fT_of_sl_c fT_of_fl_c fT_bv fT_ft))) (q_Qv D (wd_X0_dropUnlike cI cZ AT AT_of AT_ft AT_bv AT_ta AT_of_sl AT_of_fl AT_of_ro AT_of_nt AT_of_mk AT_of_mo AT_of_fl_c AT_of_sl_c vT_of_ng vT_of_fl_n vT_of_sl_n fT_of_sl_c fT_of_fl_c out.1 out.2) (va_A (wd_X0_dropUnlike cI cZ AT AT_of AT_ft AT_bv AT_ta AT_of_sl AT_of_fl AT_of_ro AT_of_nt AT_of_mk AT_of_mo AT_of_fl_c AT_of_sl_c vT_of_ng vT_of_fl_n vT_of_sl_n fT_of_sl_c fT_of_fl_c fT_bv fT_ft) sz)) 0 0 (va_A (wd_X0_dropUnlike cI cZ AT AT_of AT_ft AT_bv AT_ta AT_of_sl AT_of_fl AT_of_ro AT_of_nt AT_of_mk AT_of_mo AT_of_fl_c AT_of_sl_c vT_of_ng vT_of_fl_n vT_of_sl_n fT_of_sl_c fT_of_fl_c fT_bv fT_ft) sz) := by
  refine q_met (fun A => q_Qv D (wd_X0_dropUnlike cI cZ AT AT_of AT_ft AT_bv AT_ta AT_of_sl AT_of_fl AT_of_ro AT_of_nt AT_of_mk AT_of_mo AT_of_fl_c AT_of_sl_c vT_of_ng vT_of_fl_n vT_of_sl_n fT_of_sl_c fT_of_fl_c out.1 out.2) A) (by decide) (Nat.le_of_ble_eq_true rfl) ?_
  intro p e s m below meth c ls A hx hb hr hml hown hts hlocks _ hA hS hP hD hK hN hl
  have hown : s.vm.findClass RX0 = some m.cls := hown
  have hl : lv_has ls 5 [(0, .ref AT), (1, .int p1), (2, .int p2), (3, .int p3)] := hl
  have hL_9 : ∀ (fu_9 : Nat) (x4 : Int32) (fT_bv : Nat → Int32) (fT_ft : Nat → Int32) (H : Heap) (locs : List Loc) (ls : Array Slot), fL_X0_dropUnlike_9 p1 p2 p3 vT_of_fl_n vT_of_sl_n fT_of_sl_c fT_of_fl_c fu_9 x4 fT_bv fT_ft = some out → va_P D vwCl (wd_X0_dropUnlike cI cZ AT AT_of AT_ft AT_bv AT_ta AT_of_sl AT_of_fl AT_of_ro AT_of_nt AT_of_mk AT_of_mo AT_of_fl_c AT_of_sl_c vT_of_ng vT_of_fl_n vT_of_sl_n fT_of_sl_c fT_of_fl_c fT_bv fT_ft) H → va_D A (wd_X0_dropUnlike cI cZ AT AT_of AT_ft AT_bv AT_ta AT_of_sl AT_of_fl AT_of_ro AT_of_nt AT_of_mk AT_of_mo AT_of_fl_c AT_of_sl_c vT_of_ng vT_of_fl_n vT_of_sl_n fT_of_sl_c fT_of_fl_c fT_bv fT_ft) → va_S A s.heap H locs → lv_has ls 5 [(4, .int x4), (0, .ref AT), (3, .int p3)] → W p l e { frames := 4, cells := 0, slots := 0, locals := 93 } s m ([.ref AT, .int p1, .int p2, .int p3] : List Value).toArray below meth c H locs 0 0 (MQ below (q_Qv D (wd_X0_dropUnlike cI cZ AT AT_of AT_ft AT_bv AT_ta AT_of_sl AT_of_fl AT_of_ro AT_of_nt AT_of_mk AT_of_mo AT_of_fl_c AT_of_sl_c vT_of_ng vT_of_fl_n vT_of_sl_n fT_of_sl_c fT_of_fl_c out.1 out.2) A) ([.ref AT, .int p1, .int p2, .int p3] : List Value).toArray s 0 0 A) (F0 m 9 ls []) := by
    intro fu_9
    induction fu_9 with
    | zero => intro x4 fT_bv fT_ft H locs ls hm hP hD hS hl; exact absurd (show (none : Option ((Nat → Int32) × (Nat → Int32))) = some out from hm) (fun h => nomatch h)
    | succ fu_9 ih_9 =>
      intro x4 fT_bv fT_ft H locs ls hm hP hD hS hl
      rw [fL_X0_dropUnlike_9] at hm
      refine lv_iload hx hb dX0_dropUnlike_9 (lv_at hl 0 rfl) ?_
      refine lv_bipush (v := 64) hx hb dX0_dropUnlike_11 (by decide) ?_
      refine lv_icmp_ge (tgt := 42) hx hb dX0_dropUnlike_13 (by decide) (fun c_13 => ?_) (fun c_13 => ?_)
      · have hm := it_s c_13 hm
        have hm := Option.some.inj hm
        subst hm
        exact q_vret hx hb hr hlocks hP hS dX0_dropUnlike_42
      · have hm := it_n c_13 hm
        refine lv_aload_n hx hb dX0_dropUnlike_16 rfl (lv_at hl 1 rfl) ?_
        refine lv_iload hx hb dX0_dropUnlike_17 (lv_at hl 0 rfl) ?_
        obtain ⟨r_19, hc_19, hm⟩ := ob_s hm
        refine q_ci (q_rv (rest := []) ⟨hx, hb, hml, hown, hts⟩ hK hN hP hD (c_X0_believedOfSet l D cI cZ H.size AT AT_of AT_ft AT_bv AT_ta AT_of_sl AT_of_fl AT_of_ro AT_of_nt AT_of_mk AT_of_mo AT_of_fl_c vT_of_ng vT_of_fl_n fT_bv x4 r_19 hc_19) mb_X0_believedOfSet mv_X0_believedOfSet wl_X0_60 [0, 1, 2, 6] rfl rfl rfl (Nat.le_of_ble_eq_true rfl) (Nat.le_of_ble_eq_true rfl) rfl hl.1 rfl (Nat.le_of_ble_eq_true rfl) ⟨Nat.le_refl 0, Nat.le_refl 0⟩ dX0_dropUnlike_19) hP hD hS hA [0, 1, 2, 6] rfl rfl (fun H locs hP hD hS => ?_)
        have hP : va_P D vwCl (wd_X0_dropUnlike cI cZ AT AT_of AT_ft AT_bv AT_ta AT_of_sl AT_of_fl AT_of_ro AT_of_nt AT_of_mk AT_of_mo AT_of_fl_c AT_of_sl_c vT_of_ng vT_of_fl_n vT_of_sl_n fT_of_sl_c fT_of_fl_c fT_bv fT_ft) H := hP
        have hD : va_D A (wd_X0_dropUnlike cI cZ AT AT_of AT_ft AT_bv AT_ta AT_of_sl AT_of_fl AT_of_ro AT_of_nt AT_of_mk AT_of_mo AT_of_fl_c AT_of_sl_c vT_of_ng vT_of_fl_n vT_of_sl_n fT_of_sl_c fT_of_fl_c fT_bv fT_ft) := hD
        refine lv_iload_n hx hb dX0_dropUnlike_22 rfl (lv_at hl 2 rfl) ?_
        refine lv_icmp_eq (tgt := 36) hx hb dX0_dropUnlike_23 (by decide) (fun c_23 => ?_) (fun c_23 => ?_)
        · have hm := it_s c_23 hm
          refine lv_iinc (v := (x4 + 1)) (lv' := [(4, .int (x4 + 1)), (0, .ref AT), (3, .int p3)]) hx hb dX0_dropUnlike_36 hl (k := 0) rfl rfl (by decide) rfl (fun ls hl => ?_)
          refine lv_goto (tgt := 9) hx hb dX0_dropUnlike_39 (by decide) ?_
          exact ih_9 (x4 + 1) fT_bv fT_ft H locs ls hm hP hD hS (lv_sub hl [0, 1, 2] rfl)
        · have hm := it_n c_23 hm
          refine lv_aload_n hx hb dX0_dropUnlike_26 rfl (lv_at hl 1 rfl) ?_
          refine gf_X0_15 (v := .ref AT_ft) hx hb hts hown hK hN hP 0 rfl rfl dX0_dropUnlike_27 ?_
          refine lv_iload hx hb dX0_dropUnlike_30 (lv_at hl 0 rfl) ?_
          refine lv_iconst (v := 0) hx hb dX0_dropUnlike_32 (by decide) ?_
          obtain ⟨r_33, hc_33, hm⟩ := ob_s hm
          refine q_cv (q_rn (rest := []) ⟨hx, hb, hml, hown, hts⟩ hK hN hP hD (c_X7_put l D cI cZ H.size AT_ft 64 fT_ft x4 0 r_33 hc_33) mb_X7_put wt_X7_put (nl_X0_41 hN) [7] rfl rfl (Nat.le_of_ble_eq_true rfl) (Nat.le_of_ble_eq_true rfl) rfl hl.1 rfl (Nat.le_of_ble_eq_true rfl) ⟨Nat.le_refl 0, Nat.le_refl 0⟩ dX0_dropUnlike_33) hP hD hS hA [7] rfl rfl (fun H locs hP hD hS => ?_)
          have hP : va_P D vwCl (wd_X0_dropUnlike cI cZ AT AT_of AT_ft AT_bv AT_ta AT_of_sl AT_of_fl AT_of_ro AT_of_nt AT_of_mk AT_of_mo AT_of_fl_c AT_of_sl_c vT_of_ng vT_of_fl_n vT_of_sl_n fT_of_sl_c fT_of_fl_c fT_bv r_33) H := hP
          have hD : va_D A (wd_X0_dropUnlike cI cZ AT AT_of AT_ft AT_bv AT_ta AT_of_sl AT_of_fl AT_of_ro AT_of_nt AT_of_mk AT_of_mo AT_of_fl_c AT_of_sl_c vT_of_ng vT_of_fl_n vT_of_sl_n fT_of_sl_c fT_of_fl_c fT_bv r_33) := hD
          refine lv_iinc (v := (x4 + 1)) (lv' := [(4, .int (x4 + 1)), (0, .ref AT), (3, .int p3)]) hx hb dX0_dropUnlike_36 hl (k := 0) rfl rfl (by decide) rfl (fun ls hl => ?_)
          refine lv_goto (tgt := 9) hx hb dX0_dropUnlike_39 (by decide) ?_
          exact ih_9 (x4 + 1) fT_bv r_33 H locs ls hm hP hD hS (lv_sub hl [0, 1, 2] rfl)
  unfold fm_X0_dropUnlike at hm
  refine q_gen hS hP ?_
  intro H locs hP hS
  refine lv_aload_n hx hb dX0_dropUnlike_0 rfl (lv_at hl 0 rfl) ?_
  refine lv_iload_n hx hb dX0_dropUnlike_1 rfl (lv_at hl 1 rfl) ?_
  refine lv_iload_n hx hb dX0_dropUnlike_2 rfl (lv_at hl 2 rfl) ?_
  obtain ⟨r_3, hc_3, hm⟩ := ob_s hm
  refine q_cv (q_rv (rest := []) ⟨hx, hb, hml, hown, hts⟩ hK hN hP hD (c_X0_fillBelieved l D cI cZ H.size AT AT_of AT_ft AT_bv AT_ta AT_of_sl AT_of_fl AT_of_ro AT_of_nt AT_of_mk AT_of_mo AT_of_fl_c AT_of_sl_c vT_of_ng vT_of_fl_n vT_of_sl_n fT_of_sl_c fT_of_fl_c fT_bv p1 p2 r_3 hc_3) mb_X0_fillBelieved mv_X0_fillBelieved wl_X0_56 [0, 1, 2, 3, 4, 5, 6] rfl rfl rfl (Nat.le_of_ble_eq_true rfl) (Nat.le_of_ble_eq_true rfl) rfl hl.1 rfl (Nat.le_of_ble_eq_true rfl) ⟨Nat.le_refl 0, Nat.le_refl 0⟩ dX0_dropUnlike_3) hP hD hS hA [0, 1, 2, 3, 4, 5, 6] rfl rfl (fun H locs hP hD hS => ?_)
  have hP : va_P D vwCl (wd_X0_dropUnlike cI cZ AT AT_of AT_ft AT_bv AT_ta AT_of_sl AT_of_fl AT_of_ro AT_of_nt AT_of_mk AT_of_mo AT_of_fl_c AT_of_sl_c vT_of_ng vT_of_fl_n vT_of_sl_n fT_of_sl_c fT_of_fl_c r_3 fT_ft) H := hP
  have hD : va_D A (wd_X0_dropUnlike cI cZ AT AT_of AT_ft AT_bv AT_ta AT_of_sl AT_of_fl AT_of_ro AT_of_nt AT_of_mk AT_of_mo AT_of_fl_c AT_of_sl_c vT_of_ng vT_of_fl_n vT_of_sl_n fT_of_sl_c fT_of_fl_c r_3 fT_ft) := hD
  refine lv_iconst (v := 0) hx hb dX0_dropUnlike_6 (by decide) ?_
  refine lv_istore (lv' := [(4, .int 0), (0, .ref AT), (1, .int p1), (2, .int p2), (3, .int p3)]) hx hb dX0_dropUnlike_7 hl (by decide) rfl (fun ls hl => ?_)
  exact hL_9 FU 0 r_3 fT_ft H locs ls hm hP hD hS (lv_sub hl [0, 1, 4] rfl)
theorem gf_X0_45 {p : Program} {l : Launch} {e : Env} {R : Room} {s : State} {m : MethodId} {args : Array Value} {below : List Frame} {meth : Method} {c : Code} {H : Heap} {locs : List Loc} {cells slots : Nat} {Q : State → Prop} {pc : Nat} {ls : Array Slot} {cc : ByteArray} {D : va_G} {cI cZ : ClassId} {ws : va_W} {a : Nat} {rest fs : List Value} (hx : p.tables.exec = Jvm.exec) (hb : c.code = cc) (hts : ∀ w ∈ bg, w.before args s = true) (hown : s.vm.findClass RX0 = some m.cls) (hK : va_K D vwCl (q_tys cI cZ) s) (hN : q_N s) (hP : va_P D vwCl ws H) (q0 : Nat) (he : ws[q0]? = some (a, .inr (4, fs))) {v : Value} (hv : fs[2]? = some v) (hdg : decode cc pc = .ok (.getfield 45, 3)) (kk : W p l e R s m args below meth c H locs cells slots Q (F0 m (pc + 3) ls (v :: rest))) : W p l e R s m args below meth c H locs cells slots Q (F0 m pc ls (.ref a :: rest)) :=
  va_getN (C := RX4) (T := TX4) (N := 7) hx hb hts wu_X4 hown hK hP q0 he rfl 2 (by decide) ((ng_X0_45 hN).use rfl) (fun _ h9 => h9) hv hdg kk
theorem mb_X0_findSets : q_mb yX0_findSets cX0_findSets 3 none 1 := ⟨wc_X0_findSets, wn_X0, by decide, by decide, by decide +kernel⟩
theorem mv_X0_findSets : q_mv yX0_findSets 0 := ⟨wi_X0_findSets, ws_X0_findSets, _, rfl, rfl⟩
def wd_X0_findSets (cI cZ : ClassId) (AT AT_of AT_ft AT_bv AT_ta AT_of_sl AT_of_fl AT_of_ro AT_of_nt AT_of_mk AT_of_mo AT_of_fl_c AT_of_ro_c AT_of_sl_c : Nat) (vT_of_ng : Int32) (vT_of_fl_n : Int32) (fT_ft : Nat → Int32) (vT_of_ro_n : Int32) (fT_of_ro_c : Nat → Int32) (vT_of_sl_n : Int32) (fT_of_sl_c : Nat → Int32) (fT_of_fl_c : Nat → Int32) (fT_bv : Nat → Int32) : va_W := [(AT, .inr (0, [.ref AT_of, .ref AT_ft, .ref AT_bv, .ref AT_ta])), (AT_of, .inr (4, [.ref AT_of_sl, .ref AT_of_fl, .ref AT_of_ro, .ref AT_of_nt, .ref AT_of_mk, .ref AT_of_mo, .int vT_of_ng])), (AT_of_fl, .inr (3, [.int 3, .ref AT_of_fl_c, .int vT_of_fl_n])), (AT_ft, .inl (cI, 64, .inl fT_ft)), (AT_of_ro, .inr (3, [.int 3, .ref AT_of_ro_c, .int vT_of_ro_n])), (AT_of_ro_c, .inl (cI, 15, .inl fT_of_ro_c)), (AT_of_sl, .inr (3, [.int 4, .ref AT_of_sl_c, .int vT_of_sl_n])), (AT_of_sl_c, .inl (cI, 24, .inl fT_of_sl_c)), (AT_of_fl_c, .inl (cI, 18, .inl fT_of_fl_c)), (AT_bv, .inl (cI, 6, .inl fT_bv))]
def fL_X0_findSets_45 (p1 : Int32) (vT_of_fl_n : Int32) (vT_of_ro_n : Int32) (fT_of_ro_c : Nat → Int32) (vT_of_sl_n : Int32) (fT_of_sl_c : Nat → Int32) (fT_of_fl_c : Nat → Int32) : Nat → Int32 → (Nat → Int32) → (Nat → Int32) → Option ((Nat → Int32) × (Nat → Int32))
  | 0, _, _, _ => none
  | fu + 1, x2, fT_ft, fT_bv => Option.bind (fm_X3_size vT_of_ro_n) (fun r_53 => if r_53 ≤ x2 then (some (fT_ft, fT_bv)) else (Option.bind (fm_X3_cell 3 15 x2 0 vT_of_ro_n fT_of_ro_c) (fun r_68 => if r_68 = p1 then (Option.bind (fm_X3_cell 3 15 x2 1 vT_of_ro_n fT_of_ro_c) (fun r_86 => Option.bind (fm_X3_cell 3 15 x2 2 vT_of_ro_n fT_of_ro_c) (fun r_98 => Option.bind (fm_X0_dropUnlike p1 r_86 r_98 vT_of_fl_n vT_of_sl_n fT_of_sl_c fT_of_fl_c fT_bv fT_ft) (fun r_101 => fL_X0_findSets_45 p1 vT_of_fl_n vT_of_ro_n fT_of_ro_c vT_of_sl_n fT_of_sl_c fT_of_fl_c fu (x2 + 1) r_101.2 r_101.1)))) else (fL_X0_findSets_45 p1 vT_of_fl_n vT_of_ro_n fT_of_ro_c vT_of_sl_n fT_of_sl_c fT_of_fl_c fu (x2 + 1) fT_ft fT_bv))))
def fL_X0_findSets_2 (p1 : Int32) (vT_of_fl_n : Int32) (vT_of_ro_n : Int32) (fT_of_ro_c : Nat → Int32) (vT_of_sl_n : Int32) (fT_of_sl_c : Nat → Int32) (fT_of_fl_c : Nat → Int32) : Nat → Int32 → (Nat → Int32) → (Nat → Int32) → Option ((Nat → Int32) × (Nat → Int32))
  | 0, _, _, _ => none
  | fu + 1, x2, fT_ft, fT_bv => if 64 ≤ x2 then (fL_X0_findSets_45 p1 vT_of_fl_n vT_of_ro_n fT_of_ro_c vT_of_sl_n fT_of_sl_c fT_of_fl_c FU 0 fT_ft fT_bv) else (Option.bind (fm_X3_size vT_of_fl_n) (fun r_22 => if (1 <<< (r_22 &&& 31)) ≤ x2 then (Option.bind (fm_X7_put 64 x2 0 fT_ft) (fun r_34 => fL_X0_findSets_2 p1 vT_of_fl_n vT_of_ro_n fT_of_ro_c vT_of_sl_n fT_of_sl_c fT_of_fl_c fu (x2 + 1) r_34 fT_bv)) else (Option.bind (fm_X7_put 64 x2 1 fT_ft) (fun r_34 => fL_X0_findSets_2 p1 vT_of_fl_n vT_of_ro_n fT_of_ro_c vT_of_sl_n fT_of_sl_c fT_of_fl_c fu (x2 + 1) r_34 fT_bv))))
def fm_X0_findSets (p1 : Int32) (vT_of_fl_n : Int32) (fT_ft : Nat → Int32) (vT_of_ro_n : Int32) (fT_of_ro_c : Nat → Int32) (vT_of_sl_n : Int32) (fT_of_sl_c : Nat → Int32) (fT_of_fl_c : Nat → Int32) (fT_bv : Nat → Int32) : Option ((Nat → Int32) × (Nat → Int32)) := fL_X0_findSets_2 p1 vT_of_fl_n vT_of_ro_n fT_of_ro_c vT_of_sl_n fT_of_sl_c fT_of_fl_c FU 0 fT_ft fT_bv
set_option maxHeartbeats 4000000 in
set_option maxRecDepth 100000 in
theorem c_X0_findSets (l : Launch) (D : va_G) (cI cZ : ClassId) (sz : Nat) (AT AT_of AT_ft AT_bv AT_ta AT_of_sl AT_of_fl AT_of_ro AT_of_nt AT_of_mk AT_of_mo AT_of_fl_c AT_of_ro_c AT_of_sl_c : Nat) (vT_of_ng : Int32) (vT_of_fl_n : Int32) (fT_ft : Nat → Int32) (vT_of_ro_n : Int32) (fT_of_ro_c : Nat → Int32) (vT_of_sl_n : Int32) (fT_of_sl_c : Nat → Int32) (fT_of_fl_c : Nat → Int32) (fT_bv : Nat → Int32) (p1 : Int32) (out : ((Nat → Int32) × (Nat → Int32))) (hm : fm_X0_findSets p1 vT_of_fl_n fT_ft vT_of_ro_n fT_of_ro_c vT_of_sl_n fT_of_sl_c fT_of_fl_c fT_bv = some out) : Met l yX0_findSets (Cond.code yX0_findSets cX0_findSets 3 none :: bg) { frames := 5, cells := 0, slots := 0, locals := 117 } (va_Pc [.ref AT, .int p1] (q_pre D cI cZ sz (wd_X0_findSets cI cZ AT AT_of AT_ft AT_bv AT_ta AT_of_sl AT_of_fl AT_of_ro AT_of_nt AT_of_mk AT_of_mo AT_of_fl_c AT_of_ro_c AT_of_sl_c vT_of_ng vT_of_fl_n fT_ft vT_of_ro_n fT_of_ro_c vT_of_sl_n fT_of_sl_c fT_of_fl_c fT_bv))) (q_Qv D (wd_X0_findSets cI cZ AT AT_of AT_ft AT_bv AT_ta AT_of_sl AT_of_fl AT_of_ro AT_of_nt AT_of_mk AT_of_mo AT_of_fl_c AT_of_ro_c AT_of_sl_c vT_of_ng vT_of_fl_n out.1 vT_of_ro_n fT_of_ro_c vT_of_sl_n fT_of_sl_c fT_of_fl_c out.2) (va_A (wd_X0_findSets cI cZ AT AT_of AT_ft AT_bv AT_ta AT_of_sl AT_of_fl AT_of_ro AT_of_nt AT_of_mk AT_of_mo AT_of_fl_c AT_of_ro_c AT_of_sl_c vT_of_ng vT_of_fl_n fT_ft vT_of_ro_n fT_of_ro_c vT_of_sl_n fT_of_sl_c fT_of_fl_c fT_bv) sz)) 0 0 (va_A (wd_X0_findSets cI cZ AT AT_of AT_ft AT_bv AT_ta AT_of_sl AT_of_fl AT_of_ro AT_of_nt AT_of_mk AT_of_mo AT_of_fl_c AT_of_ro_c AT_of_sl_c vT_of_ng vT_of_fl_n fT_ft vT_of_ro_n fT_of_ro_c vT_of_sl_n fT_of_sl_c fT_of_fl_c fT_bv) sz) := by
  refine q_met (fun A => q_Qv D (wd_X0_findSets cI cZ AT AT_of AT_ft AT_bv AT_ta AT_of_sl AT_of_fl AT_of_ro AT_of_nt AT_of_mk AT_of_mo AT_of_fl_c AT_of_ro_c AT_of_sl_c vT_of_ng vT_of_fl_n out.1 vT_of_ro_n fT_of_ro_c vT_of_sl_n fT_of_sl_c fT_of_fl_c out.2) A) (by decide) (Nat.le_of_ble_eq_true rfl) ?_
  intro p e s m below meth c ls A hx hb hr hml hown hts hlocks _ hA hS hP hD hK hN hl
  have hown : s.vm.findClass RX0 = some m.cls := hown
  have hl : lv_has ls 3 [(0, .ref AT), (1, .int p1)] := hl
  have hL_45 : ∀ (fu_45 : Nat) (x2 : Int32) (fT_ft : Nat → Int32) (fT_bv : Nat → Int32) (H : Heap) (locs : List Loc) (ls : Array Slot), fL_X0_findSets_45 p1 vT_of_fl_n vT_of_ro_n fT_of_ro_c vT_of_sl_n fT_of_sl_c fT_of_fl_c fu_45 x2 fT_ft fT_bv = some out → va_P D vwCl (wd_X0_findSets cI cZ AT AT_of AT_ft AT_bv AT_ta AT_of_sl AT_of_fl AT_of_ro AT_of_nt AT_of_mk AT_of_mo AT_of_fl_c AT_of_ro_c AT_of_sl_c vT_of_ng vT_of_fl_n fT_ft vT_of_ro_n fT_of_ro_c vT_of_sl_n fT_of_sl_c fT_of_fl_c fT_bv) H → va_D A (wd_X0_findSets cI cZ AT AT_of AT_ft AT_bv AT_ta AT_of_sl AT_of_fl AT_of_ro AT_of_nt AT_of_mk AT_of_mo AT_of_fl_c AT_of_ro_c AT_of_sl_c vT_of_ng vT_of_fl_n fT_ft vT_of_ro_n fT_of_ro_c vT_of_sl_n fT_of_sl_c fT_of_fl_c fT_bv) → va_S A s.heap H locs → lv_has ls 3 [(2, .int x2), (0, .ref AT), (1, .int p1)] → W p l e { frames := 5, cells := 0, slots := 0, locals := 117 } s m ([.ref AT, .int p1] : List Value).toArray below meth c H locs 0 0 (MQ below (q_Qv D (wd_X0_findSets cI cZ AT AT_of AT_ft AT_bv AT_ta AT_of_sl AT_of_fl AT_of_ro AT_of_nt AT_of_mk AT_of_mo AT_of_fl_c AT_of_ro_c AT_of_sl_c vT_of_ng vT_of_fl_n out.1 vT_of_ro_n fT_of_ro_c vT_of_sl_n fT_of_sl_c fT_of_fl_c out.2) A) ([.ref AT, .int p1] : List Value).toArray s 0 0 A) (F0 m 45 ls []) := by
    intro fu_45
    induction fu_45 with
    | zero => intro x2 fT_ft fT_bv H locs ls hm hP hD hS hl; exact absurd (show (none : Option ((Nat → Int32) × (Nat → Int32))) = some out from hm) (fun h => nomatch h)
    | succ fu_45 ih_45 =>
      intro x2 fT_ft fT_bv H locs ls hm hP hD hS hl
      rw [fL_X0_findSets_45] at hm
      refine lv_iload_n hx hb dX0_findSets_45 rfl (lv_at hl 0 rfl) ?_
      refine lv_aload_n hx hb dX0_findSets_46 rfl (lv_at hl 1 rfl) ?_
      refine gf_X0_9 (v := .ref AT_of) hx hb hts hown hK hN hP 0 rfl rfl dX0_findSets_47 ?_
      refine gf_X0_45 (v := .ref AT_of_ro) hx hb hts hown hK hN hP 1 rfl rfl dX0_findSets_50 ?_
      obtain ⟨r_53, hc_53, hm⟩ := ob_s hm
      refine q_ci (q_rv (rest := [.int x2]) ⟨hx, hb, hml, hown, hts⟩ hK hN hP hD (c_X3_size l D cI cZ H.size AT_of_ro AT_of_ro_c 3 vT_of_ro_n r_53 hc_53) mb_X3_size mv_X3_size wl_X0_35 [4] rfl rfl rfl (Nat.le_of_ble_eq_true rfl) (Nat.le_of_ble_eq_true rfl) rfl hl.1 rfl (Nat.le_of_ble_eq_true rfl) ⟨Nat.le_refl 0, Nat.le_refl 0⟩ dX0_findSets_53) hP hD hS hA [4] rfl rfl (fun H locs hP hD hS => ?_)
      have hP : va_P D vwCl (wd_X0_findSets cI cZ AT AT_of AT_ft AT_bv AT_ta AT_of_sl AT_of_fl AT_of_ro AT_of_nt AT_of_mk AT_of_mo AT_of_fl_c AT_of_ro_c AT_of_sl_c vT_of_ng vT_of_fl_n fT_ft vT_of_ro_n fT_of_ro_c vT_of_sl_n fT_of_sl_c fT_of_fl_c fT_bv) H := hP
      have hD : va_D A (wd_X0_findSets cI cZ AT AT_of AT_ft AT_bv AT_ta AT_of_sl AT_of_fl AT_of_ro AT_of_nt AT_of_mk AT_of_mo AT_of_fl_c AT_of_ro_c AT_of_sl_c vT_of_ng vT_of_fl_n fT_ft vT_of_ro_n fT_of_ro_c vT_of_sl_n fT_of_sl_c fT_of_fl_c fT_bv) := hD
      refine lv_icmp_ge (tgt := 110) hx hb dX0_findSets_56 (by decide) (fun c_56 => ?_) (fun c_56 => ?_)
      · have hm := it_s c_56 hm
        have hm := Option.some.inj hm
        subst hm
        exact q_vret hx hb hr hlocks hP hS dX0_findSets_110
      · have hm := it_n c_56 hm
        refine lv_aload_n hx hb dX0_findSets_59 rfl (lv_at hl 1 rfl) ?_
        refine gf_X0_9 (v := .ref AT_of) hx hb hts hown hK hN hP 0 rfl rfl dX0_findSets_60 ?_
        refine gf_X0_45 (v := .ref AT_of_ro) hx hb hts hown hK hN hP 1 rfl rfl dX0_findSets_63 ?_
        refine lv_iload_n hx hb dX0_findSets_66 rfl (lv_at hl 0 rfl) ?_
        refine lv_iconst (v := 0) hx hb dX0_findSets_67 (by decide) ?_
        obtain ⟨r_68, hc_68, hm⟩ := ob_s hm
        refine q_ci (q_rv (rest := []) ⟨hx, hb, hml, hown, hts⟩ hK hN hP hD (c_X3_cell l D cI cZ H.size AT_of_ro AT_of_ro_c 3 15 vT_of_ro_n fT_of_ro_c x2 0 r_68 hc_68) mb_X3_cell mv_X3_cell wl_X0_48 [4, 5] rfl rfl rfl (Nat.le_of_ble_eq_true rfl) (Nat.le_of_ble_eq_true rfl) rfl hl.1 rfl (Nat.le_of_ble_eq_true rfl) ⟨Nat.le_refl 0, Nat.le_refl 0⟩ dX0_findSets_68) hP hD hS hA [4, 5] rfl rfl (fun H locs hP hD hS => ?_)
        have hP : va_P D vwCl (wd_X0_findSets cI cZ AT AT_of AT_ft AT_bv AT_ta AT_of_sl AT_of_fl AT_of_ro AT_of_nt AT_of_mk AT_of_mo AT_of_fl_c AT_of_ro_c AT_of_sl_c vT_of_ng vT_of_fl_n fT_ft vT_of_ro_n fT_of_ro_c vT_of_sl_n fT_of_sl_c fT_of_fl_c fT_bv) H := hP
        have hD : va_D A (wd_X0_findSets cI cZ AT AT_of AT_ft AT_bv AT_ta AT_of_sl AT_of_fl AT_of_ro AT_of_nt AT_of_mk AT_of_mo AT_of_fl_c AT_of_ro_c AT_of_sl_c vT_of_ng vT_of_fl_n fT_ft vT_of_ro_n fT_of_ro_c vT_of_sl_n fT_of_sl_c fT_of_fl_c fT_bv) := hD
        refine lv_iload_n hx hb dX0_findSets_71 rfl (lv_at hl 2 rfl) ?_
        refine lv_icmp_ne (tgt := 104) hx hb dX0_findSets_72 (by decide) (fun c_72 => ?_) (fun c_72 => ?_)
        · have hm := it_n c_72 hm
          refine lv_iinc (v := (x2 + 1)) (lv' := [(2, .int (x2 + 1)), (0, .ref AT), (1, .int p1)]) hx hb dX0_findSets_104 hl (k := 0) rfl rfl (by decide) rfl (fun ls hl => ?_)
          refine lv_goto (tgt := 45) hx hb dX0_findSets_107 (by decide) ?_
          exact ih_45 (x2 + 1) fT_ft fT_bv H locs ls hm hP hD hS (lv_sub hl [0, 1, 2] rfl)
        · have hm := it_s c_72 hm
          refine lv_aload_n hx hb dX0_findSets_75 rfl (lv_at hl 1 rfl) ?_
          refine lv_iload_n hx hb dX0_findSets_76 rfl (lv_at hl 2 rfl) ?_
          refine lv_aload_n hx hb dX0_findSets_77 rfl (lv_at hl 1 rfl) ?_
          refine gf_X0_9 (v := .ref AT_of) hx hb hts hown hK hN hP 0 rfl rfl dX0_findSets_78 ?_
          refine gf_X0_45 (v := .ref AT_of_ro) hx hb hts hown hK hN hP 1 rfl rfl dX0_findSets_81 ?_
          refine lv_iload_n hx hb dX0_findSets_84 rfl (lv_at hl 0 rfl) ?_
          refine lv_iconst (v := 1) hx hb dX0_findSets_85 (by decide) ?_
          obtain ⟨r_86, hc_86, hm⟩ := ob_s hm
          refine q_ci (q_rv (rest := [.int p1, .ref AT]) ⟨hx, hb, hml, hown, hts⟩ hK hN hP hD (c_X3_cell l D cI cZ H.size AT_of_ro AT_of_ro_c 3 15 vT_of_ro_n fT_of_ro_c x2 1 r_86 hc_86) mb_X3_cell mv_X3_cell wl_X0_48 [4, 5] rfl rfl rfl (Nat.le_of_ble_eq_true rfl) (Nat.le_of_ble_eq_true rfl) rfl hl.1 rfl (Nat.le_of_ble_eq_true rfl) ⟨Nat.le_refl 0, Nat.le_refl 0⟩ dX0_findSets_86) hP hD hS hA [4, 5] rfl rfl (fun H locs hP hD hS => ?_)
          have hP : va_P D vwCl (wd_X0_findSets cI cZ AT AT_of AT_ft AT_bv AT_ta AT_of_sl AT_of_fl AT_of_ro AT_of_nt AT_of_mk AT_of_mo AT_of_fl_c AT_of_ro_c AT_of_sl_c vT_of_ng vT_of_fl_n fT_ft vT_of_ro_n fT_of_ro_c vT_of_sl_n fT_of_sl_c fT_of_fl_c fT_bv) H := hP
          have hD : va_D A (wd_X0_findSets cI cZ AT AT_of AT_ft AT_bv AT_ta AT_of_sl AT_of_fl AT_of_ro AT_of_nt AT_of_mk AT_of_mo AT_of_fl_c AT_of_ro_c AT_of_sl_c vT_of_ng vT_of_fl_n fT_ft vT_of_ro_n fT_of_ro_c vT_of_sl_n fT_of_sl_c fT_of_fl_c fT_bv) := hD
          refine lv_aload_n hx hb dX0_findSets_89 rfl (lv_at hl 1 rfl) ?_
          refine gf_X0_9 (v := .ref AT_of) hx hb hts hown hK hN hP 0 rfl rfl dX0_findSets_90 ?_
          refine gf_X0_45 (v := .ref AT_of_ro) hx hb hts hown hK hN hP 1 rfl rfl dX0_findSets_93 ?_
          refine lv_iload_n hx hb dX0_findSets_96 rfl (lv_at hl 0 rfl) ?_
          refine lv_iconst (v := 2) hx hb dX0_findSets_97 (by decide) ?_
          obtain ⟨r_98, hc_98, hm⟩ := ob_s hm
          refine q_ci (q_rv (rest := [.int r_86, .int p1, .ref AT]) ⟨hx, hb, hml, hown, hts⟩ hK hN hP hD (c_X3_cell l D cI cZ H.size AT_of_ro AT_of_ro_c 3 15 vT_of_ro_n fT_of_ro_c x2 2 r_98 hc_98) mb_X3_cell mv_X3_cell wl_X0_48 [4, 5] rfl rfl rfl (Nat.le_of_ble_eq_true rfl) (Nat.le_of_ble_eq_true rfl) rfl hl.1 rfl (Nat.le_of_ble_eq_true rfl) ⟨Nat.le_refl 0, Nat.le_refl 0⟩ dX0_findSets_98) hP hD hS hA [4, 5] rfl rfl (fun H locs hP hD hS => ?_)
          have hP : va_P D vwCl (wd_X0_findSets cI cZ AT AT_of AT_ft AT_bv AT_ta AT_of_sl AT_of_fl AT_of_ro AT_of_nt AT_of_mk AT_of_mo AT_of_fl_c AT_of_ro_c AT_of_sl_c vT_of_ng vT_of_fl_n fT_ft vT_of_ro_n fT_of_ro_c vT_of_sl_n fT_of_sl_c fT_of_fl_c fT_bv) H := hP
          have hD : va_D A (wd_X0_findSets cI cZ AT AT_of AT_ft AT_bv AT_ta AT_of_sl AT_of_fl AT_of_ro AT_of_nt AT_of_mk AT_of_mo AT_of_fl_c AT_of_ro_c AT_of_sl_c vT_of_ng vT_of_fl_n fT_ft vT_of_ro_n fT_of_ro_c vT_of_sl_n fT_of_sl_c fT_of_fl_c fT_bv) := hD
          obtain ⟨r_101, hc_101, hm⟩ := ob_s hm
          refine q_cv (q_rv (rest := []) ⟨hx, hb, hml, hown, hts⟩ hK hN hP hD (c_X0_dropUnlike l D cI cZ H.size AT AT_of AT_ft AT_bv AT_ta AT_of_sl AT_of_fl AT_of_ro AT_of_nt AT_of_mk AT_of_mo AT_of_fl_c AT_of_sl_c vT_of_ng vT_of_fl_n vT_of_sl_n fT_of_sl_c fT_of_fl_c fT_bv fT_ft p1 r_86 r_98 r_101 hc_101) mb_X0_dropUnlike mv_X0_dropUnlike wl_X0_52 [0, 1, 2, 6, 7, 8, 9, 3] rfl rfl rfl (Nat.le_of_ble_eq_true rfl) (Nat.le_of_ble_eq_true rfl) rfl hl.1 rfl (Nat.le_of_ble_eq_true rfl) ⟨Nat.le_refl 0, Nat.le_refl 0⟩ dX0_findSets_101) hP hD hS hA [0, 1, 2, 6, 7, 8, 9, 3] rfl rfl (fun H locs hP hD hS => ?_)
          have hP : va_P D vwCl (wd_X0_findSets cI cZ AT AT_of AT_ft AT_bv AT_ta AT_of_sl AT_of_fl AT_of_ro AT_of_nt AT_of_mk AT_of_mo AT_of_fl_c AT_of_ro_c AT_of_sl_c vT_of_ng vT_of_fl_n r_101.2 vT_of_ro_n fT_of_ro_c vT_of_sl_n fT_of_sl_c fT_of_fl_c r_101.1) H := hP
          have hD : va_D A (wd_X0_findSets cI cZ AT AT_of AT_ft AT_bv AT_ta AT_of_sl AT_of_fl AT_of_ro AT_of_nt AT_of_mk AT_of_mo AT_of_fl_c AT_of_ro_c AT_of_sl_c vT_of_ng vT_of_fl_n r_101.2 vT_of_ro_n fT_of_ro_c vT_of_sl_n fT_of_sl_c fT_of_fl_c r_101.1) := hD
          refine lv_iinc (v := (x2 + 1)) (lv' := [(2, .int (x2 + 1)), (0, .ref AT), (1, .int p1)]) hx hb dX0_findSets_104 hl (k := 0) rfl rfl (by decide) rfl (fun ls hl => ?_)
          refine lv_goto (tgt := 45) hx hb dX0_findSets_107 (by decide) ?_
          exact ih_45 (x2 + 1) r_101.2 r_101.1 H locs ls hm hP hD hS (lv_sub hl [0, 1, 2] rfl)
  have hL_2 : ∀ (fu_2 : Nat) (x2 : Int32) (fT_ft : Nat → Int32) (fT_bv : Nat → Int32) (H : Heap) (locs : List Loc) (ls : Array Slot), fL_X0_findSets_2 p1 vT_of_fl_n vT_of_ro_n fT_of_ro_c vT_of_sl_n fT_of_sl_c fT_of_fl_c fu_2 x2 fT_ft fT_bv = some out → va_P D vwCl (wd_X0_findSets cI cZ AT AT_of AT_ft AT_bv AT_ta AT_of_sl AT_of_fl AT_of_ro AT_of_nt AT_of_mk AT_of_mo AT_of_fl_c AT_of_ro_c AT_of_sl_c vT_of_ng vT_of_fl_n fT_ft vT_of_ro_n fT_of_ro_c vT_of_sl_n fT_of_sl_c fT_of_fl_c fT_bv) H → va_D A (wd_X0_findSets cI cZ AT AT_of AT_ft AT_bv AT_ta AT_of_sl AT_of_fl AT_of_ro AT_of_nt AT_of_mk AT_of_mo AT_of_fl_c AT_of_ro_c AT_of_sl_c vT_of_ng vT_of_fl_n fT_ft vT_of_ro_n fT_of_ro_c vT_of_sl_n fT_of_sl_c fT_of_fl_c fT_bv) → va_S A s.heap H locs → lv_has ls 3 [(2, .int x2), (0, .ref AT), (1, .int p1)] → W p l e { frames := 5, cells := 0, slots := 0, locals := 117 } s m ([.ref AT, .int p1] : List Value).toArray below meth c H locs 0 0 (MQ below (q_Qv D (wd_X0_findSets cI cZ AT AT_of AT_ft AT_bv AT_ta AT_of_sl AT_of_fl AT_of_ro AT_of_nt AT_of_mk AT_of_mo AT_of_fl_c AT_of_ro_c AT_of_sl_c vT_of_ng vT_of_fl_n out.1 vT_of_ro_n fT_of_ro_c vT_of_sl_n fT_of_sl_c fT_of_fl_c out.2) A) ([.ref AT, .int p1] : List Value).toArray s 0 0 A) (F0 m 2 ls []) := by
    intro fu_2
    induction fu_2 with
    | zero => intro x2 fT_ft fT_bv H locs ls hm hP hD hS hl; exact absurd (show (none : Option ((Nat → Int32) × (Nat → Int32))) = some out from hm) (fun h => nomatch h)
    | succ fu_2 ih_2 =>
      intro x2 fT_ft fT_bv H locs ls hm hP hD hS hl
      rw [fL_X0_findSets_2] at hm
      refine lv_iload_n hx hb dX0_findSets_2 rfl (lv_at hl 0 rfl) ?_
      refine lv_bipush (v := 64) hx hb dX0_findSets_3 (by decide) ?_
      refine lv_icmp_ge (tgt := 43) hx hb dX0_findSets_5 (by decide) (fun c_5 => ?_) (fun c_5 => ?_)
      · have hm := it_s c_5 hm
        refine lv_iconst (v := 0) hx hb dX0_findSets_43 (by decide) ?_
        refine lv_istore_n (lv' := [(2, .int 0), (0, .ref AT), (1, .int p1)]) hx hb dX0_findSets_44 rfl hl (by decide) rfl (fun ls hl => ?_)
        exact hL_45 FU 0 fT_ft fT_bv H locs ls hm hP hD hS (lv_sub hl [0, 1, 2] rfl)
      · have hm := it_n c_5 hm
        refine lv_aload_n hx hb dX0_findSets_8 rfl (lv_at hl 1 rfl) ?_
        refine gf_X0_15 (v := .ref AT_ft) hx hb hts hown hK hN hP 0 rfl rfl dX0_findSets_9 ?_
        refine lv_iload_n hx hb dX0_findSets_12 rfl (lv_at hl 0 rfl) ?_
        refine lv_iload_n hx hb dX0_findSets_13 rfl (lv_at hl 0 rfl) ?_
        refine lv_iconst (v := 1) hx hb dX0_findSets_14 (by decide) ?_
        refine lv_aload_n hx hb dX0_findSets_15 rfl (lv_at hl 1 rfl) ?_
        refine gf_X0_9 (v := .ref AT_of) hx hb hts hown hK hN hP 0 rfl rfl dX0_findSets_16 ?_
        refine gf_X0_29 (v := .ref AT_of_fl) hx hb hts hown hK hN hP 1 rfl rfl dX0_findSets_19 ?_
        obtain ⟨r_22, hc_22, hm⟩ := ob_s hm
        refine q_ci (q_rv (rest := [.int 1, .int x2, .int x2, .ref AT_ft]) ⟨hx, hb, hml, hown, hts⟩ hK hN hP hD (c_X3_size l D cI cZ H.size AT_of_fl AT_of_fl_c 3 vT_of_fl_n r_22 hc_22) mb_X3_size mv_X3_size wl_X0_35 [2] rfl rfl rfl (Nat.le_of_ble_eq_true rfl) (Nat.le_of_ble_eq_true rfl) rfl hl.1 rfl (Nat.le_of_ble_eq_true rfl) ⟨Nat.le_refl 0, Nat.le_refl 0⟩ dX0_findSets_22) hP hD hS hA [2] rfl rfl (fun H locs hP hD hS => ?_)
        have hP : va_P D vwCl (wd_X0_findSets cI cZ AT AT_of AT_ft AT_bv AT_ta AT_of_sl AT_of_fl AT_of_ro AT_of_nt AT_of_mk AT_of_mo AT_of_fl_c AT_of_ro_c AT_of_sl_c vT_of_ng vT_of_fl_n fT_ft vT_of_ro_n fT_of_ro_c vT_of_sl_n fT_of_sl_c fT_of_fl_c fT_bv) H := hP
        have hD : va_D A (wd_X0_findSets cI cZ AT AT_of AT_ft AT_bv AT_ta AT_of_sl AT_of_fl AT_of_ro AT_of_nt AT_of_mk AT_of_mo AT_of_fl_c AT_of_ro_c AT_of_sl_c vT_of_ng vT_of_fl_n fT_ft vT_of_ro_n fT_of_ro_c vT_of_sl_n fT_of_sl_c fT_of_fl_c fT_bv) := hD
        refine lv_ishl hx hb dX0_findSets_25 ?_
        refine lv_icmp_ge (tgt := 33) hx hb dX0_findSets_26 (by decide) (fun c_26 => ?_) (fun c_26 => ?_)
        · have hm := it_s c_26 hm
          refine lv_iconst (v := 0) hx hb dX0_findSets_33 (by decide) ?_
          obtain ⟨r_34, hc_34, hm⟩ := ob_s hm
          refine q_cv (q_rn (rest := []) ⟨hx, hb, hml, hown, hts⟩ hK hN hP hD (c_X7_put l D cI cZ H.size AT_ft 64 fT_ft x2 0 r_34 hc_34) mb_X7_put wt_X7_put (nl_X0_41 hN) [3] rfl rfl (Nat.le_of_ble_eq_true rfl) (Nat.le_of_ble_eq_true rfl) rfl hl.1 rfl (Nat.le_of_ble_eq_true rfl) ⟨Nat.le_refl 0, Nat.le_refl 0⟩ dX0_findSets_34) hP hD hS hA [3] rfl rfl (fun H locs hP hD hS => ?_)
          have hP : va_P D vwCl (wd_X0_findSets cI cZ AT AT_of AT_ft AT_bv AT_ta AT_of_sl AT_of_fl AT_of_ro AT_of_nt AT_of_mk AT_of_mo AT_of_fl_c AT_of_ro_c AT_of_sl_c vT_of_ng vT_of_fl_n r_34 vT_of_ro_n fT_of_ro_c vT_of_sl_n fT_of_sl_c fT_of_fl_c fT_bv) H := hP
          have hD : va_D A (wd_X0_findSets cI cZ AT AT_of AT_ft AT_bv AT_ta AT_of_sl AT_of_fl AT_of_ro AT_of_nt AT_of_mk AT_of_mo AT_of_fl_c AT_of_ro_c AT_of_sl_c vT_of_ng vT_of_fl_n r_34 vT_of_ro_n fT_of_ro_c vT_of_sl_n fT_of_sl_c fT_of_fl_c fT_bv) := hD
          refine lv_iinc (v := (x2 + 1)) (lv' := [(2, .int (x2 + 1)), (0, .ref AT), (1, .int p1)]) hx hb dX0_findSets_37 hl (k := 0) rfl rfl (by decide) rfl (fun ls hl => ?_)
          refine lv_goto (tgt := 2) hx hb dX0_findSets_40 (by decide) ?_
          exact ih_2 (x2 + 1) r_34 fT_bv H locs ls hm hP hD hS (lv_sub hl [0, 1, 2] rfl)
        · have hm := it_n c_26 hm
          refine lv_iconst (v := 1) hx hb dX0_findSets_29 (by decide) ?_
          refine lv_goto (tgt := 34) hx hb dX0_findSets_30 (by decide) ?_
          obtain ⟨r_34, hc_34, hm⟩ := ob_s hm
          refine q_cv (q_rn (rest := []) ⟨hx, hb, hml, hown, hts⟩ hK hN hP hD (c_X7_put l D cI cZ H.size AT_ft 64 fT_ft x2 1 r_34 hc_34) mb_X7_put wt_X7_put (nl_X0_41 hN) [3] rfl rfl (Nat.le_of_ble_eq_true rfl) (Nat.le_of_ble_eq_true rfl) rfl hl.1 rfl (Nat.le_of_ble_eq_true rfl) ⟨Nat.le_refl 0, Nat.le_refl 0⟩ dX0_findSets_34) hP hD hS hA [3] rfl rfl (fun H locs hP hD hS => ?_)
          have hP : va_P D vwCl (wd_X0_findSets cI cZ AT AT_of AT_ft AT_bv AT_ta AT_of_sl AT_of_fl AT_of_ro AT_of_nt AT_of_mk AT_of_mo AT_of_fl_c AT_of_ro_c AT_of_sl_c vT_of_ng vT_of_fl_n r_34 vT_of_ro_n fT_of_ro_c vT_of_sl_n fT_of_sl_c fT_of_fl_c fT_bv) H := hP
          have hD : va_D A (wd_X0_findSets cI cZ AT AT_of AT_ft AT_bv AT_ta AT_of_sl AT_of_fl AT_of_ro AT_of_nt AT_of_mk AT_of_mo AT_of_fl_c AT_of_ro_c AT_of_sl_c vT_of_ng vT_of_fl_n r_34 vT_of_ro_n fT_of_ro_c vT_of_sl_n fT_of_sl_c fT_of_fl_c fT_bv) := hD
          refine lv_iinc (v := (x2 + 1)) (lv' := [(2, .int (x2 + 1)), (0, .ref AT), (1, .int p1)]) hx hb dX0_findSets_37 hl (k := 0) rfl rfl (by decide) rfl (fun ls hl => ?_)
          refine lv_goto (tgt := 2) hx hb dX0_findSets_40 (by decide) ?_
          exact ih_2 (x2 + 1) r_34 fT_bv H locs ls hm hP hD hS (lv_sub hl [0, 1, 2] rfl)
  unfold fm_X0_findSets at hm
  refine q_gen hS hP ?_
  intro H locs hP hS
  refine lv_iconst (v := 0) hx hb dX0_findSets_0 (by decide) ?_
  refine lv_istore_n (lv' := [(2, .int 0), (0, .ref AT), (1, .int p1)]) hx hb dX0_findSets_1 rfl hl (by decide) rfl (fun ls hl => ?_)
  exact hL_2 FU 0 fT_ft fT_bv H locs ls hm hP hD hS (lv_sub hl [0, 1, 2] rfl)
theorem mb_X0_fitting : q_mb yX0_fitting cX0_fitting 2 (some .boolean) 1 := ⟨wc_X0_fitting, wn_X0, by decide, by decide, by decide +kernel⟩
theorem mv_X0_fitting : q_mv yX0_fitting 0 := ⟨wi_X0_fitting, ws_X0_fitting, _, rfl, rfl⟩
def wd_X0_fitting (cI cZ : ClassId) (AT AT_of AT_ft AT_bv AT_ta : Nat) (fT_ft : Nat → Int32) : va_W := [(AT, .inr (0, [.ref AT_of, .ref AT_ft, .ref AT_bv, .ref AT_ta])), (AT_ft, .inl (cI, 64, .inl fT_ft))]
def fm_X0_fitting (p1 : Int32) (fT_ft : Nat → Int32) : Option (Int32) := Option.bind (fm_X7_at 64 p1 fT_ft) (fun r_5 => if r_5 = 1 then (some (1)) else (some (0)))
set_option maxHeartbeats 4000000 in
set_option maxRecDepth 100000 in
theorem c_X0_fitting (l : Launch) (D : va_G) (cI cZ : ClassId) (sz : Nat) (AT AT_of AT_ft AT_bv AT_ta : Nat) (fT_ft : Nat → Int32) (p1 : Int32) (out : (Int32)) (hm : fm_X0_fitting p1 fT_ft = some out) : Met l yX0_fitting (Cond.code yX0_fitting cX0_fitting 2 (some .boolean) :: bg) { frames := 1, cells := 0, slots := 0, locals := 21 } (va_Pc [.ref AT, .int p1] (q_pre D cI cZ sz (wd_X0_fitting cI cZ AT AT_of AT_ft AT_bv AT_ta fT_ft))) (q_Qi D (wd_X0_fitting cI cZ AT AT_of AT_ft AT_bv AT_ta fT_ft) out (va_A (wd_X0_fitting cI cZ AT AT_of AT_ft AT_bv AT_ta fT_ft) sz)) 0 0 (va_A (wd_X0_fitting cI cZ AT AT_of AT_ft AT_bv AT_ta fT_ft) sz) := by
  refine q_met (fun A => q_Qi D (wd_X0_fitting cI cZ AT AT_of AT_ft AT_bv AT_ta fT_ft) out A) (by decide) (Nat.le_of_ble_eq_true rfl) ?_
  intro p e s m below meth c ls A hx hb hr hml hown hts hlocks _ hA hS hP hD hK hN hl
  have hown : s.vm.findClass RX0 = some m.cls := hown
  have hl : lv_has ls 2 [(0, .ref AT), (1, .int p1)] := hl
  unfold fm_X0_fitting at hm
  refine q_gen hS hP ?_
  intro H locs hP hS
  refine lv_aload_n hx hb dX0_fitting_0 rfl (lv_at hl 0 rfl) ?_
  refine gf_X0_15 (v := .ref AT_ft) hx hb hts hown hK hN hP 0 rfl rfl dX0_fitting_1 ?_
  refine lv_iload_n hx hb dX0_fitting_4 rfl (lv_at hl 1 rfl) ?_
  obtain ⟨r_5, hc_5, hm⟩ := ob_s hm
  refine q_ci (q_rn (rest := []) ⟨hx, hb, hml, hown, hts⟩ hK hN hP hD (c_X7_at l D cI cZ H.size AT_ft 64 fT_ft p1 r_5 hc_5) mb_X7_at wt_X7_at (nl_X0_72 hN) [1] rfl rfl (Nat.le_of_ble_eq_true rfl) (Nat.le_of_ble_eq_true rfl) rfl hl.1 rfl (Nat.le_of_ble_eq_true rfl) ⟨Nat.le_refl 0, Nat.le_refl 0⟩ dX0_fitting_5) hP hD hS hA [1] rfl rfl (fun H locs hP hD hS => ?_)
  have hP : va_P D vwCl (wd_X0_fitting cI cZ AT AT_of AT_ft AT_bv AT_ta fT_ft) H := hP
  have hD : va_D A (wd_X0_fitting cI cZ AT AT_of AT_ft AT_bv AT_ta fT_ft) := hD
  refine lv_iconst (v := 1) hx hb dX0_fitting_8 (by decide) ?_
  refine lv_icmp_ne (tgt := 16) hx hb dX0_fitting_9 (by decide) (fun c_9 => ?_) (fun c_9 => ?_)
  · have hm := it_n c_9 hm
    refine lv_iconst (v := 0) hx hb dX0_fitting_16 (by decide) ?_
    have hm := Option.some.inj hm
    subst hm
    exact q_zret (v := 0) hx hb hr hlocks rfl hP hS dX0_fitting_17
  · have hm := it_s c_9 hm
    refine lv_iconst (v := 1) hx hb dX0_fitting_12 (by decide) ?_
    refine lv_goto (tgt := 17) hx hb dX0_fitting_13 (by decide) ?_
    have hm := Option.some.inj hm
    subst hm
    exact q_zret (v := 1) hx hb hr hlocks rfl hP hS dX0_fitting_17
theorem mb_X0_howManySets : q_mb yX0_howManySets cX0_howManySets 3 (some .int) 0 := ⟨wc_X0_howManySets, wn_X0, by decide, by decide, by decide +kernel⟩
theorem mv_X0_howManySets : q_mv yX0_howManySets 0 := ⟨wi_X0_howManySets, ws_X0_howManySets, _, rfl, rfl⟩
def wd_X0_howManySets (cI cZ : ClassId) (AT AT_of AT_ft AT_bv AT_ta : Nat) (fT_ft : Nat → Int32) : va_W := [(AT, .inr (0, [.ref AT_of, .ref AT_ft, .ref AT_bv, .ref AT_ta])), (AT_ft, .inl (cI, 64, .inl fT_ft))]
def fL_X0_howManySets_4 (fT_ft : Nat → Int32) : Nat → Int32 → Int32 → Option (Int32)
  | 0, _, _ => none
  | fu + 1, x2, x1 => if 64 ≤ x2 then (some (x1)) else (Option.bind (fm_X7_at 64 x2 fT_ft) (fun r_16 => fL_X0_howManySets_4 fT_ft fu (x2 + 1) (x1 + r_16)))
def fm_X0_howManySets (fT_ft : Nat → Int32) : Option (Int32) := fL_X0_howManySets_4 fT_ft FU 0 0
set_option maxHeartbeats 4000000 in
set_option maxRecDepth 100000 in
theorem c_X0_howManySets (l : Launch) (D : va_G) (cI cZ : ClassId) (sz : Nat) (AT AT_of AT_ft AT_bv AT_ta : Nat) (fT_ft : Nat → Int32) (out : (Int32)) (hm : fm_X0_howManySets fT_ft = some out) : Met l yX0_howManySets (Cond.code yX0_howManySets cX0_howManySets 3 (some .int) :: bg) { frames := 1, cells := 0, slots := 0, locals := 21 } (va_Pc [.ref AT] (q_pre D cI cZ sz (wd_X0_howManySets cI cZ AT AT_of AT_ft AT_bv AT_ta fT_ft))) (q_Qi D (wd_X0_howManySets cI cZ AT AT_of AT_ft AT_bv AT_ta fT_ft) out (va_A (wd_X0_howManySets cI cZ AT AT_of AT_ft AT_bv AT_ta fT_ft) sz)) 0 0 (va_A (wd_X0_howManySets cI cZ AT AT_of AT_ft AT_bv AT_ta fT_ft) sz) := by
  refine q_met (fun A => q_Qi D (wd_X0_howManySets cI cZ AT AT_of AT_ft AT_bv AT_ta fT_ft) out A) (by decide) (Nat.le_of_ble_eq_true rfl) ?_
  intro p e s m below meth c ls A hx hb hr hml hown hts hlocks _ hA hS hP hD hK hN hl
  have hown : s.vm.findClass RX0 = some m.cls := hown
  have hl : lv_has ls 3 [(0, .ref AT)] := hl
  have hL_4 : ∀ (fu_4 : Nat) (x2 : Int32) (x1 : Int32) (H : Heap) (locs : List Loc) (ls : Array Slot), fL_X0_howManySets_4 fT_ft fu_4 x2 x1 = some out → va_P D vwCl (wd_X0_howManySets cI cZ AT AT_of AT_ft AT_bv AT_ta fT_ft) H → va_D A (wd_X0_howManySets cI cZ AT AT_of AT_ft AT_bv AT_ta fT_ft) → va_S A s.heap H locs → lv_has ls 3 [(2, .int x2), (1, .int x1), (0, .ref AT)] → W p l e { frames := 1, cells := 0, slots := 0, locals := 21 } s m ([.ref AT] : List Value).toArray below meth c H locs 0 0 (MQ below (q_Qi D (wd_X0_howManySets cI cZ AT AT_of AT_ft AT_bv AT_ta fT_ft) out A) ([.ref AT] : List Value).toArray s 0 0 A) (F0 m 4 ls []) := by
    intro fu_4
    induction fu_4 with
    | zero => intro x2 x1 H locs ls hm hP hD hS hl; exact absurd (show (none : Option (Int32)) = some out from hm) (fun h => nomatch h)
    | succ fu_4 ih_4 =>
      intro x2 x1 H locs ls hm hP hD hS hl
      rw [fL_X0_howManySets_4] at hm
      refine lv_iload_n hx hb dX0_howManySets_4 rfl (lv_at hl 0 rfl) ?_
      refine lv_bipush (v := 64) hx hb dX0_howManySets_5 (by decide) ?_
      refine lv_icmp_ge (tgt := 27) hx hb dX0_howManySets_7 (by decide) (fun c_7 => ?_) (fun c_7 => ?_)
      · have hm := it_s c_7 hm
        refine lv_iload_n hx hb dX0_howManySets_27 rfl (lv_at hl 1 rfl) ?_
        have hm := Option.some.inj hm
        subst hm
        exact q_iret (v := x1) hx hb hr hlocks hP hS dX0_howManySets_28
      · have hm := it_n c_7 hm
        refine lv_iload_n hx hb dX0_howManySets_10 rfl (lv_at hl 1 rfl) ?_
        refine lv_aload_n hx hb dX0_howManySets_11 rfl (lv_at hl 2 rfl) ?_
        refine gf_X0_15 (v := .ref AT_ft) hx hb hts hown hK hN hP 0 rfl rfl dX0_howManySets_12 ?_
        refine lv_iload_n hx hb dX0_howManySets_15 rfl (lv_at hl 0 rfl) ?_
        obtain ⟨r_16, hc_16, hm⟩ := ob_s hm
        refine q_ci (q_rn (rest := [.int x1]) ⟨hx, hb, hml, hown, hts⟩ hK hN hP hD (c_X7_at l D cI cZ H.size AT_ft 64 fT_ft x2 r_16 hc_16) mb_X7_at wt_X7_at (nl_X0_72 hN) [1] rfl rfl (Nat.le_of_ble_eq_true rfl) (Nat.le_of_ble_eq_true rfl) rfl hl.1 rfl (Nat.le_of_ble_eq_true rfl) ⟨Nat.le_refl 0, Nat.le_refl 0⟩ dX0_howManySets_16) hP hD hS hA [1] rfl rfl (fun H locs hP hD hS => ?_)
        have hP : va_P D vwCl (wd_X0_howManySets cI cZ AT AT_of AT_ft AT_bv AT_ta fT_ft) H := hP
        have hD : va_D A (wd_X0_howManySets cI cZ AT AT_of AT_ft AT_bv AT_ta fT_ft) := hD
        refine lv_iadd hx hb dX0_howManySets_19 ?_
        refine lv_istore_n (lv' := [(1, .int (x1 + r_16)), (2, .int x2), (0, .ref AT)]) hx hb dX0_howManySets_20 rfl hl (by decide) rfl (fun ls hl => ?_)
        refine lv_iinc (v := (x2 + 1)) (lv' := [(2, .int (x2 + 1)), (1, .int (x1 + r_16)), (0, .ref AT)]) hx hb dX0_howManySets_21 hl (k := 1) rfl rfl (by decide) rfl (fun ls hl => ?_)
        refine lv_goto (tgt := 4) hx hb dX0_howManySets_24 (by decide) ?_
        exact ih_4 (x2 + 1) (x1 + r_16) H locs ls hm hP hD hS (lv_sub hl [0, 1, 2] rfl)
  unfold fm_X0_howManySets at hm
  refine q_gen hS hP ?_
  intro H locs hP hS
  refine lv_iconst (v := 0) hx hb dX0_howManySets_0 (by decide) ?_
  refine lv_istore_n (lv' := [(1, .int 0), (0, .ref AT)]) hx hb dX0_howManySets_1 rfl hl (by decide) rfl (fun ls hl => ?_)
  refine lv_iconst (v := 0) hx hb dX0_howManySets_2 (by decide) ?_
  refine lv_istore_n (lv' := [(2, .int 0), (1, .int 0), (0, .ref AT)]) hx hb dX0_howManySets_3 rfl hl (by decide) rfl (fun ls hl => ?_)
  exact hL_4 FU 0 0 H locs ls hm hP hD hS (lv_sub hl [0, 1, 2] rfl)
theorem mb_X0_inAllSets : q_mb yX0_inAllSets cX0_inAllSets 3 (some .int) 0 := ⟨wc_X0_inAllSets, wn_X0, by decide, by decide, by decide +kernel⟩
theorem mv_X0_inAllSets : q_mv yX0_inAllSets 0 := ⟨wi_X0_inAllSets, ws_X0_inAllSets, _, rfl, rfl⟩
def wd_X0_inAllSets (cI cZ : ClassId) (AT AT_of AT_ft AT_bv AT_ta : Nat) (fT_ft : Nat → Int32) : va_W := [(AT, .inr (0, [.ref AT_of, .ref AT_ft, .ref AT_bv, .ref AT_ta])), (AT_ft, .inl (cI, 64, .inl fT_ft))]
def fL_X0_inAllSets_14 (fT_ft : Nat → Int32) : Nat → Int32 → Int32 → Option (Int32)
  | 0, _, _ => none
  | fu + 1, x2, x1 => if 64 ≤ x2 then (some (x1)) else (Option.bind (fm_X0_fitting x2 fT_ft) (fun r_22 => if r_22 = 0 then (fL_X0_inAllSets_14 fT_ft fu (x2 + 1) x1) else (fL_X0_inAllSets_14 fT_ft fu (x2 + 1) (x1 &&& x2))))
def fm_X0_inAllSets (fT_ft : Nat → Int32) : Option (Int32) := Option.bind (fm_X0_howManySets fT_ft) (fun r_1 => if r_1 = 0 then (some ((-1))) else (fL_X0_inAllSets_14 fT_ft FU 0 63))
set_option maxHeartbeats 4000000 in
set_option maxRecDepth 100000 in
theorem c_X0_inAllSets (l : Launch) (D : va_G) (cI cZ : ClassId) (sz : Nat) (AT AT_of AT_ft AT_bv AT_ta : Nat) (fT_ft : Nat → Int32) (out : (Int32)) (hm : fm_X0_inAllSets fT_ft = some out) : Met l yX0_inAllSets (Cond.code yX0_inAllSets cX0_inAllSets 3 (some .int) :: bg) { frames := 2, cells := 0, slots := 0, locals := 43 } (va_Pc [.ref AT] (q_pre D cI cZ sz (wd_X0_inAllSets cI cZ AT AT_of AT_ft AT_bv AT_ta fT_ft))) (q_Qi D (wd_X0_inAllSets cI cZ AT AT_of AT_ft AT_bv AT_ta fT_ft) out (va_A (wd_X0_inAllSets cI cZ AT AT_of AT_ft AT_bv AT_ta fT_ft) sz)) 0 0 (va_A (wd_X0_inAllSets cI cZ AT AT_of AT_ft AT_bv AT_ta fT_ft) sz) := by
  refine q_met (fun A => q_Qi D (wd_X0_inAllSets cI cZ AT AT_of AT_ft AT_bv AT_ta fT_ft) out A) (by decide) (Nat.le_of_ble_eq_true rfl) ?_
  intro p e s m below meth c ls A hx hb hr hml hown hts hlocks _ hA hS hP hD hK hN hl
  have hown : s.vm.findClass RX0 = some m.cls := hown
  have hl : lv_has ls 3 [(0, .ref AT)] := hl
  have hL_14 : ∀ (fu_14 : Nat) (x2 : Int32) (x1 : Int32) (H : Heap) (locs : List Loc) (ls : Array Slot), fL_X0_inAllSets_14 fT_ft fu_14 x2 x1 = some out → va_P D vwCl (wd_X0_inAllSets cI cZ AT AT_of AT_ft AT_bv AT_ta fT_ft) H → va_D A (wd_X0_inAllSets cI cZ AT AT_of AT_ft AT_bv AT_ta fT_ft) → va_S A s.heap H locs → lv_has ls 3 [(2, .int x2), (1, .int x1), (0, .ref AT)] → W p l e { frames := 2, cells := 0, slots := 0, locals := 43 } s m ([.ref AT] : List Value).toArray below meth c H locs 0 0 (MQ below (q_Qi D (wd_X0_inAllSets cI cZ AT AT_of AT_ft AT_bv AT_ta fT_ft) out A) ([.ref AT] : List Value).toArray s 0 0 A) (F0 m 14 ls []) := by
    intro fu_14
    induction fu_14 with
    | zero => intro x2 x1 H locs ls hm hP hD hS hl; exact absurd (show (none : Option (Int32)) = some out from hm) (fun h => nomatch h)
    | succ fu_14 ih_14 =>
      intro x2 x1 H locs ls hm hP hD hS hl
      rw [fL_X0_inAllSets_14] at hm
      refine lv_iload_n hx hb dX0_inAllSets_14 rfl (lv_at hl 0 rfl) ?_
      refine lv_bipush (v := 64) hx hb dX0_inAllSets_15 (by decide) ?_
      refine lv_icmp_ge (tgt := 38) hx hb dX0_inAllSets_17 (by decide) (fun c_17 => ?_) (fun c_17 => ?_)
      · have hm := it_s c_17 hm
        refine lv_iload_n hx hb dX0_inAllSets_38 rfl (lv_at hl 1 rfl) ?_
        have hm := Option.some.inj hm
        subst hm
        exact q_iret (v := x1) hx hb hr hlocks hP hS dX0_inAllSets_39
      · have hm := it_n c_17 hm
        refine lv_aload_n hx hb dX0_inAllSets_20 rfl (lv_at hl 2 rfl) ?_
        refine lv_iload_n hx hb dX0_inAllSets_21 rfl (lv_at hl 0 rfl) ?_
        obtain ⟨r_22, hc_22, hm⟩ := ob_s hm
        refine q_ci (q_rv (rest := []) ⟨hx, hb, hml, hown, hts⟩ hK hN hP hD (c_X0_fitting l D cI cZ H.size AT AT_of AT_ft AT_bv AT_ta fT_ft x2 r_22 hc_22) mb_X0_fitting mv_X0_fitting wl_X0_79 [0, 1] rfl rfl rfl (Nat.le_of_ble_eq_true rfl) (Nat.le_of_ble_eq_true rfl) rfl hl.1 rfl (Nat.le_of_ble_eq_true rfl) ⟨Nat.le_refl 0, Nat.le_refl 0⟩ dX0_inAllSets_22) hP hD hS hA [0, 1] rfl rfl (fun H locs hP hD hS => ?_)
        have hP : va_P D vwCl (wd_X0_inAllSets cI cZ AT AT_of AT_ft AT_bv AT_ta fT_ft) H := hP
        have hD : va_D A (wd_X0_inAllSets cI cZ AT AT_of AT_ft AT_bv AT_ta fT_ft) := hD
        refine lv_if_eq (tgt := 32) hx hb dX0_inAllSets_25 (by decide) (fun c_25 => ?_) (fun c_25 => ?_)
        · have hm := it_s c_25 hm
          refine lv_iinc (v := (x2 + 1)) (lv' := [(2, .int (x2 + 1)), (1, .int x1), (0, .ref AT)]) hx hb dX0_inAllSets_32 hl (k := 0) rfl rfl (by decide) rfl (fun ls hl => ?_)
          refine lv_goto (tgt := 14) hx hb dX0_inAllSets_35 (by decide) ?_
          exact ih_14 (x2 + 1) x1 H locs ls hm hP hD hS (lv_sub hl [0, 1, 2] rfl)
        · have hm := it_n c_25 hm
          refine lv_iload_n hx hb dX0_inAllSets_28 rfl (lv_at hl 1 rfl) ?_
          refine lv_iload_n hx hb dX0_inAllSets_29 rfl (lv_at hl 0 rfl) ?_
          refine lv_iand hx hb dX0_inAllSets_30 ?_
          refine lv_istore_n (lv' := [(1, .int (x1 &&& x2)), (2, .int x2), (0, .ref AT)]) hx hb dX0_inAllSets_31 rfl hl (by decide) rfl (fun ls hl => ?_)
          refine lv_iinc (v := (x2 + 1)) (lv' := [(2, .int (x2 + 1)), (1, .int (x1 &&& x2)), (0, .ref AT)]) hx hb dX0_inAllSets_32 hl (k := 1) rfl rfl (by decide) rfl (fun ls hl => ?_)
          refine lv_goto (tgt := 14) hx hb dX0_inAllSets_35 (by decide) ?_
          exact ih_14 (x2 + 1) (x1 &&& x2) H locs ls hm hP hD hS (lv_sub hl [0, 1, 2] rfl)
  unfold fm_X0_inAllSets at hm
  refine q_gen hS hP ?_
  intro H locs hP hS
  refine lv_aload_n hx hb dX0_inAllSets_0 rfl (lv_at hl 0 rfl) ?_
  obtain ⟨r_1, hc_1, hm⟩ := ob_s hm
  refine q_ci (q_rv (rest := []) ⟨hx, hb, hml, hown, hts⟩ hK hN hP hD (c_X0_howManySets l D cI cZ H.size AT AT_of AT_ft AT_bv AT_ta fT_ft r_1 hc_1) mb_X0_howManySets mv_X0_howManySets wl_X0_76 [0, 1] rfl rfl rfl (Nat.le_of_ble_eq_true rfl) (Nat.le_of_ble_eq_true rfl) rfl hl.1 rfl (Nat.le_of_ble_eq_true rfl) ⟨Nat.le_refl 0, Nat.le_refl 0⟩ dX0_inAllSets_1) hP hD hS hA [0, 1] rfl rfl (fun H locs hP hD hS => ?_)
  have hP : va_P D vwCl (wd_X0_inAllSets cI cZ AT AT_of AT_ft AT_bv AT_ta fT_ft) H := hP
  have hD : va_D A (wd_X0_inAllSets cI cZ AT AT_of AT_ft AT_bv AT_ta fT_ft) := hD
  refine lv_if_ne (tgt := 9) hx hb dX0_inAllSets_4 (by decide) (fun c_4 => ?_) (fun c_4 => ?_)
  · have hm := it_n c_4 hm
    refine lv_bipush (v := 63) hx hb dX0_inAllSets_9 (by decide) ?_
    refine lv_istore_n (lv' := [(1, .int 63), (0, .ref AT)]) hx hb dX0_inAllSets_11 rfl hl (by decide) rfl (fun ls hl => ?_)
    refine lv_iconst (v := 0) hx hb dX0_inAllSets_12 (by decide) ?_
    refine lv_istore_n (lv' := [(2, .int 0), (1, .int 63), (0, .ref AT)]) hx hb dX0_inAllSets_13 rfl hl (by decide) rfl (fun ls hl => ?_)
    exact hL_14 FU 0 63 H locs ls hm hP hD hS (lv_sub hl [0, 1, 2] rfl)
  · have hm := it_s c_4 hm
    refine lv_iconst (v := (-1)) hx hb dX0_inAllSets_7 (by decide) ?_
    have hm := Option.some.inj hm
    subst hm
    exact q_iret (v := (-1)) hx hb hr hlocks hP hS dX0_inAllSets_8
theorem mb_X0_inSomeSet : q_mb yX0_inSomeSet cX0_inSomeSet 3 (some .int) 0 := ⟨wc_X0_inSomeSet, wn_X0, by decide, by decide, by decide +kernel⟩
theorem mv_X0_inSomeSet : q_mv yX0_inSomeSet 0 := ⟨wi_X0_inSomeSet, ws_X0_inSomeSet, _, rfl, rfl⟩
def wd_X0_inSomeSet (cI cZ : ClassId) (AT AT_of AT_ft AT_bv AT_ta : Nat) (fT_ft : Nat → Int32) : va_W := [(AT, .inr (0, [.ref AT_of, .ref AT_ft, .ref AT_bv, .ref AT_ta])), (AT_ft, .inl (cI, 64, .inl fT_ft))]
def fL_X0_inSomeSet_4 (fT_ft : Nat → Int32) : Nat → Int32 → Int32 → Option (Int32)
  | 0, _, _ => none
  | fu + 1, x2, x1 => if 64 ≤ x2 then (some (x1)) else (Option.bind (fm_X0_fitting x2 fT_ft) (fun r_12 => if r_12 = 0 then (fL_X0_inSomeSet_4 fT_ft fu (x2 + 1) x1) else (fL_X0_inSomeSet_4 fT_ft fu (x2 + 1) (x1 ||| x2))))
def fm_X0_inSomeSet (fT_ft : Nat → Int32) : Option (Int32) := fL_X0_inSomeSet_4 fT_ft FU 0 0
set_option maxHeartbeats 4000000 in
set_option maxRecDepth 100000 in
theorem c_X0_inSomeSet (l : Launch) (D : va_G) (cI cZ : ClassId) (sz : Nat) (AT AT_of AT_ft AT_bv AT_ta : Nat) (fT_ft : Nat → Int32) (out : (Int32)) (hm : fm_X0_inSomeSet fT_ft = some out) : Met l yX0_inSomeSet (Cond.code yX0_inSomeSet cX0_inSomeSet 3 (some .int) :: bg) { frames := 2, cells := 0, slots := 0, locals := 42 } (va_Pc [.ref AT] (q_pre D cI cZ sz (wd_X0_inSomeSet cI cZ AT AT_of AT_ft AT_bv AT_ta fT_ft))) (q_Qi D (wd_X0_inSomeSet cI cZ AT AT_of AT_ft AT_bv AT_ta fT_ft) out (va_A (wd_X0_inSomeSet cI cZ AT AT_of AT_ft AT_bv AT_ta fT_ft) sz)) 0 0 (va_A (wd_X0_inSomeSet cI cZ AT AT_of AT_ft AT_bv AT_ta fT_ft) sz) := by
  refine q_met (fun A => q_Qi D (wd_X0_inSomeSet cI cZ AT AT_of AT_ft AT_bv AT_ta fT_ft) out A) (by decide) (Nat.le_of_ble_eq_true rfl) ?_
  intro p e s m below meth c ls A hx hb hr hml hown hts hlocks _ hA hS hP hD hK hN hl
  have hown : s.vm.findClass RX0 = some m.cls := hown
  have hl : lv_has ls 3 [(0, .ref AT)] := hl
  have hL_4 : ∀ (fu_4 : Nat) (x2 : Int32) (x1 : Int32) (H : Heap) (locs : List Loc) (ls : Array Slot), fL_X0_inSomeSet_4 fT_ft fu_4 x2 x1 = some out → va_P D vwCl (wd_X0_inSomeSet cI cZ AT AT_of AT_ft AT_bv AT_ta fT_ft) H → va_D A (wd_X0_inSomeSet cI cZ AT AT_of AT_ft AT_bv AT_ta fT_ft) → va_S A s.heap H locs → lv_has ls 3 [(2, .int x2), (1, .int x1), (0, .ref AT)] → W p l e { frames := 2, cells := 0, slots := 0, locals := 42 } s m ([.ref AT] : List Value).toArray below meth c H locs 0 0 (MQ below (q_Qi D (wd_X0_inSomeSet cI cZ AT AT_of AT_ft AT_bv AT_ta fT_ft) out A) ([.ref AT] : List Value).toArray s 0 0 A) (F0 m 4 ls []) := by
    intro fu_4
    induction fu_4 with
    | zero => intro x2 x1 H locs ls hm hP hD hS hl; exact absurd (show (none : Option (Int32)) = some out from hm) (fun h => nomatch h)
    | succ fu_4 ih_4 =>
      intro x2 x1 H locs ls hm hP hD hS hl
      rw [fL_X0_inSomeSet_4] at hm
      refine lv_iload_n hx hb dX0_inSomeSet_4 rfl (lv_at hl 0 rfl) ?_
      refine lv_bipush (v := 64) hx hb dX0_inSomeSet_5 (by decide) ?_
      refine lv_icmp_ge (tgt := 28) hx hb dX0_inSomeSet_7 (by decide) (fun c_7 => ?_) (fun c_7 => ?_)
      · have hm := it_s c_7 hm
        refine lv_iload_n hx hb dX0_inSomeSet_28 rfl (lv_at hl 1 rfl) ?_
        have hm := Option.some.inj hm
        subst hm
        exact q_iret (v := x1) hx hb hr hlocks hP hS dX0_inSomeSet_29
      · have hm := it_n c_7 hm
        refine lv_aload_n hx hb dX0_inSomeSet_10 rfl (lv_at hl 2 rfl) ?_
        refine lv_iload_n hx hb dX0_inSomeSet_11 rfl (lv_at hl 0 rfl) ?_
        obtain ⟨r_12, hc_12, hm⟩ := ob_s hm
        refine q_ci (q_rv (rest := []) ⟨hx, hb, hml, hown, hts⟩ hK hN hP hD (c_X0_fitting l D cI cZ H.size AT AT_of AT_ft AT_bv AT_ta fT_ft x2 r_12 hc_12) mb_X0_fitting mv_X0_fitting wl_X0_79 [0, 1] rfl rfl rfl (Nat.le_of_ble_eq_true rfl) (Nat.le_of_ble_eq_true rfl) rfl hl.1 rfl (Nat.le_of_ble_eq_true rfl) ⟨Nat.le_refl 0, Nat.le_refl 0⟩ dX0_inSomeSet_12) hP hD hS hA [0, 1] rfl rfl (fun H locs hP hD hS => ?_)
        have hP : va_P D vwCl (wd_X0_inSomeSet cI cZ AT AT_of AT_ft AT_bv AT_ta fT_ft) H := hP
        have hD : va_D A (wd_X0_inSomeSet cI cZ AT AT_of AT_ft AT_bv AT_ta fT_ft) := hD
        refine lv_if_eq (tgt := 22) hx hb dX0_inSomeSet_15 (by decide) (fun c_15 => ?_) (fun c_15 => ?_)
        · have hm := it_s c_15 hm
          refine lv_iinc (v := (x2 + 1)) (lv' := [(2, .int (x2 + 1)), (1, .int x1), (0, .ref AT)]) hx hb dX0_inSomeSet_22 hl (k := 0) rfl rfl (by decide) rfl (fun ls hl => ?_)
          refine lv_goto (tgt := 4) hx hb dX0_inSomeSet_25 (by decide) ?_
          exact ih_4 (x2 + 1) x1 H locs ls hm hP hD hS (lv_sub hl [0, 1, 2] rfl)
        · have hm := it_n c_15 hm
          refine lv_iload_n hx hb dX0_inSomeSet_18 rfl (lv_at hl 1 rfl) ?_
          refine lv_iload_n hx hb dX0_inSomeSet_19 rfl (lv_at hl 0 rfl) ?_
          refine lv_ior hx hb dX0_inSomeSet_20 ?_
          refine lv_istore_n (lv' := [(1, .int (x1 ||| x2)), (2, .int x2), (0, .ref AT)]) hx hb dX0_inSomeSet_21 rfl hl (by decide) rfl (fun ls hl => ?_)
          refine lv_iinc (v := (x2 + 1)) (lv' := [(2, .int (x2 + 1)), (1, .int (x1 ||| x2)), (0, .ref AT)]) hx hb dX0_inSomeSet_22 hl (k := 1) rfl rfl (by decide) rfl (fun ls hl => ?_)
          refine lv_goto (tgt := 4) hx hb dX0_inSomeSet_25 (by decide) ?_
          exact ih_4 (x2 + 1) (x1 ||| x2) H locs ls hm hP hD hS (lv_sub hl [0, 1, 2] rfl)
  unfold fm_X0_inSomeSet at hm
  refine q_gen hS hP ?_
  intro H locs hP hS
  refine lv_iconst (v := 0) hx hb dX0_inSomeSet_0 (by decide) ?_
  refine lv_istore_n (lv' := [(1, .int 0), (0, .ref AT)]) hx hb dX0_inSomeSet_1 rfl hl (by decide) rfl (fun ls hl => ?_)
  refine lv_iconst (v := 0) hx hb dX0_inSomeSet_2 (by decide) ?_
  refine lv_istore_n (lv' := [(2, .int 0), (1, .int 0), (0, .ref AT)]) hx hb dX0_inSomeSet_3 rfl hl (by decide) rfl (fun ls hl => ?_)
  exact hL_4 FU 0 0 H locs ls hm hP hD hS (lv_sub hl [0, 1, 2] rfl)
theorem gf_X6_9 {p : Program} {l : Launch} {e : Env} {R : Room} {s : State} {m : MethodId} {args : Array Value} {below : List Frame} {meth : Method} {c : Code} {H : Heap} {locs : List Loc} {cells slots : Nat} {Q : State → Prop} {pc : Nat} {ls : Array Slot} {cc : ByteArray} {D : va_G} {cI cZ : ClassId} {ws : va_W} {a : Nat} {rest fs : List Value} (hx : p.tables.exec = Jvm.exec) (hb : c.code = cc) (hts : ∀ w ∈ bg, w.before args s = true) (hown : s.vm.findClass RX6 = some m.cls) (hK : va_K D vwCl (q_tys cI cZ) s) (hN : q_N s) (hP : va_P D vwCl ws H) (q0 : Nat) (he : ws[q0]? = some (a, .inr (6, fs))) {v : Value} (hv : fs[0]? = some v) (hdg : decode cc pc = .ok (.getfield 9, 3)) (kk : W p l e R s m args below meth c H locs cells slots Q (F0 m (pc + 3) ls (v :: rest))) : W p l e R s m args below meth c H locs cells slots Q (F0 m pc ls (.ref a :: rest)) :=
  va_get (C := RX6) (T := TX6) (N := 5) hx hb hts wu_X6 hown hK hP q0 he rfl 0 (by decide) (hts _ wf_X6_9) (fun _ h9 => h9) hv hdg kk
theorem gf_X6_15 {p : Program} {l : Launch} {e : Env} {R : Room} {s : State} {m : MethodId} {args : Array Value} {below : List Frame} {meth : Method} {c : Code} {H : Heap} {locs : List Loc} {cells slots : Nat} {Q : State → Prop} {pc : Nat} {ls : Array Slot} {cc : ByteArray} {D : va_G} {cI cZ : ClassId} {ws : va_W} {a : Nat} {rest fs : List Value} (hx : p.tables.exec = Jvm.exec) (hb : c.code = cc) (hts : ∀ w ∈ bg, w.before args s = true) (hown : s.vm.findClass RX6 = some m.cls) (hK : va_K D vwCl (q_tys cI cZ) s) (hN : q_N s) (hP : va_P D vwCl ws H) (q0 : Nat) (he : ws[q0]? = some (a, .inr (6, fs))) {v : Value} (hv : fs[1]? = some v) (hdg : decode cc pc = .ok (.getfield 15, 3)) (kk : W p l e R s m args below meth c H locs cells slots Q (F0 m (pc + 3) ls (v :: rest))) : W p l e R s m args below meth c H locs cells slots Q (F0 m pc ls (.ref a :: rest)) :=
  va_get (C := RX6) (T := TX6) (N := 5) hx hb hts wu_X6 hown hK hP q0 he rfl 1 (by decide) (hts _ wf_X6_15) (fun _ h9 => h9) hv hdg kk
theorem gf_X6_29 {p : Program} {l : Launch} {e : Env} {R : Room} {s : State} {m : MethodId} {args : Array Value} {below : List Frame} {meth : Method} {c : Code} {H : Heap} {locs : List Loc} {cells slots : Nat} {Q : State → Prop} {pc : Nat} {ls : Array Slot} {cc : ByteArray} {D : va_G} {cI cZ : ClassId} {ws : va_W} {a : Nat} {rest fs : List Value} (hx : p.tables.exec = Jvm.exec) (hb : c.code = cc) (hts : ∀ w ∈ bg, w.before args s = true) (hown : s.vm.findClass RX6 = some m.cls) (hK : va_K D vwCl (q_tys cI cZ) s) (hN : q_N s) (hP : va_P D vwCl ws H) (q0 : Nat) (he : ws[q0]? = some (a, .inr (6, fs))) {v : Value} (hv : fs[2]? = some v) (hdg : decode cc pc = .ok (.getfield 29, 3)) (kk : W p l e R s m args below meth c H locs cells slots Q (F0 m (pc + 3) ls (v :: rest))) : W p l e R s m args below meth c H locs cells slots Q (F0 m pc ls (.ref a :: rest)) :=
  va_get (C := RX6) (T := TX6) (N := 5) hx hb hts wu_X6 hown hK hP q0 he rfl 2 (by decide) (hts _ wf_X6_29) (fun _ h9 => h9) hv hdg kk
theorem pf_X6_15 {p : Program} {l : Launch} {e : Env} {R : Room} {s : State} {m : MethodId} {args : Array Value} {below : List Frame} {meth : Method} {c : Code} {H : Heap} {locs : List Loc} {cells slots : Nat} {Q : State → Prop} {pc : Nat} {ls : Array Slot} {cc : ByteArray} {D : va_G} {cI cZ : ClassId} {ws : va_W} {A : Nat → Prop} {a : Nat} {rest fs : List Value} {x : Int32} (hx : p.tables.exec = Jvm.exec) (hb : c.code = cc) (hts : ∀ w ∈ bg, w.before args s = true) (hown : s.vm.findClass RX6 = some m.cls) (hK : va_K D vwCl (q_tys cI cZ) s) (hN : q_N s) (hP : va_P D vwCl ws H) (hD : va_D A ws) (hS : va_S A s.heap H locs) (q0 : Nat) (he : ws[q0]? = some (a, .inr (6, fs))) (hdg : decode cc pc = .ok (.putfield 15, 3)) (kk : ∀ (H1 : Heap) (locs1 : List Loc), va_P D vwCl (ws.set q0 (a, .inr (6, fs.set 1 (.int x)))) H1 → va_D A (ws.set q0 (a, .inr (6, fs.set 1 (.int x)))) → va_S A s.heap H1 locs1 → W p l e R s m args below meth c H1 locs1 cells slots Q (F0 m (pc + 3) ls rest)) (hl : 1 < fs.length := by exact Nat.le_of_ble_eq_true rfl) : W p l e R s m args below meth c H locs cells slots Q (F0 m pc ls (.int x :: .ref a :: rest)) :=
  va_put (C := RX6) (T := TX6) (N := 5) (ty := .int) hx hb hts wu_X6 tyX6 tyX6_ok nmX6 hown hK hP hD hS q0 he rfl 1 (by decide) (hts _ wf_X6_15) (fun _ h9 => h9) rfl (by decide +kernel) rfl rfl hl hdg kk
theorem pf_X6_29 {p : Program} {l : Launch} {e : Env} {R : Room} {s : State} {m : MethodId} {args : Array Value} {below : List Frame} {meth : Method} {c : Code} {H : Heap} {locs : List Loc} {cells slots : Nat} {Q : State → Prop} {pc : Nat} {ls : Array Slot} {cc : ByteArray} {D : va_G} {cI cZ : ClassId} {ws : va_W} {A : Nat → Prop} {a : Nat} {rest fs : List Value} {x : Int32} (hx : p.tables.exec = Jvm.exec) (hb : c.code = cc) (hts : ∀ w ∈ bg, w.before args s = true) (hown : s.vm.findClass RX6 = some m.cls) (hK : va_K D vwCl (q_tys cI cZ) s) (hN : q_N s) (hP : va_P D vwCl ws H) (hD : va_D A ws) (hS : va_S A s.heap H locs) (q0 : Nat) (he : ws[q0]? = some (a, .inr (6, fs))) (hdg : decode cc pc = .ok (.putfield 29, 3)) (kk : ∀ (H1 : Heap) (locs1 : List Loc), va_P D vwCl (ws.set q0 (a, .inr (6, fs.set 2 (.int x)))) H1 → va_D A (ws.set q0 (a, .inr (6, fs.set 2 (.int x)))) → va_S A s.heap H1 locs1 → W p l e R s m args below meth c H1 locs1 cells slots Q (F0 m (pc + 3) ls rest)) (hl : 2 < fs.length := by exact Nat.le_of_ble_eq_true rfl) : W p l e R s m args below meth c H locs cells slots Q (F0 m pc ls (.int x :: .ref a :: rest)) :=
  va_put (C := RX6) (T := TX6) (N := 5) (ty := .int) hx hb hts wu_X6 tyX6 tyX6_ok nmX6 hown hK hP hD hS q0 he rfl 2 (by decide) (hts _ wf_X6_29) (fun _ h9 => h9) rfl (by decide +kernel) rfl rfl hl hdg kk
theorem mb_X6_see : q_mb yX6_see cX6_see 3 none 1 := ⟨wc_X6_see, wn_X6, by decide, by decide, by decide +kernel⟩
theorem mv_X6_see : q_mv yX6_see 6 := ⟨wi_X6_see, ws_X6_see, _, rfl, rfl⟩
def wd_X6_see (cI cZ : ClassId) (AT AT_sn : Nat) (vT_hi : Int32) (vT_ms : Int32) (vT_bl : Int32) (vT_fw : Int32) (fT_sn : Nat → Int32) : va_W := [(AT, .inr (6, [.ref AT_sn, .int vT_hi, .int vT_ms, .int vT_bl, .int vT_fw])), (AT_sn, .inl (cI, 256, .inl fT_sn))]
def fm_X6_see (p1 : Int32) (vT_hi : Int32) (vT_ms : Int32) (fT_sn : Nat → Int32) : Option (Int32 × Int32 × (Nat → Int32)) := Option.bind (fm_X7_at 256 p1 fT_sn) (fun r_5 => Option.bind (fm_X7_put 256 p1 (r_5 + 1) fT_sn) (fun r_17 => some ((if vT_hi < p1 then p1 else vT_hi), (if vT_ms < (r_5 + 1) then (r_5 + 1) else vT_ms), r_17)))
set_option maxHeartbeats 4000000 in
set_option maxRecDepth 100000 in
theorem c_X6_see (l : Launch) (D : va_G) (cI cZ : ClassId) (sz : Nat) (AT AT_sn : Nat) (vT_hi : Int32) (vT_ms : Int32) (vT_bl : Int32) (vT_fw : Int32) (fT_sn : Nat → Int32) (p1 : Int32) (out : (Int32 × Int32 × (Nat → Int32))) (hm : fm_X6_see p1 vT_hi vT_ms fT_sn = some out) : Met l yX6_see (Cond.code yX6_see cX6_see 3 none :: bg) { frames := 1, cells := 0, slots := 0, locals := 22 } (va_Pc [.ref AT, .int p1] (q_pre D cI cZ sz (wd_X6_see cI cZ AT AT_sn vT_hi vT_ms vT_bl vT_fw fT_sn))) (q_Qv D (wd_X6_see cI cZ AT AT_sn out.1 out.2.1 vT_bl vT_fw out.2.2) (va_A (wd_X6_see cI cZ AT AT_sn vT_hi vT_ms vT_bl vT_fw fT_sn) sz)) 0 0 (va_A (wd_X6_see cI cZ AT AT_sn vT_hi vT_ms vT_bl vT_fw fT_sn) sz) := by
  refine q_met (fun A => q_Qv D (wd_X6_see cI cZ AT AT_sn out.1 out.2.1 vT_bl vT_fw out.2.2) A) (by decide) (Nat.le_of_ble_eq_true rfl) ?_
  intro p e s m below meth c ls A hx hb hr hml hown hts hlocks _ hA hS hP hD hK hN hl
  have hown : s.vm.findClass RX6 = some m.cls := hown
  have hl : lv_has ls 3 [(0, .ref AT), (1, .int p1)] := hl
  unfold fm_X6_see at hm
  refine q_gen hS hP ?_
  intro H locs hP hS
  refine lv_aload_n hx hb dX6_see_0 rfl (lv_at hl 0 rfl) ?_
  refine gf_X6_9 (v := .ref AT_sn) hx hb hts hown hK hN hP 0 rfl rfl dX6_see_1 ?_
  refine lv_iload_n hx hb dX6_see_4 rfl (lv_at hl 1 rfl) ?_
  obtain ⟨r_5, hc_5, hm⟩ := ob_s hm
  refine q_ci (q_rn (rest := []) ⟨hx, hb, hml, hown, hts⟩ hK hN hP hD (c_X7_at l D cI cZ H.size AT_sn 256 fT_sn p1 r_5 hc_5) mb_X7_at wt_X7_at (nl_X6_32 hN) [1] rfl rfl (Nat.le_of_ble_eq_true rfl) (Nat.le_of_ble_eq_true rfl) rfl hl.1 rfl (Nat.le_of_ble_eq_true rfl) ⟨Nat.le_refl 0, Nat.le_refl 0⟩ dX6_see_5) hP hD hS hA [1] rfl rfl (fun H locs hP hD hS => ?_)
  have hP : va_P D vwCl (wd_X6_see cI cZ AT AT_sn vT_hi vT_ms vT_bl vT_fw fT_sn) H := hP
  have hD : va_D A (wd_X6_see cI cZ AT AT_sn vT_hi vT_ms vT_bl vT_fw fT_sn) := hD
  refine lv_iconst (v := 1) hx hb dX6_see_8 (by decide) ?_
  refine lv_iadd hx hb dX6_see_9 ?_
  refine lv_istore_n (lv' := [(2, .int (r_5 + 1)), (0, .ref AT), (1, .int p1)]) hx hb dX6_see_10 rfl hl (by decide) rfl (fun ls hl => ?_)
  refine lv_aload_n hx hb dX6_see_11 rfl (lv_at hl 1 rfl) ?_
  refine gf_X6_9 (v := .ref AT_sn) hx hb hts hown hK hN hP 0 rfl rfl dX6_see_12 ?_
  refine lv_iload_n hx hb dX6_see_15 rfl (lv_at hl 2 rfl) ?_
  refine lv_iload_n hx hb dX6_see_16 rfl (lv_at hl 0 rfl) ?_
  obtain ⟨r_17, hc_17, hm⟩ := ob_s hm
  refine q_cv (q_rn (rest := []) ⟨hx, hb, hml, hown, hts⟩ hK hN hP hD (c_X7_put l D cI cZ H.size AT_sn 256 fT_sn p1 (r_5 + 1) r_17 hc_17) mb_X7_put wt_X7_put (nl_X6_25 hN) [1] rfl rfl (Nat.le_of_ble_eq_true rfl) (Nat.le_of_ble_eq_true rfl) rfl hl.1 rfl (Nat.le_of_ble_eq_true rfl) ⟨Nat.le_refl 0, Nat.le_refl 0⟩ dX6_see_17) hP hD hS hA [1] rfl rfl (fun H locs hP hD hS => ?_)
  have hP : va_P D vwCl (wd_X6_see cI cZ AT AT_sn vT_hi vT_ms vT_bl vT_fw r_17) H := hP
  have hD : va_D A (wd_X6_see cI cZ AT AT_sn vT_hi vT_ms vT_bl vT_fw r_17) := hD
  refine lv_aload_n hx hb dX6_see_20 rfl (lv_at hl 1 rfl) ?_
  refine lv_aload_n hx hb dX6_see_21 rfl (lv_at hl 1 rfl) ?_
  refine gf_X6_15 (v := .int vT_hi) hx hb hts hown hK hN hP 0 rfl rfl dX6_see_22 ?_
  refine lv_iload_n hx hb dX6_see_25 rfl (lv_at hl 2 rfl) ?_
  refine va_mmax hx hb (hml.trans hl.1.symm) hown (hts _ wl_X6_36) (hts _ wt_math_max) (hts _ wn_math) (hts _ wc_math_max) (Nat.le_of_ble_eq_true rfl) (Nat.le_of_ble_eq_true rfl) (Nat.le_refl 0) (Nat.le_refl 0) dX6_see_26 ?_
  refine pf_X6_15 hx hb hts hown hK hN hP hD hS 0 rfl dX6_see_29 (fun H locs hP hD hS => ?_)
  have hP : va_P D vwCl (wd_X6_see cI cZ AT AT_sn (if vT_hi < p1 then p1 else vT_hi) vT_ms vT_bl vT_fw r_17) H := hP
  have hD : va_D A (wd_X6_see cI cZ AT AT_sn (if vT_hi < p1 then p1 else vT_hi) vT_ms vT_bl vT_fw r_17) := hD
  refine lv_aload_n hx hb dX6_see_32 rfl (lv_at hl 1 rfl) ?_
  refine lv_aload_n hx hb dX6_see_33 rfl (lv_at hl 1 rfl) ?_
  refine gf_X6_29 (v := .int vT_ms) hx hb hts hown hK hN hP 0 rfl rfl dX6_see_34 ?_
  refine lv_iload_n hx hb dX6_see_37 rfl (lv_at hl 0 rfl) ?_
  refine va_mmax hx hb (hml.trans hl.1.symm) hown (hts _ wl_X6_36) (hts _ wt_math_max) (hts _ wn_math) (hts _ wc_math_max) (Nat.le_of_ble_eq_true rfl) (Nat.le_of_ble_eq_true rfl) (Nat.le_refl 0) (Nat.le_refl 0) dX6_see_38 ?_
  refine pf_X6_29 hx hb hts hown hK hN hP hD hS 0 rfl dX6_see_41 (fun H locs hP hD hS => ?_)
  have hP : va_P D vwCl (wd_X6_see cI cZ AT AT_sn (if vT_hi < p1 then p1 else vT_hi) (if vT_ms < (r_5 + 1) then (r_5 + 1) else vT_ms) vT_bl vT_fw r_17) H := hP
  have hD : va_D A (wd_X6_see cI cZ AT AT_sn (if vT_hi < p1 then p1 else vT_hi) (if vT_ms < (r_5 + 1) then (r_5 + 1) else vT_ms) vT_bl vT_fw r_17) := hD
  have hm := Option.some.inj hm
  subst hm
  exact q_vret hx hb hr hlocks hP hS dX6_see_44
theorem mb_X6_startLook : q_mb yX6_startLook cX6_startLook 2 none 0 := ⟨wc_X6_startLook, wn_X6, by decide, by decide, by decide +kernel⟩
theorem mv_X6_startLook : q_mv yX6_startLook 6 := ⟨wi_X6_startLook, ws_X6_startLook, _, rfl, rfl⟩
def wd_X6_startLook (cI cZ : ClassId) (AT AT_sn : Nat) (vT_hi : Int32) (vT_ms : Int32) (vT_bl : Int32) (vT_fw : Int32) (fT_sn : Nat → Int32) : va_W := [(AT, .inr (6, [.ref AT_sn, .int vT_hi, .int vT_ms, .int vT_bl, .int vT_fw])), (AT_sn, .inl (cI, 256, .inl fT_sn))]
def fL_X6_startLook_2 : Nat → Int32 → Int32 → Int32 → (Nat → Int32) → Option (Int32 × Int32 × (Nat → Int32))
  | 0, _, _, _, _ => none
  | fu + 1, x1, vT_hi, vT_ms, fT_sn => if vT_hi < x1 then (some ((-1), 0, fT_sn)) else (Option.bind (fm_X7_put 256 x1 0 fT_sn) (fun r_16 => fL_X6_startLook_2 fu (x1 + 1) vT_hi vT_ms r_16))
def fm_X6_startLook (vT_hi : Int32) (vT_ms : Int32) (fT_sn : Nat → Int32) : Option (Int32 × Int32 × (Nat → Int32)) := fL_X6_startLook_2 FU 0 vT_hi vT_ms fT_sn
set_option maxHeartbeats 4000000 in
set_option maxRecDepth 100000 in
theorem c_X6_startLook (l : Launch) (D : va_G) (cI cZ : ClassId) (sz : Nat) (AT AT_sn : Nat) (vT_hi : Int32) (vT_ms : Int32) (vT_bl : Int32) (vT_fw : Int32) (fT_sn : Nat → Int32) (out : (Int32 × Int32 × (Nat → Int32))) (hm : fm_X6_startLook vT_hi vT_ms fT_sn = some out) : Met l yX6_startLook (Cond.code yX6_startLook cX6_startLook 2 none :: bg) { frames := 1, cells := 0, slots := 0, locals := 22 } (va_Pc [.ref AT] (q_pre D cI cZ sz (wd_X6_startLook cI cZ AT AT_sn vT_hi vT_ms vT_bl vT_fw fT_sn))) (q_Qv D (wd_X6_startLook cI cZ AT AT_sn out.1 out.2.1 vT_bl vT_fw out.2.2) (va_A (wd_X6_startLook cI cZ AT AT_sn vT_hi vT_ms vT_bl vT_fw fT_sn) sz)) 0 0 (va_A (wd_X6_startLook cI cZ AT AT_sn vT_hi vT_ms vT_bl vT_fw fT_sn) sz) := by
  refine q_met (fun A => q_Qv D (wd_X6_startLook cI cZ AT AT_sn out.1 out.2.1 vT_bl vT_fw out.2.2) A) (by decide) (Nat.le_of_ble_eq_true rfl) ?_
  intro p e s m below meth c ls A hx hb hr hml hown hts hlocks _ hA hS hP hD hK hN hl
  have hown : s.vm.findClass RX6 = some m.cls := hown
  have hl : lv_has ls 2 [(0, .ref AT)] := hl
  have hL_2 : ∀ (fu_2 : Nat) (x1 : Int32) (vT_hi : Int32) (vT_ms : Int32) (fT_sn : Nat → Int32) (H : Heap) (locs : List Loc) (ls : Array Slot), fL_X6_startLook_2 fu_2 x1 vT_hi vT_ms fT_sn = some out → va_P D vwCl (wd_X6_startLook cI cZ AT AT_sn vT_hi vT_ms vT_bl vT_fw fT_sn) H → va_D A (wd_X6_startLook cI cZ AT AT_sn vT_hi vT_ms vT_bl vT_fw fT_sn) → va_S A s.heap H locs → lv_has ls 2 [(1, .int x1), (0, .ref AT)] → W p l e { frames := 1, cells := 0, slots := 0, locals := 22 } s m ([.ref AT] : List Value).toArray below meth c H locs 0 0 (MQ below (q_Qv D (wd_X6_startLook cI cZ AT AT_sn out.1 out.2.1 vT_bl vT_fw out.2.2) A) ([.ref AT] : List Value).toArray s 0 0 A) (F0 m 2 ls []) := by
    intro fu_2
    induction fu_2 with
    | zero => intro x1 vT_hi vT_ms fT_sn H locs ls hm hP hD hS hl; exact absurd (show (none : Option (Int32 × Int32 × (Nat → Int32))) = some out from hm) (fun h => nomatch h)
    | succ fu_2 ih_2 =>
      intro x1 vT_hi vT_ms fT_sn H locs ls hm hP hD hS hl
      rw [fL_X6_startLook_2] at hm
      refine lv_iload_n hx hb dX6_startLook_2 rfl (lv_at hl 0 rfl) ?_
      refine lv_aload_n hx hb dX6_startLook_3 rfl (lv_at hl 1 rfl) ?_
      refine gf_X6_15 (v := .int vT_hi) hx hb hts hown hK hN hP 0 rfl rfl dX6_startLook_4 ?_
      refine lv_icmp_gt (tgt := 25) hx hb dX6_startLook_7 (by decide) (fun c_7 => ?_) (fun c_7 => ?_)
      · have hm := it_s c_7 hm
        refine lv_aload_n hx hb dX6_startLook_25 rfl (lv_at hl 1 rfl) ?_
        refine lv_iconst (v := (-1)) hx hb dX6_startLook_26 (by decide) ?_
        refine pf_X6_15 hx hb hts hown hK hN hP hD hS 0 rfl dX6_startLook_27 (fun H locs hP hD hS => ?_)
        have hP : va_P D vwCl (wd_X6_startLook cI cZ AT AT_sn (-1) vT_ms vT_bl vT_fw fT_sn) H := hP
        have hD : va_D A (wd_X6_startLook cI cZ AT AT_sn (-1) vT_ms vT_bl vT_fw fT_sn) := hD
        refine lv_aload_n hx hb dX6_startLook_30 rfl (lv_at hl 1 rfl) ?_
        refine lv_iconst (v := 0) hx hb dX6_startLook_31 (by decide) ?_
        refine pf_X6_29 hx hb hts hown hK hN hP hD hS 0 rfl dX6_startLook_32 (fun H locs hP hD hS => ?_)
        have hP : va_P D vwCl (wd_X6_startLook cI cZ AT AT_sn (-1) 0 vT_bl vT_fw fT_sn) H := hP
        have hD : va_D A (wd_X6_startLook cI cZ AT AT_sn (-1) 0 vT_bl vT_fw fT_sn) := hD
        have hm := Option.some.inj hm
        subst hm
        exact q_vret hx hb hr hlocks hP hS dX6_startLook_35
      · have hm := it_n c_7 hm
        refine lv_aload_n hx hb dX6_startLook_10 rfl (lv_at hl 1 rfl) ?_
        refine gf_X6_9 (v := .ref AT_sn) hx hb hts hown hK hN hP 0 rfl rfl dX6_startLook_11 ?_
        refine lv_iload_n hx hb dX6_startLook_14 rfl (lv_at hl 0 rfl) ?_
        refine lv_iconst (v := 0) hx hb dX6_startLook_15 (by decide) ?_
        obtain ⟨r_16, hc_16, hm⟩ := ob_s hm
        refine q_cv (q_rn (rest := []) ⟨hx, hb, hml, hown, hts⟩ hK hN hP hD (c_X7_put l D cI cZ H.size AT_sn 256 fT_sn x1 0 r_16 hc_16) mb_X7_put wt_X7_put (nl_X6_25 hN) [1] rfl rfl (Nat.le_of_ble_eq_true rfl) (Nat.le_of_ble_eq_true rfl) rfl hl.1 rfl (Nat.le_of_ble_eq_true rfl) ⟨Nat.le_refl 0, Nat.le_refl 0⟩ dX6_startLook_16) hP hD hS hA [1] rfl rfl (fun H locs hP hD hS => ?_)
        have hP : va_P D vwCl (wd_X6_startLook cI cZ AT AT_sn vT_hi vT_ms vT_bl vT_fw r_16) H := hP
        have hD : va_D A (wd_X6_startLook cI cZ AT AT_sn vT_hi vT_ms vT_bl vT_fw r_16) := hD
        refine lv_iinc (v := (x1 + 1)) (lv' := [(1, .int (x1 + 1)), (0, .ref AT)]) hx hb dX6_startLook_19 hl (k := 0) rfl rfl (by decide) rfl (fun ls hl => ?_)
        refine lv_goto (tgt := 2) hx hb dX6_startLook_22 (by decide) ?_
        exact ih_2 (x1 + 1) vT_hi vT_ms r_16 H locs ls hm hP hD hS (lv_sub hl [0, 1] rfl)
  unfold fm_X6_startLook at hm
  refine q_gen hS hP ?_
  intro H locs hP hS
  refine lv_iconst (v := 0) hx hb dX6_startLook_0 (by decide) ?_
  refine lv_istore_n (lv' := [(1, .int 0), (0, .ref AT)]) hx hb dX6_startLook_1 rfl hl (by decide) rfl (fun ls hl => ?_)
  exact hL_2 FU 0 vT_hi vT_ms fT_sn H locs ls hm hP hD hS (lv_sub hl [0, 1] rfl)
theorem gf_X0_25 {p : Program} {l : Launch} {e : Env} {R : Room} {s : State} {m : MethodId} {args : Array Value} {below : List Frame} {meth : Method} {c : Code} {H : Heap} {locs : List Loc} {cells slots : Nat} {Q : State → Prop} {pc : Nat} {ls : Array Slot} {cc : ByteArray} {D : va_G} {cI cZ : ClassId} {ws : va_W} {a : Nat} {rest fs : List Value} (hx : p.tables.exec = Jvm.exec) (hb : c.code = cc) (hts : ∀ w ∈ bg, w.before args s = true) (hown : s.vm.findClass RX0 = some m.cls) (hK : va_K D vwCl (q_tys cI cZ) s) (hN : q_N s) (hP : va_P D vwCl ws H) (q0 : Nat) (he : ws[q0]? = some (a, .inr (0, fs))) {v : Value} (hv : fs[3]? = some v) (hdg : decode cc pc = .ok (.getfield 25, 3)) (kk : W p l e R s m args below meth c H locs cells slots Q (F0 m (pc + 3) ls (v :: rest))) : W p l e R s m args below meth c H locs cells slots Q (F0 m pc ls (.ref a :: rest)) :=
  va_get (C := RX0) (T := TX0) (N := 4) hx hb hts wu_X0 hown hK hP q0 he rfl 3 (by decide) (hts _ wf_X0_25) (fun _ h9 => h9) hv hdg kk
theorem mb_X0_seeSets : q_mb yX0_seeSets cX0_seeSets 4 none 2 := ⟨wc_X0_seeSets, wn_X0, by decide, by decide, by decide +kernel⟩
theorem mv_X0_seeSets : q_mv yX0_seeSets 0 := ⟨wi_X0_seeSets, ws_X0_seeSets, _, rfl, rfl⟩
def wd_X0_seeSets (cI cZ : ClassId) (AT AT_of AT_ft AT_bv AT_ta AT_of_sl AT_of_fl AT_of_ro AT_of_nt AT_of_mk AT_of_mo AT_of_fl_c AT_of_sl_c AT_ta_sn : Nat) (vT_of_ng : Int32) (vT_of_fl_n : Int32) (vT_of_sl_n : Int32) (fT_of_sl_c : Nat → Int32) (fT_of_fl_c : Nat → Int32) (fT_bv : Nat → Int32) (vT_ta_hi : Int32) (vT_ta_ms : Int32) (vT_ta_bl : Int32) (vT_ta_fw : Int32) (fT_ta_sn : Nat → Int32) (fT_ft : Nat → Int32) : va_W := [(AT, .inr (0, [.ref AT_of, .ref AT_ft, .ref AT_bv, .ref AT_ta])), (AT_of, .inr (4, [.ref AT_of_sl, .ref AT_of_fl, .ref AT_of_ro, .ref AT_of_nt, .ref AT_of_mk, .ref AT_of_mo, .int vT_of_ng])), (AT_of_fl, .inr (3, [.int 3, .ref AT_of_fl_c, .int vT_of_fl_n])), (AT_of_sl, .inr (3, [.int 4, .ref AT_of_sl_c, .int vT_of_sl_n])), (AT_of_sl_c, .inl (cI, 24, .inl fT_of_sl_c)), (AT_of_fl_c, .inl (cI, 18, .inl fT_of_fl_c)), (AT_bv, .inl (cI, 6, .inl fT_bv)), (AT_ta, .inr (6, [.ref AT_ta_sn, .int vT_ta_hi, .int vT_ta_ms, .int vT_ta_bl, .int vT_ta_fw])), (AT_ta_sn, .inl (cI, 256, .inl fT_ta_sn)), (AT_ft, .inl (cI, 64, .inl fT_ft))]
def fL_X0_seeSets_15 (p1 : Int32) (p2 : Int32) (vT_of_fl_n : Int32) (vT_of_sl_n : Int32) (fT_of_sl_c : Nat → Int32) (fT_of_fl_c : Nat → Int32) (fT_ft : Nat → Int32) : Nat → Int32 → (Nat → Int32) → Int32 → Int32 → (Nat → Int32) → Option ((Nat → Int32) × Int32 × Int32 × (Nat → Int32))
  | 0, _, _, _, _, _ => none
  | fu + 1, x3, fT_bv, vT_ta_hi, vT_ta_ms, fT_ta_sn => if 64 ≤ x3 then (some (fT_bv, vT_ta_hi, vT_ta_ms, fT_ta_sn)) else (Option.bind (fm_X0_fitting x3 fT_ft) (fun r_23 => if r_23 = 0 then (fL_X0_seeSets_15 p1 p2 vT_of_fl_n vT_of_sl_n fT_of_sl_c fT_of_fl_c fT_ft fu (x3 + 1) fT_bv vT_ta_hi vT_ta_ms fT_ta_sn) else (Option.bind (fm_X0_believedOfSet x3 vT_of_fl_n fT_bv) (fun r_35 => Option.bind (fm_X6_see r_35 vT_ta_hi vT_ta_ms fT_ta_sn) (fun r_38 => fL_X0_seeSets_15 p1 p2 vT_of_fl_n vT_of_sl_n fT_of_sl_c fT_of_fl_c fT_ft fu (x3 + 1) fT_bv r_38.1 r_38.2.1 r_38.2.2)))))
def fm_X0_seeSets (p1 : Int32) (p2 : Int32) (vT_of_fl_n : Int32) (vT_of_sl_n : Int32) (fT_of_sl_c : Nat → Int32) (fT_of_fl_c : Nat → Int32) (fT_bv : Nat → Int32) (vT_ta_hi : Int32) (vT_ta_ms : Int32) (fT_ta_sn : Nat → Int32) (fT_ft : Nat → Int32) : Option ((Nat → Int32) × Int32 × Int32 × (Nat → Int32)) := Option.bind (fm_X0_fillBelieved p1 p2 vT_of_fl_n vT_of_sl_n fT_of_sl_c fT_of_fl_c fT_bv) (fun r_3 => Option.bind (fm_X6_startLook vT_ta_hi vT_ta_ms fT_ta_sn) (fun r_10 => fL_X0_seeSets_15 p1 p2 vT_of_fl_n vT_of_sl_n fT_of_sl_c fT_of_fl_c fT_ft FU 0 r_3 r_10.1 r_10.2.1 r_10.2.2))
set_option maxHeartbeats 4000000 in
set_option maxRecDepth 100000 in
theorem c_X0_seeSets (l : Launch) (D : va_G) (cI cZ : ClassId) (sz : Nat) (AT AT_of AT_ft AT_bv AT_ta AT_of_sl AT_of_fl AT_of_ro AT_of_nt AT_of_mk AT_of_mo AT_of_fl_c AT_of_sl_c AT_ta_sn : Nat) (vT_of_ng : Int32) (vT_of_fl_n : Int32) (vT_of_sl_n : Int32) (fT_of_sl_c : Nat → Int32) (fT_of_fl_c : Nat → Int32) (fT_bv : Nat → Int32) (vT_ta_hi : Int32) (vT_ta_ms : Int32) (vT_ta_bl : Int32) (vT_ta_fw : Int32) (fT_ta_sn : Nat → Int32) (fT_ft : Nat → Int32) (p1 : Int32) (p2 : Int32) (out : ((Nat → Int32) × Int32 × Int32 × (Nat → Int32))) (hm : fm_X0_seeSets p1 p2 vT_of_fl_n vT_of_sl_n fT_of_sl_c fT_of_fl_c fT_bv vT_ta_hi vT_ta_ms fT_ta_sn fT_ft = some out) : Met l yX0_seeSets (Cond.code yX0_seeSets cX0_seeSets 4 none :: bg) { frames := 4, cells := 0, slots := 0, locals := 93 } (va_Pc [.ref AT, .int p1, .int p2] (q_pre D cI cZ sz (wd_X0_seeSets cI cZ AT AT_of AT_ft AT_bv AT_ta AT_of_sl AT_of_fl AT_of_ro AT_of_nt AT_of_mk AT_of_mo AT_of_fl_c AT_of_sl_c AT_ta_sn vT_of_ng vT_of_fl_n vT_of_sl_n fT_of_sl_c fT_of_fl_c fT_bv vT_ta_hi vT_ta_ms vT_ta_bl vT_ta_fw fT_ta_sn fT_ft))) (q_Qv D (wd_X0_seeSets cI cZ AT AT_of AT_ft AT_bv AT_ta AT_of_sl AT_of_fl AT_of_ro AT_of_nt AT_of_mk AT_of_mo AT_of_fl_c AT_of_sl_c AT_ta_sn vT_of_ng vT_of_fl_n vT_of_sl_n fT_of_sl_c fT_of_fl_c out.1 out.2.1 out.2.2.1 vT_ta_bl vT_ta_fw out.2.2.2 fT_ft) (va_A (wd_X0_seeSets cI cZ AT AT_of AT_ft AT_bv AT_ta AT_of_sl AT_of_fl AT_of_ro AT_of_nt AT_of_mk AT_of_mo AT_of_fl_c AT_of_sl_c AT_ta_sn vT_of_ng vT_of_fl_n vT_of_sl_n fT_of_sl_c fT_of_fl_c fT_bv vT_ta_hi vT_ta_ms vT_ta_bl vT_ta_fw fT_ta_sn fT_ft) sz)) 0 0 (va_A (wd_X0_seeSets cI cZ AT AT_of AT_ft AT_bv AT_ta AT_of_sl AT_of_fl AT_of_ro AT_of_nt AT_of_mk AT_of_mo AT_of_fl_c AT_of_sl_c AT_ta_sn vT_of_ng vT_of_fl_n vT_of_sl_n fT_of_sl_c fT_of_fl_c fT_bv vT_ta_hi vT_ta_ms vT_ta_bl vT_ta_fw fT_ta_sn fT_ft) sz) := by
  refine q_met (fun A => q_Qv D (wd_X0_seeSets cI cZ AT AT_of AT_ft AT_bv AT_ta AT_of_sl AT_of_fl AT_of_ro AT_of_nt AT_of_mk AT_of_mo AT_of_fl_c AT_of_sl_c AT_ta_sn vT_of_ng vT_of_fl_n vT_of_sl_n fT_of_sl_c fT_of_fl_c out.1 out.2.1 out.2.2.1 vT_ta_bl vT_ta_fw out.2.2.2 fT_ft) A) (by decide) (Nat.le_of_ble_eq_true rfl) ?_
  intro p e s m below meth c ls A hx hb hr hml hown hts hlocks _ hA hS hP hD hK hN hl
  have hown : s.vm.findClass RX0 = some m.cls := hown
  have hl : lv_has ls 4 [(0, .ref AT), (1, .int p1), (2, .int p2)] := hl
  have hL_15 : ∀ (fu_15 : Nat) (x3 : Int32) (fT_bv : Nat → Int32) (vT_ta_hi : Int32) (vT_ta_ms : Int32) (fT_ta_sn : Nat → Int32) (H : Heap) (locs : List Loc) (ls : Array Slot), fL_X0_seeSets_15 p1 p2 vT_of_fl_n vT_of_sl_n fT_of_sl_c fT_of_fl_c fT_ft fu_15 x3 fT_bv vT_ta_hi vT_ta_ms fT_ta_sn = some out → va_P D vwCl (wd_X0_seeSets cI cZ AT AT_of AT_ft AT_bv AT_ta AT_of_sl AT_of_fl AT_of_ro AT_of_nt AT_of_mk AT_of_mo AT_of_fl_c AT_of_sl_c AT_ta_sn vT_of_ng vT_of_fl_n vT_of_sl_n fT_of_sl_c fT_of_fl_c fT_bv vT_ta_hi vT_ta_ms vT_ta_bl vT_ta_fw fT_ta_sn fT_ft) H → va_D A (wd_X0_seeSets cI cZ AT AT_of AT_ft AT_bv AT_ta AT_of_sl AT_of_fl AT_of_ro AT_of_nt AT_of_mk AT_of_mo AT_of_fl_c AT_of_sl_c AT_ta_sn vT_of_ng vT_of_fl_n vT_of_sl_n fT_of_sl_c fT_of_fl_c fT_bv vT_ta_hi vT_ta_ms vT_ta_bl vT_ta_fw fT_ta_sn fT_ft) → va_S A s.heap H locs → lv_has ls 4 [(3, .int x3), (0, .ref AT)] → W p l e { frames := 4, cells := 0, slots := 0, locals := 93 } s m ([.ref AT, .int p1, .int p2] : List Value).toArray below meth c H locs 0 0 (MQ below (q_Qv D (wd_X0_seeSets cI cZ AT AT_of AT_ft AT_bv AT_ta AT_of_sl AT_of_fl AT_of_ro AT_of_nt AT_of_mk AT_of_mo AT_of_fl_c AT_of_sl_c AT_ta_sn vT_of_ng vT_of_fl_n vT_of_sl_n fT_of_sl_c fT_of_fl_c out.1 out.2.1 out.2.2.1 vT_ta_bl vT_ta_fw out.2.2.2 fT_ft) A) ([.ref AT, .int p1, .int p2] : List Value).toArray s 0 0 A) (F0 m 15 ls []) := by
    intro fu_15
    induction fu_15 with
    | zero => intro x3 fT_bv vT_ta_hi vT_ta_ms fT_ta_sn H locs ls hm hP hD hS hl; exact absurd (show (none : Option ((Nat → Int32) × Int32 × Int32 × (Nat → Int32))) = some out from hm) (fun h => nomatch h)
    | succ fu_15 ih_15 =>
      intro x3 fT_bv vT_ta_hi vT_ta_ms fT_ta_sn H locs ls hm hP hD hS hl
      rw [fL_X0_seeSets_15] at hm
      refine lv_iload_n hx hb dX0_seeSets_15 rfl (lv_at hl 0 rfl) ?_
      refine lv_bipush (v := 64) hx hb dX0_seeSets_16 (by decide) ?_
      refine lv_icmp_ge (tgt := 47) hx hb dX0_seeSets_18 (by decide) (fun c_18 => ?_) (fun c_18 => ?_)
      · have hm := it_s c_18 hm
        have hm := Option.some.inj hm
        subst hm
        exact q_vret hx hb hr hlocks hP hS dX0_seeSets_47
      · have hm := it_n c_18 hm
        refine lv_aload_n hx hb dX0_seeSets_21 rfl (lv_at hl 1 rfl) ?_
        refine lv_iload_n hx hb dX0_seeSets_22 rfl (lv_at hl 0 rfl) ?_
        obtain ⟨r_23, hc_23, hm⟩ := ob_s hm
        refine q_ci (q_rv (rest := []) ⟨hx, hb, hml, hown, hts⟩ hK hN hP hD (c_X0_fitting l D cI cZ H.size AT AT_of AT_ft AT_bv AT_ta fT_ft x3 r_23 hc_23) mb_X0_fitting mv_X0_fitting wl_X0_79 [0, 9] rfl rfl rfl (Nat.le_of_ble_eq_true rfl) (Nat.le_of_ble_eq_true rfl) rfl hl.1 rfl (Nat.le_of_ble_eq_true rfl) ⟨Nat.le_refl 0, Nat.le_refl 0⟩ dX0_seeSets_23) hP hD hS hA [0, 9] rfl rfl (fun H locs hP hD hS => ?_)
        have hP : va_P D vwCl (wd_X0_seeSets cI cZ AT AT_of AT_ft AT_bv AT_ta AT_of_sl AT_of_fl AT_of_ro AT_of_nt AT_of_mk AT_of_mo AT_of_fl_c AT_of_sl_c AT_ta_sn vT_of_ng vT_of_fl_n vT_of_sl_n fT_of_sl_c fT_of_fl_c fT_bv vT_ta_hi vT_ta_ms vT_ta_bl vT_ta_fw fT_ta_sn fT_ft) H := hP
        have hD : va_D A (wd_X0_seeSets cI cZ AT AT_of AT_ft AT_bv AT_ta AT_of_sl AT_of_fl AT_of_ro AT_of_nt AT_of_mk AT_of_mo AT_of_fl_c AT_of_sl_c AT_ta_sn vT_of_ng vT_of_fl_n vT_of_sl_n fT_of_sl_c fT_of_fl_c fT_bv vT_ta_hi vT_ta_ms vT_ta_bl vT_ta_fw fT_ta_sn fT_ft) := hD
        refine lv_if_eq (tgt := 41) hx hb dX0_seeSets_26 (by decide) (fun c_26 => ?_) (fun c_26 => ?_)
        · have hm := it_s c_26 hm
          refine lv_iinc (v := (x3 + 1)) (lv' := [(3, .int (x3 + 1)), (0, .ref AT)]) hx hb dX0_seeSets_41 hl (k := 0) rfl rfl (by decide) rfl (fun ls hl => ?_)
          refine lv_goto (tgt := 15) hx hb dX0_seeSets_44 (by decide) ?_
          exact ih_15 (x3 + 1) fT_bv vT_ta_hi vT_ta_ms fT_ta_sn H locs ls hm hP hD hS (lv_sub hl [0, 1] rfl)
        · have hm := it_n c_26 hm
          refine lv_aload_n hx hb dX0_seeSets_29 rfl (lv_at hl 1 rfl) ?_
          refine gf_X0_25 (v := .ref AT_ta) hx hb hts hown hK hN hP 0 rfl rfl dX0_seeSets_30 ?_
          refine lv_aload_n hx hb dX0_seeSets_33 rfl (lv_at hl 1 rfl) ?_
          refine lv_iload_n hx hb dX0_seeSets_34 rfl (lv_at hl 0 rfl) ?_
          obtain ⟨r_35, hc_35, hm⟩ := ob_s hm
          refine q_ci (q_rv (rest := [.ref AT_ta]) ⟨hx, hb, hml, hown, hts⟩ hK hN hP hD (c_X0_believedOfSet l D cI cZ H.size AT AT_of AT_ft AT_bv AT_ta AT_of_sl AT_of_fl AT_of_ro AT_of_nt AT_of_mk AT_of_mo AT_of_fl_c vT_of_ng vT_of_fl_n fT_bv x3 r_35 hc_35) mb_X0_believedOfSet mv_X0_believedOfSet wl_X0_60 [0, 1, 2, 6] rfl rfl rfl (Nat.le_of_ble_eq_true rfl) (Nat.le_of_ble_eq_true rfl) rfl hl.1 rfl (Nat.le_of_ble_eq_true rfl) ⟨Nat.le_refl 0, Nat.le_refl 0⟩ dX0_seeSets_35) hP hD hS hA [0, 1, 2, 6] rfl rfl (fun H locs hP hD hS => ?_)
          have hP : va_P D vwCl (wd_X0_seeSets cI cZ AT AT_of AT_ft AT_bv AT_ta AT_of_sl AT_of_fl AT_of_ro AT_of_nt AT_of_mk AT_of_mo AT_of_fl_c AT_of_sl_c AT_ta_sn vT_of_ng vT_of_fl_n vT_of_sl_n fT_of_sl_c fT_of_fl_c fT_bv vT_ta_hi vT_ta_ms vT_ta_bl vT_ta_fw fT_ta_sn fT_ft) H := hP
          have hD : va_D A (wd_X0_seeSets cI cZ AT AT_of AT_ft AT_bv AT_ta AT_of_sl AT_of_fl AT_of_ro AT_of_nt AT_of_mk AT_of_mo AT_of_fl_c AT_of_sl_c AT_ta_sn vT_of_ng vT_of_fl_n vT_of_sl_n fT_of_sl_c fT_of_fl_c fT_bv vT_ta_hi vT_ta_ms vT_ta_bl vT_ta_fw fT_ta_sn fT_ft) := hD
          obtain ⟨r_38, hc_38, hm⟩ := ob_s hm
          refine q_cv (q_rv (rest := []) ⟨hx, hb, hml, hown, hts⟩ hK hN hP hD (c_X6_see l D cI cZ H.size AT_ta AT_ta_sn vT_ta_hi vT_ta_ms vT_ta_bl vT_ta_fw fT_ta_sn r_35 r_38 hc_38) mb_X6_see mv_X6_see wl_X0_100 [7, 8] rfl rfl rfl (Nat.le_of_ble_eq_true rfl) (Nat.le_of_ble_eq_true rfl) rfl hl.1 rfl (Nat.le_of_ble_eq_true rfl) ⟨Nat.le_refl 0, Nat.le_refl 0⟩ dX0_seeSets_38) hP hD hS hA [7, 8] rfl rfl (fun H locs hP hD hS => ?_)
          have hP : va_P D vwCl (wd_X0_seeSets cI cZ AT AT_of AT_ft AT_bv AT_ta AT_of_sl AT_of_fl AT_of_ro AT_of_nt AT_of_mk AT_of_mo AT_of_fl_c AT_of_sl_c AT_ta_sn vT_of_ng vT_of_fl_n vT_of_sl_n fT_of_sl_c fT_of_fl_c fT_bv r_38.1 r_38.2.1 vT_ta_bl vT_ta_fw r_38.2.2 fT_ft) H := hP
          have hD : va_D A (wd_X0_seeSets cI cZ AT AT_of AT_ft AT_bv AT_ta AT_of_sl AT_of_fl AT_of_ro AT_of_nt AT_of_mk AT_of_mo AT_of_fl_c AT_of_sl_c AT_ta_sn vT_of_ng vT_of_fl_n vT_of_sl_n fT_of_sl_c fT_of_fl_c fT_bv r_38.1 r_38.2.1 vT_ta_bl vT_ta_fw r_38.2.2 fT_ft) := hD
          refine lv_iinc (v := (x3 + 1)) (lv' := [(3, .int (x3 + 1)), (0, .ref AT)]) hx hb dX0_seeSets_41 hl (k := 0) rfl rfl (by decide) rfl (fun ls hl => ?_)
          refine lv_goto (tgt := 15) hx hb dX0_seeSets_44 (by decide) ?_
          exact ih_15 (x3 + 1) fT_bv r_38.1 r_38.2.1 r_38.2.2 H locs ls hm hP hD hS (lv_sub hl [0, 1] rfl)
  unfold fm_X0_seeSets at hm
  refine q_gen hS hP ?_
  intro H locs hP hS
  refine lv_aload_n hx hb dX0_seeSets_0 rfl (lv_at hl 0 rfl) ?_
  refine lv_iload_n hx hb dX0_seeSets_1 rfl (lv_at hl 1 rfl) ?_
  refine lv_iload_n hx hb dX0_seeSets_2 rfl (lv_at hl 2 rfl) ?_
  obtain ⟨r_3, hc_3, hm⟩ := ob_s hm
  refine q_cv (q_rv (rest := []) ⟨hx, hb, hml, hown, hts⟩ hK hN hP hD (c_X0_fillBelieved l D cI cZ H.size AT AT_of AT_ft AT_bv AT_ta AT_of_sl AT_of_fl AT_of_ro AT_of_nt AT_of_mk AT_of_mo AT_of_fl_c AT_of_sl_c vT_of_ng vT_of_fl_n vT_of_sl_n fT_of_sl_c fT_of_fl_c fT_bv p1 p2 r_3 hc_3) mb_X0_fillBelieved mv_X0_fillBelieved wl_X0_56 [0, 1, 2, 3, 4, 5, 6] rfl rfl rfl (Nat.le_of_ble_eq_true rfl) (Nat.le_of_ble_eq_true rfl) rfl hl.1 rfl (Nat.le_of_ble_eq_true rfl) ⟨Nat.le_refl 0, Nat.le_refl 0⟩ dX0_seeSets_3) hP hD hS hA [0, 1, 2, 3, 4, 5, 6] rfl rfl (fun H locs hP hD hS => ?_)
  have hP : va_P D vwCl (wd_X0_seeSets cI cZ AT AT_of AT_ft AT_bv AT_ta AT_of_sl AT_of_fl AT_of_ro AT_of_nt AT_of_mk AT_of_mo AT_of_fl_c AT_of_sl_c AT_ta_sn vT_of_ng vT_of_fl_n vT_of_sl_n fT_of_sl_c fT_of_fl_c r_3 vT_ta_hi vT_ta_ms vT_ta_bl vT_ta_fw fT_ta_sn fT_ft) H := hP
  have hD : va_D A (wd_X0_seeSets cI cZ AT AT_of AT_ft AT_bv AT_ta AT_of_sl AT_of_fl AT_of_ro AT_of_nt AT_of_mk AT_of_mo AT_of_fl_c AT_of_sl_c AT_ta_sn vT_of_ng vT_of_fl_n vT_of_sl_n fT_of_sl_c fT_of_fl_c r_3 vT_ta_hi vT_ta_ms vT_ta_bl vT_ta_fw fT_ta_sn fT_ft) := hD
  refine lv_aload_n hx hb dX0_seeSets_6 rfl (lv_at hl 0 rfl) ?_
  refine gf_X0_25 (v := .ref AT_ta) hx hb hts hown hK hN hP 0 rfl rfl dX0_seeSets_7 ?_
  obtain ⟨r_10, hc_10, hm⟩ := ob_s hm
  refine q_cv (q_rv (rest := []) ⟨hx, hb, hml, hown, hts⟩ hK hN hP hD (c_X6_startLook l D cI cZ H.size AT_ta AT_ta_sn vT_ta_hi vT_ta_ms vT_ta_bl vT_ta_fw fT_ta_sn r_10 hc_10) mb_X6_startLook mv_X6_startLook wl_X0_97 [7, 8] rfl rfl rfl (Nat.le_of_ble_eq_true rfl) (Nat.le_of_ble_eq_true rfl) rfl hl.1 rfl (Nat.le_of_ble_eq_true rfl) ⟨Nat.le_refl 0, Nat.le_refl 0⟩ dX0_seeSets_10) hP hD hS hA [7, 8] rfl rfl (fun H locs hP hD hS => ?_)
  have hP : va_P D vwCl (wd_X0_seeSets cI cZ AT AT_of AT_ft AT_bv AT_ta AT_of_sl AT_of_fl AT_of_ro AT_of_nt AT_of_mk AT_of_mo AT_of_fl_c AT_of_sl_c AT_ta_sn vT_of_ng vT_of_fl_n vT_of_sl_n fT_of_sl_c fT_of_fl_c r_3 r_10.1 r_10.2.1 vT_ta_bl vT_ta_fw r_10.2.2 fT_ft) H := hP
  have hD : va_D A (wd_X0_seeSets cI cZ AT AT_of AT_ft AT_bv AT_ta AT_of_sl AT_of_fl AT_of_ro AT_of_nt AT_of_mk AT_of_mo AT_of_fl_c AT_of_sl_c AT_ta_sn vT_of_ng vT_of_fl_n vT_of_sl_n fT_of_sl_c fT_of_fl_c r_3 r_10.1 r_10.2.1 vT_ta_bl vT_ta_fw r_10.2.2 fT_ft) := hD
  refine lv_iconst (v := 0) hx hb dX0_seeSets_13 (by decide) ?_
  refine lv_istore_n (lv' := [(3, .int 0), (0, .ref AT), (1, .int p1), (2, .int p2)]) hx hb dX0_seeSets_14 rfl hl (by decide) rfl (fun ls hl => ?_)
  exact hL_15 FU 0 r_3 r_10.1 r_10.2.1 r_10.2.2 H locs ls hm hP hD hS (lv_sub hl [0, 1] rfl)
theorem gf_X6_19 {p : Program} {l : Launch} {e : Env} {R : Room} {s : State} {m : MethodId} {args : Array Value} {below : List Frame} {meth : Method} {c : Code} {H : Heap} {locs : List Loc} {cells slots : Nat} {Q : State → Prop} {pc : Nat} {ls : Array Slot} {cc : ByteArray} {D : va_G} {cI cZ : ClassId} {ws : va_W} {a : Nat} {rest fs : List Value} (hx : p.tables.exec = Jvm.exec) (hb : c.code = cc) (hts : ∀ w ∈ bg, w.before args s = true) (hown : s.vm.findClass RX6 = some m.cls) (hK : va_K D vwCl (q_tys cI cZ) s) (hN : q_N s) (hP : va_P D vwCl ws H) (q0 : Nat) (he : ws[q0]? = some (a, .inr (6, fs))) {v : Value} (hv : fs[3]? = some v) (hdg : decode cc pc = .ok (.getfield 19, 3)) (kk : W p l e R s m args below meth c H locs cells slots Q (F0 m (pc + 3) ls (v :: rest))) : W p l e R s m args below meth c H locs cells slots Q (F0 m pc ls (.ref a :: rest)) :=
  va_get (C := RX6) (T := TX6) (N := 5) hx hb hts wu_X6 hown hK hP q0 he rfl 3 (by decide) (hts _ wf_X6_19) (fun _ h9 => h9) hv hdg kk
theorem gf_X6_22 {p : Program} {l : Launch} {e : Env} {R : Room} {s : State} {m : MethodId} {args : Array Value} {below : List Frame} {meth : Method} {c : Code} {H : Heap} {locs : List Loc} {cells slots : Nat} {Q : State → Prop} {pc : Nat} {ls : Array Slot} {cc : ByteArray} {D : va_G} {cI cZ : ClassId} {ws : va_W} {a : Nat} {rest fs : List Value} (hx : p.tables.exec = Jvm.exec) (hb : c.code = cc) (hts : ∀ w ∈ bg, w.before args s = true) (hown : s.vm.findClass RX6 = some m.cls) (hK : va_K D vwCl (q_tys cI cZ) s) (hN : q_N s) (hP : va_P D vwCl ws H) (q0 : Nat) (he : ws[q0]? = some (a, .inr (6, fs))) {v : Value} (hv : fs[4]? = some v) (hdg : decode cc pc = .ok (.getfield 22, 3)) (kk : W p l e R s m args below meth c H locs cells slots Q (F0 m (pc + 3) ls (v :: rest))) : W p l e R s m args below meth c H locs cells slots Q (F0 m pc ls (.ref a :: rest)) :=
  va_get (C := RX6) (T := TX6) (N := 5) hx hb hts wu_X6 hown hK hP q0 he rfl 4 (by decide) (hts _ wf_X6_22) (fun _ h9 => h9) hv hdg kk
theorem pf_X6_19 {p : Program} {l : Launch} {e : Env} {R : Room} {s : State} {m : MethodId} {args : Array Value} {below : List Frame} {meth : Method} {c : Code} {H : Heap} {locs : List Loc} {cells slots : Nat} {Q : State → Prop} {pc : Nat} {ls : Array Slot} {cc : ByteArray} {D : va_G} {cI cZ : ClassId} {ws : va_W} {A : Nat → Prop} {a : Nat} {rest fs : List Value} {x : Int32} (hx : p.tables.exec = Jvm.exec) (hb : c.code = cc) (hts : ∀ w ∈ bg, w.before args s = true) (hown : s.vm.findClass RX6 = some m.cls) (hK : va_K D vwCl (q_tys cI cZ) s) (hN : q_N s) (hP : va_P D vwCl ws H) (hD : va_D A ws) (hS : va_S A s.heap H locs) (q0 : Nat) (he : ws[q0]? = some (a, .inr (6, fs))) (hdg : decode cc pc = .ok (.putfield 19, 3)) (kk : ∀ (H1 : Heap) (locs1 : List Loc), va_P D vwCl (ws.set q0 (a, .inr (6, fs.set 3 (.int x)))) H1 → va_D A (ws.set q0 (a, .inr (6, fs.set 3 (.int x)))) → va_S A s.heap H1 locs1 → W p l e R s m args below meth c H1 locs1 cells slots Q (F0 m (pc + 3) ls rest)) (hl : 3 < fs.length := by exact Nat.le_of_ble_eq_true rfl) : W p l e R s m args below meth c H locs cells slots Q (F0 m pc ls (.int x :: .ref a :: rest)) :=
  va_put (C := RX6) (T := TX6) (N := 5) (ty := .int) hx hb hts wu_X6 tyX6 tyX6_ok nmX6 hown hK hP hD hS q0 he rfl 3 (by decide) (hts _ wf_X6_19) (fun _ h9 => h9) rfl (by decide +kernel) rfl rfl hl hdg kk
theorem pf_X6_22 {p : Program} {l : Launch} {e : Env} {R : Room} {s : State} {m : MethodId} {args : Array Value} {below : List Frame} {meth : Method} {c : Code} {H : Heap} {locs : List Loc} {cells slots : Nat} {Q : State → Prop} {pc : Nat} {ls : Array Slot} {cc : ByteArray} {D : va_G} {cI cZ : ClassId} {ws : va_W} {A : Nat → Prop} {a : Nat} {rest fs : List Value} {x : Int32} (hx : p.tables.exec = Jvm.exec) (hb : c.code = cc) (hts : ∀ w ∈ bg, w.before args s = true) (hown : s.vm.findClass RX6 = some m.cls) (hK : va_K D vwCl (q_tys cI cZ) s) (hN : q_N s) (hP : va_P D vwCl ws H) (hD : va_D A ws) (hS : va_S A s.heap H locs) (q0 : Nat) (he : ws[q0]? = some (a, .inr (6, fs))) (hdg : decode cc pc = .ok (.putfield 22, 3)) (kk : ∀ (H1 : Heap) (locs1 : List Loc), va_P D vwCl (ws.set q0 (a, .inr (6, fs.set 4 (.int x)))) H1 → va_D A (ws.set q0 (a, .inr (6, fs.set 4 (.int x)))) → va_S A s.heap H1 locs1 → W p l e R s m args below meth c H1 locs1 cells slots Q (F0 m (pc + 3) ls rest)) (hl : 4 < fs.length := by exact Nat.le_of_ble_eq_true rfl) : W p l e R s m args below meth c H locs cells slots Q (F0 m pc ls (.int x :: .ref a :: rest)) :=
  va_put (C := RX6) (T := TX6) (N := 5) (ty := .int) hx hb hts wu_X6 tyX6 tyX6_ok nmX6 hown hK hP hD hS q0 he rfl 4 (by decide) (hts _ wf_X6_22) (fun _ h9 => h9) rfl (by decide +kernel) rfl rfl hl hdg kk
theorem mb_X6_endLook : q_mb yX6_endLook cX6_endLook 2 none 1 := ⟨wc_X6_endLook, wn_X6, by decide, by decide, by decide +kernel⟩
theorem mv_X6_endLook : q_mv yX6_endLook 6 := ⟨wi_X6_endLook, ws_X6_endLook, _, rfl, rfl⟩
def wd_X6_endLook (cI cZ : ClassId) (AT AT_sn : Nat) (vT_hi : Int32) (vT_ms : Int32) (vT_bl : Int32) (vT_fw : Int32) : va_W := [(AT, .inr (6, [.ref AT_sn, .int vT_hi, .int vT_ms, .int vT_bl, .int vT_fw]))]
def fm_X6_endLook (p1 : Int32) (vT_ms : Int32) (vT_bl : Int32) (vT_fw : Int32) : Option (Int32 × Int32) := if vT_bl = (-1) then (some (p1, vT_ms)) else (if vT_fw ≤ vT_ms then (some (vT_bl, vT_fw)) else (some (p1, vT_ms)))
set_option maxHeartbeats 4000000 in
set_option maxRecDepth 100000 in
theorem c_X6_endLook (l : Launch) (D : va_G) (cI cZ : ClassId) (sz : Nat) (AT AT_sn : Nat) (vT_hi : Int32) (vT_ms : Int32) (vT_bl : Int32) (vT_fw : Int32) (p1 : Int32) (out : (Int32 × Int32)) (hm : fm_X6_endLook p1 vT_ms vT_bl vT_fw = some out) : Met l yX6_endLook (Cond.code yX6_endLook cX6_endLook 2 none :: bg) { frames := 0, cells := 0, slots := 0, locals := 0 } (va_Pc [.ref AT, .int p1] (q_pre D cI cZ sz (wd_X6_endLook cI cZ AT AT_sn vT_hi vT_ms vT_bl vT_fw))) (q_Qv D (wd_X6_endLook cI cZ AT AT_sn vT_hi vT_ms out.1 out.2) (va_A (wd_X6_endLook cI cZ AT AT_sn vT_hi vT_ms vT_bl vT_fw) sz)) 0 0 (va_A (wd_X6_endLook cI cZ AT AT_sn vT_hi vT_ms vT_bl vT_fw) sz) := by
  refine q_met (fun A => q_Qv D (wd_X6_endLook cI cZ AT AT_sn vT_hi vT_ms out.1 out.2) A) (by decide) (Nat.le_of_ble_eq_true rfl) ?_
  intro p e s m below meth c ls A hx hb hr hml hown hts hlocks _ hA hS hP hD hK hN hl
  have hown : s.vm.findClass RX6 = some m.cls := hown
  have hl : lv_has ls 2 [(0, .ref AT), (1, .int p1)] := hl
  unfold fm_X6_endLook at hm
  refine q_gen hS hP ?_
  intro H locs hP hS
  refine lv_aload_n hx hb dX6_endLook_0 rfl (lv_at hl 0 rfl) ?_
  refine gf_X6_19 (v := .int vT_bl) hx hb hts hown hK hN hP 0 rfl rfl dX6_endLook_1 ?_
  refine lv_iconst (v := (-1)) hx hb dX6_endLook_4 (by decide) ?_
  refine lv_icmp_eq (tgt := 19) hx hb dX6_endLook_5 (by decide) (fun c_5 => ?_) (fun c_5 => ?_)
  · have hm := it_s c_5 hm
    refine lv_aload_n hx hb dX6_endLook_19 rfl (lv_at hl 0 rfl) ?_
    refine lv_iload_n hx hb dX6_endLook_20 rfl (lv_at hl 1 rfl) ?_
    refine pf_X6_19 hx hb hts hown hK hN hP hD hS 0 rfl dX6_endLook_21 (fun H locs hP hD hS => ?_)
    have hP : va_P D vwCl (wd_X6_endLook cI cZ AT AT_sn vT_hi vT_ms p1 vT_fw) H := hP
    have hD : va_D A (wd_X6_endLook cI cZ AT AT_sn vT_hi vT_ms p1 vT_fw) := hD
    refine lv_aload_n hx hb dX6_endLook_24 rfl (lv_at hl 0 rfl) ?_
    refine lv_aload_n hx hb dX6_endLook_25 rfl (lv_at hl 0 rfl) ?_
    refine gf_X6_29 (v := .int vT_ms) hx hb hts hown hK hN hP 0 rfl rfl dX6_endLook_26 ?_
    refine pf_X6_22 hx hb hts hown hK hN hP hD hS 0 rfl dX6_endLook_29 (fun H locs hP hD hS => ?_)
    have hP : va_P D vwCl (wd_X6_endLook cI cZ AT AT_sn vT_hi vT_ms p1 vT_ms) H := hP
    have hD : va_D A (wd_X6_endLook cI cZ AT AT_sn vT_hi vT_ms p1 vT_ms) := hD
    have hm := Option.some.inj hm
    subst hm
    exact q_vret hx hb hr hlocks hP hS dX6_endLook_32
  · have hm := it_n c_5 hm
    refine lv_aload_n hx hb dX6_endLook_8 rfl (lv_at hl 0 rfl) ?_
    refine gf_X6_29 (v := .int vT_ms) hx hb hts hown hK hN hP 0 rfl rfl dX6_endLook_9 ?_
    refine lv_aload_n hx hb dX6_endLook_12 rfl (lv_at hl 0 rfl) ?_
    refine gf_X6_22 (v := .int vT_fw) hx hb hts hown hK hN hP 0 rfl rfl dX6_endLook_13 ?_
    refine lv_icmp_ge (tgt := 32) hx hb dX6_endLook_16 (by decide) (fun c_16 => ?_) (fun c_16 => ?_)
    · have hm := it_s c_16 hm
      have hm := Option.some.inj hm
      subst hm
      exact q_vret hx hb hr hlocks hP hS dX6_endLook_32
    · have hm := it_n c_16 hm
      refine lv_aload_n hx hb dX6_endLook_19 rfl (lv_at hl 0 rfl) ?_
      refine lv_iload_n hx hb dX6_endLook_20 rfl (lv_at hl 1 rfl) ?_
      refine pf_X6_19 hx hb hts hown hK hN hP hD hS 0 rfl dX6_endLook_21 (fun H locs hP hD hS => ?_)
      have hP : va_P D vwCl (wd_X6_endLook cI cZ AT AT_sn vT_hi vT_ms p1 vT_fw) H := hP
      have hD : va_D A (wd_X6_endLook cI cZ AT AT_sn vT_hi vT_ms p1 vT_fw) := hD
      refine lv_aload_n hx hb dX6_endLook_24 rfl (lv_at hl 0 rfl) ?_
      refine lv_aload_n hx hb dX6_endLook_25 rfl (lv_at hl 0 rfl) ?_
      refine gf_X6_29 (v := .int vT_ms) hx hb hts hown hK hN hP 0 rfl rfl dX6_endLook_26 ?_
      refine pf_X6_22 hx hb hts hown hK hN hP hD hS 0 rfl dX6_endLook_29 (fun H locs hP hD hS => ?_)
      have hP : va_P D vwCl (wd_X6_endLook cI cZ AT AT_sn vT_hi vT_ms p1 vT_ms) H := hP
      have hD : va_D A (wd_X6_endLook cI cZ AT AT_sn vT_hi vT_ms p1 vT_ms) := hD
      have hm := Option.some.inj hm
      subst hm
      exact q_vret hx hb hr hlocks hP hS dX6_endLook_32
theorem mb_X6_startLooking : q_mb yX6_startLooking cX6_startLooking 1 none 0 := ⟨wc_X6_startLooking, wn_X6, by decide, by decide, by decide +kernel⟩
theorem mv_X6_startLooking : q_mv yX6_startLooking 6 := ⟨wi_X6_startLooking, ws_X6_startLooking, _, rfl, rfl⟩
def wd_X6_startLooking (cI cZ : ClassId) (AT AT_sn : Nat) (vT_hi : Int32) (vT_ms : Int32) (vT_bl : Int32) (vT_fw : Int32) : va_W := [(AT, .inr (6, [.ref AT_sn, .int vT_hi, .int vT_ms, .int vT_bl, .int vT_fw]))]
def fm_X6_startLooking (vT_bl : Int32) (vT_fw : Int32) : Option (Int32 × Int32) := some ((-1), 0)
set_option maxHeartbeats 4000000 in
set_option maxRecDepth 100000 in
theorem c_X6_startLooking (l : Launch) (D : va_G) (cI cZ : ClassId) (sz : Nat) (AT AT_sn : Nat) (vT_hi : Int32) (vT_ms : Int32) (vT_bl : Int32) (vT_fw : Int32) (out : (Int32 × Int32)) (hm : fm_X6_startLooking vT_bl vT_fw = some out) : Met l yX6_startLooking (Cond.code yX6_startLooking cX6_startLooking 1 none :: bg) { frames := 0, cells := 0, slots := 0, locals := 0 } (va_Pc [.ref AT] (q_pre D cI cZ sz (wd_X6_startLooking cI cZ AT AT_sn vT_hi vT_ms vT_bl vT_fw))) (q_Qv D (wd_X6_startLooking cI cZ AT AT_sn vT_hi vT_ms out.1 out.2) (va_A (wd_X6_startLooking cI cZ AT AT_sn vT_hi vT_ms vT_bl vT_fw) sz)) 0 0 (va_A (wd_X6_startLooking cI cZ AT AT_sn vT_hi vT_ms vT_bl vT_fw) sz) := by
  refine q_met (fun A => q_Qv D (wd_X6_startLooking cI cZ AT AT_sn vT_hi vT_ms out.1 out.2) A) (by decide) (Nat.le_of_ble_eq_true rfl) ?_
  intro p e s m below meth c ls A hx hb hr hml hown hts hlocks _ hA hS hP hD hK hN hl
  have hown : s.vm.findClass RX6 = some m.cls := hown
  have hl : lv_has ls 1 [(0, .ref AT)] := hl
  unfold fm_X6_startLooking at hm
  refine q_gen hS hP ?_
  intro H locs hP hS
  refine lv_aload_n hx hb dX6_startLooking_0 rfl (lv_at hl 0 rfl) ?_
  refine lv_iconst (v := (-1)) hx hb dX6_startLooking_1 (by decide) ?_
  refine pf_X6_19 hx hb hts hown hK hN hP hD hS 0 rfl dX6_startLooking_2 (fun H locs hP hD hS => ?_)
  have hP : va_P D vwCl (wd_X6_startLooking cI cZ AT AT_sn vT_hi vT_ms (-1) vT_fw) H := hP
  have hD : va_D A (wd_X6_startLooking cI cZ AT AT_sn vT_hi vT_ms (-1) vT_fw) := hD
  refine lv_aload_n hx hb dX6_startLooking_5 rfl (lv_at hl 0 rfl) ?_
  refine lv_iconst (v := 0) hx hb dX6_startLooking_6 (by decide) ?_
  refine pf_X6_22 hx hb hts hown hK hN hP hD hS 0 rfl dX6_startLooking_7 (fun H locs hP hD hS => ?_)
  have hP : va_P D vwCl (wd_X6_startLooking cI cZ AT AT_sn vT_hi vT_ms (-1) 0) H := hP
  have hD : va_D A (wd_X6_startLooking cI cZ AT AT_sn vT_hi vT_ms (-1) 0) := hD
  have hm := Option.some.inj hm
  subst hm
  exact q_vret hx hb hr hlocks hP hS dX6_startLooking_10
theorem gf_X0_93 {p : Program} {l : Launch} {e : Env} {R : Room} {s : State} {m : MethodId} {args : Array Value} {below : List Frame} {meth : Method} {c : Code} {H : Heap} {locs : List Loc} {cells slots : Nat} {Q : State → Prop} {pc : Nat} {ls : Array Slot} {cc : ByteArray} {D : va_G} {cI cZ : ClassId} {ws : va_W} {a : Nat} {rest fs : List Value} (hx : p.tables.exec = Jvm.exec) (hb : c.code = cc) (hts : ∀ w ∈ bg, w.before args s = true) (hown : s.vm.findClass RX0 = some m.cls) (hK : va_K D vwCl (q_tys cI cZ) s) (hN : q_N s) (hP : va_P D vwCl ws H) (q0 : Nat) (he : ws[q0]? = some (a, .inr (6, fs))) {v : Value} (hv : fs[3]? = some v) (hdg : decode cc pc = .ok (.getfield 93, 3)) (kk : W p l e R s m args below meth c H locs cells slots Q (F0 m (pc + 3) ls (v :: rest))) : W p l e R s m args below meth c H locs cells slots Q (F0 m pc ls (.ref a :: rest)) :=
  va_getN (C := RX6) (T := TX6) (N := 5) hx hb hts wu_X6 hown hK hP q0 he rfl 3 (by decide) ((ng_X0_93 hN).use rfl) (fun _ h9 => h9) hv hdg kk
theorem mb_X0_tellingNight : q_mb yX0_tellingNight cX0_tellingNight 3 (some .int) 1 := ⟨wc_X0_tellingNight, wn_X0, by decide, by decide, by decide +kernel⟩
theorem mv_X0_tellingNight : q_mv yX0_tellingNight 0 := ⟨wi_X0_tellingNight, ws_X0_tellingNight, _, rfl, rfl⟩
def wd_X0_tellingNight (cI cZ : ClassId) (AT AT_of AT_ft AT_bv AT_ta AT_ta_sn AT_of_sl AT_of_fl AT_of_ro AT_of_nt AT_of_mk AT_of_mo AT_of_fl_c AT_of_sl_c : Nat) (fT_ft : Nat → Int32) (vT_ta_hi : Int32) (vT_ta_ms : Int32) (vT_ta_bl : Int32) (vT_ta_fw : Int32) (vT_of_ng : Int32) (vT_of_fl_n : Int32) (vT_of_sl_n : Int32) (fT_of_sl_c : Nat → Int32) (fT_of_fl_c : Nat → Int32) (fT_bv : Nat → Int32) (fT_ta_sn : Nat → Int32) : va_W := [(AT, .inr (0, [.ref AT_of, .ref AT_ft, .ref AT_bv, .ref AT_ta])), (AT_ft, .inl (cI, 64, .inl fT_ft)), (AT_ta, .inr (6, [.ref AT_ta_sn, .int vT_ta_hi, .int vT_ta_ms, .int vT_ta_bl, .int vT_ta_fw])), (AT_of, .inr (4, [.ref AT_of_sl, .ref AT_of_fl, .ref AT_of_ro, .ref AT_of_nt, .ref AT_of_mk, .ref AT_of_mo, .int vT_of_ng])), (AT_of_fl, .inr (3, [.int 3, .ref AT_of_fl_c, .int vT_of_fl_n])), (AT_of_sl, .inr (3, [.int 4, .ref AT_of_sl_c, .int vT_of_sl_n])), (AT_of_sl_c, .inl (cI, 24, .inl fT_of_sl_c)), (AT_of_fl_c, .inl (cI, 18, .inl fT_of_fl_c)), (AT_bv, .inl (cI, 6, .inl fT_bv)), (AT_ta_sn, .inl (cI, 256, .inl fT_ta_sn))]
def fL_X0_tellingNight_18 (p1 : Int32) (fT_ft : Nat → Int32) (vT_of_fl_n : Int32) (vT_of_sl_n : Int32) (fT_of_sl_c : Nat → Int32) (fT_of_fl_c : Nat → Int32) : Nat → Int32 → Int32 → Int32 → Int32 → Int32 → (Nat → Int32) → (Nat → Int32) → Option (Int32 × Int32 × Int32 × Int32 × Int32 × (Nat → Int32) × (Nat → Int32))
  | 0, _, _, _, _, _, _, _ => none
  | fu + 1, x2, vT_ta_hi, vT_ta_ms, vT_ta_bl, vT_ta_fw, fT_bv, fT_ta_sn => if 12 ≤ x2 then (some (vT_ta_bl, vT_ta_hi, vT_ta_ms, vT_ta_bl, vT_ta_fw, fT_bv, fT_ta_sn)) else (Option.bind (fm_X0_seeSets p1 x2 vT_of_fl_n vT_of_sl_n fT_of_sl_c fT_of_fl_c fT_bv vT_ta_hi vT_ta_ms fT_ta_sn fT_ft) (fun r_27 => Option.bind (fm_X6_endLook x2 r_27.2.2.1 vT_ta_bl vT_ta_fw) (fun r_35 => fL_X0_tellingNight_18 p1 fT_ft vT_of_fl_n vT_of_sl_n fT_of_sl_c fT_of_fl_c fu (x2 + 1) r_27.2.1 r_27.2.2.1 r_35.1 r_35.2 r_27.1 r_27.2.2.2)))
def fm_X0_tellingNight (p1 : Int32) (fT_ft : Nat → Int32) (vT_ta_hi : Int32) (vT_ta_ms : Int32) (vT_ta_bl : Int32) (vT_ta_fw : Int32) (vT_of_fl_n : Int32) (vT_of_sl_n : Int32) (fT_of_sl_c : Nat → Int32) (fT_of_fl_c : Nat → Int32) (fT_bv : Nat → Int32) (fT_ta_sn : Nat → Int32) : Option (Int32 × Int32 × Int32 × Int32 × Int32 × (Nat → Int32) × (Nat → Int32)) := Option.bind (fm_X0_howManySets fT_ft) (fun r_1 => if r_1 = 0 then (some ((-1), vT_ta_hi, vT_ta_ms, vT_ta_bl, vT_ta_fw, fT_bv, fT_ta_sn)) else (Option.bind (fm_X6_startLooking vT_ta_bl vT_ta_fw) (fun r_13 => fL_X0_tellingNight_18 p1 fT_ft vT_of_fl_n vT_of_sl_n fT_of_sl_c fT_of_fl_c FU 0 vT_ta_hi vT_ta_ms r_13.1 r_13.2 fT_bv fT_ta_sn)))
set_option maxHeartbeats 4000000 in
set_option maxRecDepth 100000 in
theorem c_X0_tellingNight (l : Launch) (D : va_G) (cI cZ : ClassId) (sz : Nat) (AT AT_of AT_ft AT_bv AT_ta AT_ta_sn AT_of_sl AT_of_fl AT_of_ro AT_of_nt AT_of_mk AT_of_mo AT_of_fl_c AT_of_sl_c : Nat) (fT_ft : Nat → Int32) (vT_ta_hi : Int32) (vT_ta_ms : Int32) (vT_ta_bl : Int32) (vT_ta_fw : Int32) (vT_of_ng : Int32) (vT_of_fl_n : Int32) (vT_of_sl_n : Int32) (fT_of_sl_c : Nat → Int32) (fT_of_fl_c : Nat → Int32) (fT_bv : Nat → Int32) (fT_ta_sn : Nat → Int32) (p1 : Int32) (out : (Int32 × Int32 × Int32 × Int32 × Int32 × (Nat → Int32) × (Nat → Int32))) (hm : fm_X0_tellingNight p1 fT_ft vT_ta_hi vT_ta_ms vT_ta_bl vT_ta_fw vT_of_fl_n vT_of_sl_n fT_of_sl_c fT_of_fl_c fT_bv fT_ta_sn = some out) : Met l yX0_tellingNight (Cond.code yX0_tellingNight cX0_tellingNight 3 (some .int) :: bg) { frames := 5, cells := 0, slots := 0, locals := 116 } (va_Pc [.ref AT, .int p1] (q_pre D cI cZ sz (wd_X0_tellingNight cI cZ AT AT_of AT_ft AT_bv AT_ta AT_ta_sn AT_of_sl AT_of_fl AT_of_ro AT_of_nt AT_of_mk AT_of_mo AT_of_fl_c AT_of_sl_c fT_ft vT_ta_hi vT_ta_ms vT_ta_bl vT_ta_fw vT_of_ng vT_of_fl_n vT_of_sl_n fT_of_sl_c fT_of_fl_c fT_bv fT_ta_sn))) (q_Qi D (wd_X0_tellingNight cI cZ AT AT_of AT_ft AT_bv AT_ta AT_ta_sn AT_of_sl AT_of_fl AT_of_ro AT_of_nt AT_of_mk AT_of_mo AT_of_fl_c AT_of_sl_c fT_ft out.2.1 out.2.2.1 out.2.2.2.1 out.2.2.2.2.1 vT_of_ng vT_of_fl_n vT_of_sl_n fT_of_sl_c fT_of_fl_c out.2.2.2.2.2.1 out.2.2.2.2.2.2) out.1 (va_A (wd_X0_tellingNight cI cZ AT AT_of AT_ft AT_bv AT_ta AT_ta_sn AT_of_sl AT_of_fl AT_of_ro AT_of_nt AT_of_mk AT_of_mo AT_of_fl_c AT_of_sl_c fT_ft vT_ta_hi vT_ta_ms vT_ta_bl vT_ta_fw vT_of_ng vT_of_fl_n vT_of_sl_n fT_of_sl_c fT_of_fl_c fT_bv fT_ta_sn) sz)) 0 0 (va_A (wd_X0_tellingNight cI cZ AT AT_of AT_ft AT_bv AT_ta AT_ta_sn AT_of_sl AT_of_fl AT_of_ro AT_of_nt AT_of_mk AT_of_mo AT_of_fl_c AT_of_sl_c fT_ft vT_ta_hi vT_ta_ms vT_ta_bl vT_ta_fw vT_of_ng vT_of_fl_n vT_of_sl_n fT_of_sl_c fT_of_fl_c fT_bv fT_ta_sn) sz) := by
  refine q_met (fun A => q_Qi D (wd_X0_tellingNight cI cZ AT AT_of AT_ft AT_bv AT_ta AT_ta_sn AT_of_sl AT_of_fl AT_of_ro AT_of_nt AT_of_mk AT_of_mo AT_of_fl_c AT_of_sl_c fT_ft out.2.1 out.2.2.1 out.2.2.2.1 out.2.2.2.2.1 vT_of_ng vT_of_fl_n vT_of_sl_n fT_of_sl_c fT_of_fl_c out.2.2.2.2.2.1 out.2.2.2.2.2.2) out.1 A) (by decide) (Nat.le_of_ble_eq_true rfl) ?_
  intro p e s m below meth c ls A hx hb hr hml hown hts hlocks _ hA hS hP hD hK hN hl
  have hown : s.vm.findClass RX0 = some m.cls := hown
  have hl : lv_has ls 3 [(0, .ref AT), (1, .int p1)] := hl
  have hL_18 : ∀ (fu_18 : Nat) (x2 : Int32) (vT_ta_hi : Int32) (vT_ta_ms : Int32) (vT_ta_bl : Int32) (vT_ta_fw : Int32) (fT_bv : Nat → Int32) (fT_ta_sn : Nat → Int32) (H : Heap) (locs : List Loc) (ls : Array Slot), fL_X0_tellingNight_18 p1 fT_ft vT_of_fl_n vT_of_sl_n fT_of_sl_c fT_of_fl_c fu_18 x2 vT_ta_hi vT_ta_ms vT_ta_bl vT_ta_fw fT_bv fT_ta_sn = some out → va_P D vwCl (wd_X0_tellingNight cI cZ AT AT_of AT_ft AT_bv AT_ta AT_ta_sn AT_of_sl AT_of_fl AT_of_ro AT_of_nt AT_of_mk AT_of_mo AT_of_fl_c AT_of_sl_c fT_ft vT_ta_hi vT_ta_ms vT_ta_bl vT_ta_fw vT_of_ng vT_of_fl_n vT_of_sl_n fT_of_sl_c fT_of_fl_c fT_bv fT_ta_sn) H → va_D A (wd_X0_tellingNight cI cZ AT AT_of AT_ft AT_bv AT_ta AT_ta_sn AT_of_sl AT_of_fl AT_of_ro AT_of_nt AT_of_mk AT_of_mo AT_of_fl_c AT_of_sl_c fT_ft vT_ta_hi vT_ta_ms vT_ta_bl vT_ta_fw vT_of_ng vT_of_fl_n vT_of_sl_n fT_of_sl_c fT_of_fl_c fT_bv fT_ta_sn) → va_S A s.heap H locs → lv_has ls 3 [(2, .int x2), (0, .ref AT), (1, .int p1)] → W p l e { frames := 5, cells := 0, slots := 0, locals := 116 } s m ([.ref AT, .int p1] : List Value).toArray below meth c H locs 0 0 (MQ below (q_Qi D (wd_X0_tellingNight cI cZ AT AT_of AT_ft AT_bv AT_ta AT_ta_sn AT_of_sl AT_of_fl AT_of_ro AT_of_nt AT_of_mk AT_of_mo AT_of_fl_c AT_of_sl_c fT_ft out.2.1 out.2.2.1 out.2.2.2.1 out.2.2.2.2.1 vT_of_ng vT_of_fl_n vT_of_sl_n fT_of_sl_c fT_of_fl_c out.2.2.2.2.2.1 out.2.2.2.2.2.2) out.1 A) ([.ref AT, .int p1] : List Value).toArray s 0 0 A) (F0 m 18 ls []) := by
    intro fu_18
    induction fu_18 with
    | zero => intro x2 vT_ta_hi vT_ta_ms vT_ta_bl vT_ta_fw fT_bv fT_ta_sn H locs ls hm hP hD hS hl; exact absurd (show (none : Option (Int32 × Int32 × Int32 × Int32 × Int32 × (Nat → Int32) × (Nat → Int32))) = some out from hm) (fun h => nomatch h)
    | succ fu_18 ih_18 =>
      intro x2 vT_ta_hi vT_ta_ms vT_ta_bl vT_ta_fw fT_bv fT_ta_sn H locs ls hm hP hD hS hl
      rw [fL_X0_tellingNight_18] at hm
      refine lv_iload_n hx hb dX0_tellingNight_18 rfl (lv_at hl 0 rfl) ?_
      refine lv_bipush (v := 12) hx hb dX0_tellingNight_19 (by decide) ?_
      refine lv_icmp_ge (tgt := 44) hx hb dX0_tellingNight_21 (by decide) (fun c_21 => ?_) (fun c_21 => ?_)
      · have hm := it_s c_21 hm
        refine lv_aload_n hx hb dX0_tellingNight_44 rfl (lv_at hl 1 rfl) ?_
        refine gf_X0_25 (v := .ref AT_ta) hx hb hts hown hK hN hP 0 rfl rfl dX0_tellingNight_45 ?_
        refine gf_X0_93 (v := .int vT_ta_bl) hx hb hts hown hK hN hP 2 rfl rfl dX0_tellingNight_48 ?_
        have hm := Option.some.inj hm
        subst hm
        exact q_iret (v := vT_ta_bl) hx hb hr hlocks hP hS dX0_tellingNight_51
      · have hm := it_n c_21 hm
        refine lv_aload_n hx hb dX0_tellingNight_24 rfl (lv_at hl 1 rfl) ?_
        refine lv_iload_n hx hb dX0_tellingNight_25 rfl (lv_at hl 2 rfl) ?_
        refine lv_iload_n hx hb dX0_tellingNight_26 rfl (lv_at hl 0 rfl) ?_
        obtain ⟨r_27, hc_27, hm⟩ := ob_s hm
        refine q_cv (q_rv (rest := []) ⟨hx, hb, hml, hown, hts⟩ hK hN hP hD (c_X0_seeSets l D cI cZ H.size AT AT_of AT_ft AT_bv AT_ta AT_of_sl AT_of_fl AT_of_ro AT_of_nt AT_of_mk AT_of_mo AT_of_fl_c AT_of_sl_c AT_ta_sn vT_of_ng vT_of_fl_n vT_of_sl_n fT_of_sl_c fT_of_fl_c fT_bv vT_ta_hi vT_ta_ms vT_ta_bl vT_ta_fw fT_ta_sn fT_ft p1 x2 r_27 hc_27) mb_X0_seeSets mv_X0_seeSets wl_X0_86 [0, 3, 4, 5, 6, 7, 8, 2, 9, 1] rfl rfl rfl (Nat.le_of_ble_eq_true rfl) (Nat.le_of_ble_eq_true rfl) rfl hl.1 rfl (Nat.le_of_ble_eq_true rfl) ⟨Nat.le_refl 0, Nat.le_refl 0⟩ dX0_tellingNight_27) hP hD hS hA [0, 3, 4, 5, 6, 7, 8, 2, 9, 1] rfl rfl (fun H locs hP hD hS => ?_)
        have hP : va_P D vwCl (wd_X0_tellingNight cI cZ AT AT_of AT_ft AT_bv AT_ta AT_ta_sn AT_of_sl AT_of_fl AT_of_ro AT_of_nt AT_of_mk AT_of_mo AT_of_fl_c AT_of_sl_c fT_ft r_27.2.1 r_27.2.2.1 vT_ta_bl vT_ta_fw vT_of_ng vT_of_fl_n vT_of_sl_n fT_of_sl_c fT_of_fl_c r_27.1 r_27.2.2.2) H := hP
        have hD : va_D A (wd_X0_tellingNight cI cZ AT AT_of AT_ft AT_bv AT_ta AT_ta_sn AT_of_sl AT_of_fl AT_of_ro AT_of_nt AT_of_mk AT_of_mo AT_of_fl_c AT_of_sl_c fT_ft r_27.2.1 r_27.2.2.1 vT_ta_bl vT_ta_fw vT_of_ng vT_of_fl_n vT_of_sl_n fT_of_sl_c fT_of_fl_c r_27.1 r_27.2.2.2) := hD
        refine lv_aload_n hx hb dX0_tellingNight_30 rfl (lv_at hl 1 rfl) ?_
        refine gf_X0_25 (v := .ref AT_ta) hx hb hts hown hK hN hP 0 rfl rfl dX0_tellingNight_31 ?_
        refine lv_iload_n hx hb dX0_tellingNight_34 rfl (lv_at hl 0 rfl) ?_
        obtain ⟨r_35, hc_35, hm⟩ := ob_s hm
        refine q_cv (q_rv (rest := []) ⟨hx, hb, hml, hown, hts⟩ hK hN hP hD (c_X6_endLook l D cI cZ H.size AT_ta AT_ta_sn r_27.2.1 r_27.2.2.1 vT_ta_bl vT_ta_fw x2 r_35 hc_35) mb_X6_endLook mv_X6_endLook wl_X0_89 [2] rfl rfl rfl (Nat.le_of_ble_eq_true rfl) (Nat.le_of_ble_eq_true rfl) rfl hl.1 rfl (Nat.le_of_ble_eq_true rfl) ⟨Nat.le_refl 0, Nat.le_refl 0⟩ dX0_tellingNight_35) hP hD hS hA [2] rfl rfl (fun H locs hP hD hS => ?_)
        have hP : va_P D vwCl (wd_X0_tellingNight cI cZ AT AT_of AT_ft AT_bv AT_ta AT_ta_sn AT_of_sl AT_of_fl AT_of_ro AT_of_nt AT_of_mk AT_of_mo AT_of_fl_c AT_of_sl_c fT_ft r_27.2.1 r_27.2.2.1 r_35.1 r_35.2 vT_of_ng vT_of_fl_n vT_of_sl_n fT_of_sl_c fT_of_fl_c r_27.1 r_27.2.2.2) H := hP
        have hD : va_D A (wd_X0_tellingNight cI cZ AT AT_of AT_ft AT_bv AT_ta AT_ta_sn AT_of_sl AT_of_fl AT_of_ro AT_of_nt AT_of_mk AT_of_mo AT_of_fl_c AT_of_sl_c fT_ft r_27.2.1 r_27.2.2.1 r_35.1 r_35.2 vT_of_ng vT_of_fl_n vT_of_sl_n fT_of_sl_c fT_of_fl_c r_27.1 r_27.2.2.2) := hD
        refine lv_iinc (v := (x2 + 1)) (lv' := [(2, .int (x2 + 1)), (0, .ref AT), (1, .int p1)]) hx hb dX0_tellingNight_38 hl (k := 0) rfl rfl (by decide) rfl (fun ls hl => ?_)
        refine lv_goto (tgt := 18) hx hb dX0_tellingNight_41 (by decide) ?_
        exact ih_18 (x2 + 1) r_27.2.1 r_27.2.2.1 r_35.1 r_35.2 r_27.1 r_27.2.2.2 H locs ls hm hP hD hS (lv_sub hl [0, 1, 2] rfl)
  unfold fm_X0_tellingNight at hm
  refine q_gen hS hP ?_
  intro H locs hP hS
  refine lv_aload_n hx hb dX0_tellingNight_0 rfl (lv_at hl 0 rfl) ?_
  obtain ⟨r_1, hc_1, hm⟩ := ob_s hm
  refine q_ci (q_rv (rest := []) ⟨hx, hb, hml, hown, hts⟩ hK hN hP hD (c_X0_howManySets l D cI cZ H.size AT AT_of AT_ft AT_bv AT_ta fT_ft r_1 hc_1) mb_X0_howManySets mv_X0_howManySets wl_X0_76 [0, 1] rfl rfl rfl (Nat.le_of_ble_eq_true rfl) (Nat.le_of_ble_eq_true rfl) rfl hl.1 rfl (Nat.le_of_ble_eq_true rfl) ⟨Nat.le_refl 0, Nat.le_refl 0⟩ dX0_tellingNight_1) hP hD hS hA [0, 1] rfl rfl (fun H locs hP hD hS => ?_)
  have hP : va_P D vwCl (wd_X0_tellingNight cI cZ AT AT_of AT_ft AT_bv AT_ta AT_ta_sn AT_of_sl AT_of_fl AT_of_ro AT_of_nt AT_of_mk AT_of_mo AT_of_fl_c AT_of_sl_c fT_ft vT_ta_hi vT_ta_ms vT_ta_bl vT_ta_fw vT_of_ng vT_of_fl_n vT_of_sl_n fT_of_sl_c fT_of_fl_c fT_bv fT_ta_sn) H := hP
  have hD : va_D A (wd_X0_tellingNight cI cZ AT AT_of AT_ft AT_bv AT_ta AT_ta_sn AT_of_sl AT_of_fl AT_of_ro AT_of_nt AT_of_mk AT_of_mo AT_of_fl_c AT_of_sl_c fT_ft vT_ta_hi vT_ta_ms vT_ta_bl vT_ta_fw vT_of_ng vT_of_fl_n vT_of_sl_n fT_of_sl_c fT_of_fl_c fT_bv fT_ta_sn) := hD
  refine lv_if_ne (tgt := 9) hx hb dX0_tellingNight_4 (by decide) (fun c_4 => ?_) (fun c_4 => ?_)
  · have hm := it_n c_4 hm
    refine lv_aload_n hx hb dX0_tellingNight_9 rfl (lv_at hl 0 rfl) ?_
    refine gf_X0_25 (v := .ref AT_ta) hx hb hts hown hK hN hP 0 rfl rfl dX0_tellingNight_10 ?_
    obtain ⟨r_13, hc_13, hm⟩ := ob_s hm
    refine q_cv (q_rv (rest := []) ⟨hx, hb, hml, hown, hts⟩ hK hN hP hD (c_X6_startLooking l D cI cZ H.size AT_ta AT_ta_sn vT_ta_hi vT_ta_ms vT_ta_bl vT_ta_fw r_13 hc_13) mb_X6_startLooking mv_X6_startLooking wl_X0_83 [2] rfl rfl rfl (Nat.le_of_ble_eq_true rfl) (Nat.le_of_ble_eq_true rfl) rfl hl.1 rfl (Nat.le_of_ble_eq_true rfl) ⟨Nat.le_refl 0, Nat.le_refl 0⟩ dX0_tellingNight_13) hP hD hS hA [2] rfl rfl (fun H locs hP hD hS => ?_)
    have hP : va_P D vwCl (wd_X0_tellingNight cI cZ AT AT_of AT_ft AT_bv AT_ta AT_ta_sn AT_of_sl AT_of_fl AT_of_ro AT_of_nt AT_of_mk AT_of_mo AT_of_fl_c AT_of_sl_c fT_ft vT_ta_hi vT_ta_ms r_13.1 r_13.2 vT_of_ng vT_of_fl_n vT_of_sl_n fT_of_sl_c fT_of_fl_c fT_bv fT_ta_sn) H := hP
    have hD : va_D A (wd_X0_tellingNight cI cZ AT AT_of AT_ft AT_bv AT_ta AT_ta_sn AT_of_sl AT_of_fl AT_of_ro AT_of_nt AT_of_mk AT_of_mo AT_of_fl_c AT_of_sl_c fT_ft vT_ta_hi vT_ta_ms r_13.1 r_13.2 vT_of_ng vT_of_fl_n vT_of_sl_n fT_of_sl_c fT_of_fl_c fT_bv fT_ta_sn) := hD
    refine lv_iconst (v := 0) hx hb dX0_tellingNight_16 (by decide) ?_
    refine lv_istore_n (lv' := [(2, .int 0), (0, .ref AT), (1, .int p1)]) hx hb dX0_tellingNight_17 rfl hl (by decide) rfl (fun ls hl => ?_)
    exact hL_18 FU 0 vT_ta_hi vT_ta_ms r_13.1 r_13.2 fT_bv fT_ta_sn H locs ls hm hP hD hS (lv_sub hl [0, 1, 2] rfl)
  · have hm := it_s c_4 hm
    refine lv_iconst (v := (-1)) hx hb dX0_tellingNight_7 (by decide) ?_
    have hm := Option.some.inj hm
    subst hm
    exact q_iret (v := (-1)) hx hb hr hlocks hP hS dX0_tellingNight_8
theorem gf_X0_106 {p : Program} {l : Launch} {e : Env} {R : Room} {s : State} {m : MethodId} {args : Array Value} {below : List Frame} {meth : Method} {c : Code} {H : Heap} {locs : List Loc} {cells slots : Nat} {Q : State → Prop} {pc : Nat} {ls : Array Slot} {cc : ByteArray} {D : va_G} {cI cZ : ClassId} {ws : va_W} {a : Nat} {rest fs : List Value} (hx : p.tables.exec = Jvm.exec) (hb : c.code = cc) (hts : ∀ w ∈ bg, w.before args s = true) (hown : s.vm.findClass RX0 = some m.cls) (hK : va_K D vwCl (q_tys cI cZ) s) (hN : q_N s) (hP : va_P D vwCl ws H) (q0 : Nat) (he : ws[q0]? = some (a, .inr (4, fs))) {v : Value} (hv : fs[3]? = some v) (hdg : decode cc pc = .ok (.getfield 106, 3)) (kk : W p l e R s m args below meth c H locs cells slots Q (F0 m (pc + 3) ls (v :: rest))) : W p l e R s m args below meth c H locs cells slots Q (F0 m pc ls (.ref a :: rest)) :=
  va_getN (C := RX4) (T := TX4) (N := 7) hx hb hts wu_X4 hown hK hP q0 he rfl 3 (by decide) ((ng_X0_106 hN).use rfl) (fun _ h9 => h9) hv hdg kk
theorem mb_X0_agreesWithNotes : q_mb yX0_agreesWithNotes cX0_agreesWithNotes 6 (some .boolean) 2 := ⟨wc_X0_agreesWithNotes, wn_X0, by decide, by decide, by decide +kernel⟩
theorem mv_X0_agreesWithNotes : q_mv yX0_agreesWithNotes 0 := ⟨wi_X0_agreesWithNotes, ws_X0_agreesWithNotes, _, rfl, rfl⟩
def wd_X0_agreesWithNotes (cI cZ : ClassId) (AT AT_of AT_ft AT_bv AT_ta AT_of_sl AT_of_fl AT_of_ro AT_of_nt AT_of_mk AT_of_mo AT_of_nt_c : Nat) (vT_of_ng : Int32) (vT_of_nt_n : Int32) (fT_of_nt_c : Nat → Int32) : va_W := [(AT, .inr (0, [.ref AT_of, .ref AT_ft, .ref AT_bv, .ref AT_ta])), (AT_of, .inr (4, [.ref AT_of_sl, .ref AT_of_fl, .ref AT_of_ro, .ref AT_of_nt, .ref AT_of_mk, .ref AT_of_mo, .int vT_of_ng])), (AT_of_nt, .inr (3, [.int 4, .ref AT_of_nt_c, .int vT_of_nt_n])), (AT_of_nt_c, .inl (cI, 24, .inl fT_of_nt_c))]
def fL_X0_agreesWithNotes_11 (p1 : Int32) (p2 : Int32) (vT_of_nt_n : Int32) (fT_of_nt_c : Nat → Int32) : Nat → Int32 → Option (Int32)
  | 0, _ => none
  | fu + 1, x4 => Option.bind (fm_X3_size vT_of_nt_n) (fun r_14 => if r_14 ≤ x4 then (some (1)) else (Option.bind (fm_X3_cell 4 24 x4 1 vT_of_nt_n fT_of_nt_c) (fun r_25 => Option.bind (fm_X3_cell 4 24 x4 2 vT_of_nt_n fT_of_nt_c) (fun r_32 => Option.bind (fm_X7_loudness p2 r_25 r_32) (fun r_35 => Option.bind (fm_X3_cell 4 24 x4 0 vT_of_nt_n fT_of_nt_c) (fun r_44 => if r_44 = p1 then (Option.bind (fm_X3_cell 4 24 x4 3 vT_of_nt_n fT_of_nt_c) (fun r_57 => if r_35 = r_57 then (fL_X0_agreesWithNotes_11 p1 p2 vT_of_nt_n fT_of_nt_c fu (x4 + 1)) else (some (0)))) else (fL_X0_agreesWithNotes_11 p1 p2 vT_of_nt_n fT_of_nt_c fu (x4 + 1))))))))
def fm_X0_agreesWithNotes (p1 : Int32) (p2 : Int32) (vT_of_nt_n : Int32) (fT_of_nt_c : Nat → Int32) : Option (Int32) := fL_X0_agreesWithNotes_11 p1 p2 vT_of_nt_n fT_of_nt_c FU 0
set_option maxHeartbeats 4000000 in
set_option maxRecDepth 100000 in
theorem c_X0_agreesWithNotes (l : Launch) (D : va_G) (cI cZ : ClassId) (sz : Nat) (AT AT_of AT_ft AT_bv AT_ta AT_of_sl AT_of_fl AT_of_ro AT_of_nt AT_of_mk AT_of_mo AT_of_nt_c : Nat) (vT_of_ng : Int32) (vT_of_nt_n : Int32) (fT_of_nt_c : Nat → Int32) (p1 : Int32) (p2 : Int32) (out : (Int32)) (hm : fm_X0_agreesWithNotes p1 p2 vT_of_nt_n fT_of_nt_c = some out) : Met l yX0_agreesWithNotes (Cond.code yX0_agreesWithNotes cX0_agreesWithNotes 6 (some .boolean) :: bg) { frames := 1, cells := 0, slots := 0, locals := 25 } (va_Pc [.ref AT, .int p1, .int p2] (q_pre D cI cZ sz (wd_X0_agreesWithNotes cI cZ AT AT_of AT_ft AT_bv AT_ta AT_of_sl AT_of_fl AT_of_ro AT_of_nt AT_of_mk AT_of_mo AT_of_nt_c vT_of_ng vT_of_nt_n fT_of_nt_c))) (q_Qi D (wd_X0_agreesWithNotes cI cZ AT AT_of AT_ft AT_bv AT_ta AT_of_sl AT_of_fl AT_of_ro AT_of_nt AT_of_mk AT_of_mo AT_of_nt_c vT_of_ng vT_of_nt_n fT_of_nt_c) out (va_A (wd_X0_agreesWithNotes cI cZ AT AT_of AT_ft AT_bv AT_ta AT_of_sl AT_of_fl AT_of_ro AT_of_nt AT_of_mk AT_of_mo AT_of_nt_c vT_of_ng vT_of_nt_n fT_of_nt_c) sz)) 0 0 (va_A (wd_X0_agreesWithNotes cI cZ AT AT_of AT_ft AT_bv AT_ta AT_of_sl AT_of_fl AT_of_ro AT_of_nt AT_of_mk AT_of_mo AT_of_nt_c vT_of_ng vT_of_nt_n fT_of_nt_c) sz) := by
  refine q_met (fun A => q_Qi D (wd_X0_agreesWithNotes cI cZ AT AT_of AT_ft AT_bv AT_ta AT_of_sl AT_of_fl AT_of_ro AT_of_nt AT_of_mk AT_of_mo AT_of_nt_c vT_of_ng vT_of_nt_n fT_of_nt_c) out A) (by decide) (Nat.le_of_ble_eq_true rfl) ?_
  intro p e s m below meth c ls A hx hb hr hml hown hts hlocks _ hA hS hP hD hK hN hl
  have hown : s.vm.findClass RX0 = some m.cls := hown
  have hl : lv_has ls 6 [(0, .ref AT), (1, .int p1), (2, .int p2)] := hl
  have hL_11 : ∀ (fu_11 : Nat) (x4 : Int32) (H : Heap) (locs : List Loc) (ls : Array Slot), fL_X0_agreesWithNotes_11 p1 p2 vT_of_nt_n fT_of_nt_c fu_11 x4 = some out → va_P D vwCl (wd_X0_agreesWithNotes cI cZ AT AT_of AT_ft AT_bv AT_ta AT_of_sl AT_of_fl AT_of_ro AT_of_nt AT_of_mk AT_of_mo AT_of_nt_c vT_of_ng vT_of_nt_n fT_of_nt_c) H → va_D A (wd_X0_agreesWithNotes cI cZ AT AT_of AT_ft AT_bv AT_ta AT_of_sl AT_of_fl AT_of_ro AT_of_nt AT_of_mk AT_of_mo AT_of_nt_c vT_of_ng vT_of_nt_n fT_of_nt_c) → va_S A s.heap H locs → lv_has ls 6 [(4, .int x4), (3, .ref AT_of_nt), (1, .int p1), (2, .int p2)] → W p l e { frames := 1, cells := 0, slots := 0, locals := 25 } s m ([.ref AT, .int p1, .int p2] : List Value).toArray below meth c H locs 0 0 (MQ below (q_Qi D (wd_X0_agreesWithNotes cI cZ AT AT_of AT_ft AT_bv AT_ta AT_of_sl AT_of_fl AT_of_ro AT_of_nt AT_of_mk AT_of_mo AT_of_nt_c vT_of_ng vT_of_nt_n fT_of_nt_c) out A) ([.ref AT, .int p1, .int p2] : List Value).toArray s 0 0 A) (F0 m 11 ls []) := by
    intro fu_11
    induction fu_11 with
    | zero => intro x4 H locs ls hm hP hD hS hl; exact absurd (show (none : Option (Int32)) = some out from hm) (fun h => nomatch h)
    | succ fu_11 ih_11 =>
      intro x4 H locs ls hm hP hD hS hl
      rw [fL_X0_agreesWithNotes_11] at hm
      refine lv_iload hx hb dX0_agreesWithNotes_11 (lv_at hl 0 rfl) ?_
      refine lv_aload_n hx hb dX0_agreesWithNotes_13 rfl (lv_at hl 1 rfl) ?_
      obtain ⟨r_14, hc_14, hm⟩ := ob_s hm
      refine q_ci (q_rv (rest := [.int x4]) ⟨hx, hb, hml, hown, hts⟩ hK hN hP hD (c_X3_size l D cI cZ H.size AT_of_nt AT_of_nt_c 4 vT_of_nt_n r_14 hc_14) mb_X3_size mv_X3_size wl_X0_35 [2] rfl rfl rfl (Nat.le_of_ble_eq_true rfl) (Nat.le_of_ble_eq_true rfl) rfl hl.1 rfl (Nat.le_of_ble_eq_true rfl) ⟨Nat.le_refl 0, Nat.le_refl 0⟩ dX0_agreesWithNotes_14) hP hD hS hA [2] rfl rfl (fun H locs hP hD hS => ?_)
      have hP : va_P D vwCl (wd_X0_agreesWithNotes cI cZ AT AT_of AT_ft AT_bv AT_ta AT_of_sl AT_of_fl AT_of_ro AT_of_nt AT_of_mk AT_of_mo AT_of_nt_c vT_of_ng vT_of_nt_n fT_of_nt_c) H := hP
      have hD : va_D A (wd_X0_agreesWithNotes cI cZ AT AT_of AT_ft AT_bv AT_ta AT_of_sl AT_of_fl AT_of_ro AT_of_nt AT_of_mk AT_of_mo AT_of_nt_c vT_of_ng vT_of_nt_n fT_of_nt_c) := hD
      refine lv_icmp_ge (tgt := 71) hx hb dX0_agreesWithNotes_17 (by decide) (fun c_17 => ?_) (fun c_17 => ?_)
      · have hm := it_s c_17 hm
        refine lv_iconst (v := 1) hx hb dX0_agreesWithNotes_71 (by decide) ?_
        have hm := Option.some.inj hm
        subst hm
        exact q_zret (v := 1) hx hb hr hlocks rfl hP hS dX0_agreesWithNotes_72
      · have hm := it_n c_17 hm
        refine lv_iload_n hx hb dX0_agreesWithNotes_20 rfl (lv_at hl 3 rfl) ?_
        refine lv_aload_n hx hb dX0_agreesWithNotes_21 rfl (lv_at hl 1 rfl) ?_
        refine lv_iload hx hb dX0_agreesWithNotes_22 (lv_at hl 0 rfl) ?_
        refine lv_iconst (v := 1) hx hb dX0_agreesWithNotes_24 (by decide) ?_
        obtain ⟨r_25, hc_25, hm⟩ := ob_s hm
        refine q_ci (q_rv (rest := [.int p2]) ⟨hx, hb, hml, hown, hts⟩ hK hN hP hD (c_X3_cell l D cI cZ H.size AT_of_nt AT_of_nt_c 4 24 vT_of_nt_n fT_of_nt_c x4 1 r_25 hc_25) mb_X3_cell mv_X3_cell wl_X0_48 [2, 3] rfl rfl rfl (Nat.le_of_ble_eq_true rfl) (Nat.le_of_ble_eq_true rfl) rfl hl.1 rfl (Nat.le_of_ble_eq_true rfl) ⟨Nat.le_refl 0, Nat.le_refl 0⟩ dX0_agreesWithNotes_25) hP hD hS hA [2, 3] rfl rfl (fun H locs hP hD hS => ?_)
        have hP : va_P D vwCl (wd_X0_agreesWithNotes cI cZ AT AT_of AT_ft AT_bv AT_ta AT_of_sl AT_of_fl AT_of_ro AT_of_nt AT_of_mk AT_of_mo AT_of_nt_c vT_of_ng vT_of_nt_n fT_of_nt_c) H := hP
        have hD : va_D A (wd_X0_agreesWithNotes cI cZ AT AT_of AT_ft AT_bv AT_ta AT_of_sl AT_of_fl AT_of_ro AT_of_nt AT_of_mk AT_of_mo AT_of_nt_c vT_of_ng vT_of_nt_n fT_of_nt_c) := hD
        refine lv_aload_n hx hb dX0_agreesWithNotes_28 rfl (lv_at hl 1 rfl) ?_
        refine lv_iload hx hb dX0_agreesWithNotes_29 (lv_at hl 0 rfl) ?_
        refine lv_iconst (v := 2) hx hb dX0_agreesWithNotes_31 (by decide) ?_
        obtain ⟨r_32, hc_32, hm⟩ := ob_s hm
        refine q_ci (q_rv (rest := [.int r_25, .int p2]) ⟨hx, hb, hml, hown, hts⟩ hK hN hP hD (c_X3_cell l D cI cZ H.size AT_of_nt AT_of_nt_c 4 24 vT_of_nt_n fT_of_nt_c x4 2 r_32 hc_32) mb_X3_cell mv_X3_cell wl_X0_48 [2, 3] rfl rfl rfl (Nat.le_of_ble_eq_true rfl) (Nat.le_of_ble_eq_true rfl) rfl hl.1 rfl (Nat.le_of_ble_eq_true rfl) ⟨Nat.le_refl 0, Nat.le_refl 0⟩ dX0_agreesWithNotes_32) hP hD hS hA [2, 3] rfl rfl (fun H locs hP hD hS => ?_)
        have hP : va_P D vwCl (wd_X0_agreesWithNotes cI cZ AT AT_of AT_ft AT_bv AT_ta AT_of_sl AT_of_fl AT_of_ro AT_of_nt AT_of_mk AT_of_mo AT_of_nt_c vT_of_ng vT_of_nt_n fT_of_nt_c) H := hP
        have hD : va_D A (wd_X0_agreesWithNotes cI cZ AT AT_of AT_ft AT_bv AT_ta AT_of_sl AT_of_fl AT_of_ro AT_of_nt AT_of_mk AT_of_mo AT_of_nt_c vT_of_ng vT_of_nt_n fT_of_nt_c) := hD
        obtain ⟨r_35, hc_35, hm⟩ := ob_s hm
        refine q_ci (q_rn (rest := []) ⟨hx, hb, hml, hown, hts⟩ hK hN hP hD (c_X7_loudness l D cI cZ H.size p2 r_25 r_32 r_35 hc_35) mb_X7_loudness wt_X7_loudness (nl_X0_109 hN) [] rfl rfl (Nat.le_of_ble_eq_true rfl) (Nat.le_of_ble_eq_true rfl) rfl hl.1 rfl (Nat.le_of_ble_eq_true rfl) ⟨Nat.le_refl 0, Nat.le_refl 0⟩ dX0_agreesWithNotes_35) hP hD hS hA [] rfl rfl (fun H locs hP hD hS => ?_)
        have hP : va_P D vwCl (wd_X0_agreesWithNotes cI cZ AT AT_of AT_ft AT_bv AT_ta AT_of_sl AT_of_fl AT_of_ro AT_of_nt AT_of_mk AT_of_mo AT_of_nt_c vT_of_ng vT_of_nt_n fT_of_nt_c) H := hP
        have hD : va_D A (wd_X0_agreesWithNotes cI cZ AT AT_of AT_ft AT_bv AT_ta AT_of_sl AT_of_fl AT_of_ro AT_of_nt AT_of_mk AT_of_mo AT_of_nt_c vT_of_ng vT_of_nt_n fT_of_nt_c) := hD
        refine lv_istore (lv' := [(5, .int r_35), (4, .int x4), (3, .ref AT_of_nt), (1, .int p1), (2, .int p2)]) hx hb dX0_agreesWithNotes_38 hl (by decide) rfl (fun ls hl => ?_)
        refine lv_aload_n hx hb dX0_agreesWithNotes_40 rfl (lv_at hl 2 rfl) ?_
        refine lv_iload hx hb dX0_agreesWithNotes_41 (lv_at hl 1 rfl) ?_
        refine lv_iconst (v := 0) hx hb dX0_agreesWithNotes_43 (by decide) ?_
        obtain ⟨r_44, hc_44, hm⟩ := ob_s hm
        refine q_ci (q_rv (rest := []) ⟨hx, hb, hml, hown, hts⟩ hK hN hP hD (c_X3_cell l D cI cZ H.size AT_of_nt AT_of_nt_c 4 24 vT_of_nt_n fT_of_nt_c x4 0 r_44 hc_44) mb_X3_cell mv_X3_cell wl_X0_48 [2, 3] rfl rfl rfl (Nat.le_of_ble_eq_true rfl) (Nat.le_of_ble_eq_true rfl) rfl hl.1 rfl (Nat.le_of_ble_eq_true rfl) ⟨Nat.le_refl 0, Nat.le_refl 0⟩ dX0_agreesWithNotes_44) hP hD hS hA [2, 3] rfl rfl (fun H locs hP hD hS => ?_)
        have hP : va_P D vwCl (wd_X0_agreesWithNotes cI cZ AT AT_of AT_ft AT_bv AT_ta AT_of_sl AT_of_fl AT_of_ro AT_of_nt AT_of_mk AT_of_mo AT_of_nt_c vT_of_ng vT_of_nt_n fT_of_nt_c) H := hP
        have hD : va_D A (wd_X0_agreesWithNotes cI cZ AT AT_of AT_ft AT_bv AT_ta AT_of_sl AT_of_fl AT_of_ro AT_of_nt AT_of_mk AT_of_mo AT_of_nt_c vT_of_ng vT_of_nt_n fT_of_nt_c) := hD
        refine lv_iload_n hx hb dX0_agreesWithNotes_47 rfl (lv_at hl 3 rfl) ?_
        refine lv_icmp_ne (tgt := 65) hx hb dX0_agreesWithNotes_48 (by decide) (fun c_48 => ?_) (fun c_48 => ?_)
        · have hm := it_n c_48 hm
          refine lv_iinc (v := (x4 + 1)) (lv' := [(4, .int (x4 + 1)), (5, .int r_35), (3, .ref AT_of_nt), (1, .int p1), (2, .int p2)]) hx hb dX0_agreesWithNotes_65 hl (k := 1) rfl rfl (by decide) rfl (fun ls hl => ?_)
          refine lv_goto (tgt := 11) hx hb dX0_agreesWithNotes_68 (by decide) ?_
          exact ih_11 (x4 + 1) H locs ls hm hP hD hS (lv_sub hl [0, 2, 3, 4] rfl)
        · have hm := it_s c_48 hm
          refine lv_iload hx hb dX0_agreesWithNotes_51 (lv_at hl 0 rfl) ?_
          refine lv_aload_n hx hb dX0_agreesWithNotes_53 rfl (lv_at hl 2 rfl) ?_
          refine lv_iload hx hb dX0_agreesWithNotes_54 (lv_at hl 1 rfl) ?_
          refine lv_iconst (v := 3) hx hb dX0_agreesWithNotes_56 (by decide) ?_
          obtain ⟨r_57, hc_57, hm⟩ := ob_s hm
          refine q_ci (q_rv (rest := [.int r_35]) ⟨hx, hb, hml, hown, hts⟩ hK hN hP hD (c_X3_cell l D cI cZ H.size AT_of_nt AT_of_nt_c 4 24 vT_of_nt_n fT_of_nt_c x4 3 r_57 hc_57) mb_X3_cell mv_X3_cell wl_X0_48 [2, 3] rfl rfl rfl (Nat.le_of_ble_eq_true rfl) (Nat.le_of_ble_eq_true rfl) rfl hl.1 rfl (Nat.le_of_ble_eq_true rfl) ⟨Nat.le_refl 0, Nat.le_refl 0⟩ dX0_agreesWithNotes_57) hP hD hS hA [2, 3] rfl rfl (fun H locs hP hD hS => ?_)
          have hP : va_P D vwCl (wd_X0_agreesWithNotes cI cZ AT AT_of AT_ft AT_bv AT_ta AT_of_sl AT_of_fl AT_of_ro AT_of_nt AT_of_mk AT_of_mo AT_of_nt_c vT_of_ng vT_of_nt_n fT_of_nt_c) H := hP
          have hD : va_D A (wd_X0_agreesWithNotes cI cZ AT AT_of AT_ft AT_bv AT_ta AT_of_sl AT_of_fl AT_of_ro AT_of_nt AT_of_mk AT_of_mo AT_of_nt_c vT_of_ng vT_of_nt_n fT_of_nt_c) := hD
          refine lv_icmp_eq (tgt := 65) hx hb dX0_agreesWithNotes_60 (by decide) (fun c_60 => ?_) (fun c_60 => ?_)
          · have hm := it_s c_60 hm
            refine lv_iinc (v := (x4 + 1)) (lv' := [(4, .int (x4 + 1)), (5, .int r_35), (3, .ref AT_of_nt), (1, .int p1), (2, .int p2)]) hx hb dX0_agreesWithNotes_65 hl (k := 1) rfl rfl (by decide) rfl (fun ls hl => ?_)
            refine lv_goto (tgt := 11) hx hb dX0_agreesWithNotes_68 (by decide) ?_
            exact ih_11 (x4 + 1) H locs ls hm hP hD hS (lv_sub hl [0, 2, 3, 4] rfl)
          · have hm := it_n c_60 hm
            refine lv_iconst (v := 0) hx hb dX0_agreesWithNotes_63 (by decide) ?_
            have hm := Option.some.inj hm
            subst hm
            exact q_zret (v := 0) hx hb hr hlocks rfl hP hS dX0_agreesWithNotes_64
  unfold fm_X0_agreesWithNotes at hm
  refine q_gen hS hP ?_
  intro H locs hP hS
  refine lv_aload_n hx hb dX0_agreesWithNotes_0 rfl (lv_at hl 0 rfl) ?_
  refine gf_X0_9 (v := .ref AT_of) hx hb hts hown hK hN hP 0 rfl rfl dX0_agreesWithNotes_1 ?_
  refine gf_X0_106 (v := .ref AT_of_nt) hx hb hts hown hK hN hP 1 rfl rfl dX0_agreesWithNotes_4 ?_
  refine lv_astore_n (lv' := [(3, .ref AT_of_nt), (0, .ref AT), (1, .int p1), (2, .int p2)]) hx hb dX0_agreesWithNotes_7 rfl hl (by decide) rfl (fun ls hl => ?_)
  refine lv_iconst (v := 0) hx hb dX0_agreesWithNotes_8 (by decide) ?_
  refine lv_istore (lv' := [(4, .int 0), (3, .ref AT_of_nt), (0, .ref AT), (1, .int p1), (2, .int p2)]) hx hb dX0_agreesWithNotes_9 hl (by decide) rfl (fun ls hl => ?_)
  exact hL_11 FU 0 H locs ls hm hP hD hS (lv_sub hl [0, 1, 3, 4] rfl)
theorem mb_X0_flowerKinds : q_mb yX0_flowerKinds cX0_flowerKinds 4 (some .int) 1 := ⟨wc_X0_flowerKinds, wn_X0, by decide, by decide, by decide +kernel⟩
theorem mv_X0_flowerKinds : q_mv yX0_flowerKinds 0 := ⟨wi_X0_flowerKinds, ws_X0_flowerKinds, _, rfl, rfl⟩
def wd_X0_flowerKinds (cI cZ : ClassId) (AT AT_of AT_ft AT_bv AT_ta AT_of_sl AT_of_fl AT_of_ro AT_of_nt AT_of_mk AT_of_mo AT_of_nt_c : Nat) (vT_of_ng : Int32) (vT_of_nt_n : Int32) (fT_of_nt_c : Nat → Int32) : va_W := [(AT, .inr (0, [.ref AT_of, .ref AT_ft, .ref AT_bv, .ref AT_ta])), (AT_of, .inr (4, [.ref AT_of_sl, .ref AT_of_fl, .ref AT_of_ro, .ref AT_of_nt, .ref AT_of_mk, .ref AT_of_mo, .int vT_of_ng])), (AT_of_nt, .inr (3, [.int 4, .ref AT_of_nt_c, .int vT_of_nt_n])), (AT_of_nt_c, .inl (cI, 24, .inl fT_of_nt_c))]
def fL_X0_flowerKinds_4 (p1 : Int32) (vT_of_nt_n : Int32) (fT_of_nt_c : Nat → Int32) : Nat → Int32 → Int32 → Option (Int32)
  | 0, _, _ => none
  | fu + 1, x3, x2 => if 6 ≤ x3 then (some (x2)) else (Option.bind (fm_X0_agreesWithNotes p1 x3 vT_of_nt_n fT_of_nt_c) (fun r_13 => if r_13 = 0 then (fL_X0_flowerKinds_4 p1 vT_of_nt_n fT_of_nt_c fu (x3 + 1) x2) else (fL_X0_flowerKinds_4 p1 vT_of_nt_n fT_of_nt_c fu (x3 + 1) (x2 ||| (1 <<< (x3 &&& 31))))))
def fm_X0_flowerKinds (p1 : Int32) (vT_of_nt_n : Int32) (fT_of_nt_c : Nat → Int32) : Option (Int32) := fL_X0_flowerKinds_4 p1 vT_of_nt_n fT_of_nt_c FU 0 0
set_option maxHeartbeats 4000000 in
set_option maxRecDepth 100000 in
theorem c_X0_flowerKinds (l : Launch) (D : va_G) (cI cZ : ClassId) (sz : Nat) (AT AT_of AT_ft AT_bv AT_ta AT_of_sl AT_of_fl AT_of_ro AT_of_nt AT_of_mk AT_of_mo AT_of_nt_c : Nat) (vT_of_ng : Int32) (vT_of_nt_n : Int32) (fT_of_nt_c : Nat → Int32) (p1 : Int32) (out : (Int32)) (hm : fm_X0_flowerKinds p1 vT_of_nt_n fT_of_nt_c = some out) : Met l yX0_flowerKinds (Cond.code yX0_flowerKinds cX0_flowerKinds 4 (some .int) :: bg) { frames := 2, cells := 0, slots := 0, locals := 50 } (va_Pc [.ref AT, .int p1] (q_pre D cI cZ sz (wd_X0_flowerKinds cI cZ AT AT_of AT_ft AT_bv AT_ta AT_of_sl AT_of_fl AT_of_ro AT_of_nt AT_of_mk AT_of_mo AT_of_nt_c vT_of_ng vT_of_nt_n fT_of_nt_c))) (q_Qi D (wd_X0_flowerKinds cI cZ AT AT_of AT_ft AT_bv AT_ta AT_of_sl AT_of_fl AT_of_ro AT_of_nt AT_of_mk AT_of_mo AT_of_nt_c vT_of_ng vT_of_nt_n fT_of_nt_c) out (va_A (wd_X0_flowerKinds cI cZ AT AT_of AT_ft AT_bv AT_ta AT_of_sl AT_of_fl AT_of_ro AT_of_nt AT_of_mk AT_of_mo AT_of_nt_c vT_of_ng vT_of_nt_n fT_of_nt_c) sz)) 0 0 (va_A (wd_X0_flowerKinds cI cZ AT AT_of AT_ft AT_bv AT_ta AT_of_sl AT_of_fl AT_of_ro AT_of_nt AT_of_mk AT_of_mo AT_of_nt_c vT_of_ng vT_of_nt_n fT_of_nt_c) sz) := by
  refine q_met (fun A => q_Qi D (wd_X0_flowerKinds cI cZ AT AT_of AT_ft AT_bv AT_ta AT_of_sl AT_of_fl AT_of_ro AT_of_nt AT_of_mk AT_of_mo AT_of_nt_c vT_of_ng vT_of_nt_n fT_of_nt_c) out A) (by decide) (Nat.le_of_ble_eq_true rfl) ?_
  intro p e s m below meth c ls A hx hb hr hml hown hts hlocks _ hA hS hP hD hK hN hl
  have hown : s.vm.findClass RX0 = some m.cls := hown
  have hl : lv_has ls 4 [(0, .ref AT), (1, .int p1)] := hl
  have hL_4 : ∀ (fu_4 : Nat) (x3 : Int32) (x2 : Int32) (H : Heap) (locs : List Loc) (ls : Array Slot), fL_X0_flowerKinds_4 p1 vT_of_nt_n fT_of_nt_c fu_4 x3 x2 = some out → va_P D vwCl (wd_X0_flowerKinds cI cZ AT AT_of AT_ft AT_bv AT_ta AT_of_sl AT_of_fl AT_of_ro AT_of_nt AT_of_mk AT_of_mo AT_of_nt_c vT_of_ng vT_of_nt_n fT_of_nt_c) H → va_D A (wd_X0_flowerKinds cI cZ AT AT_of AT_ft AT_bv AT_ta AT_of_sl AT_of_fl AT_of_ro AT_of_nt AT_of_mk AT_of_mo AT_of_nt_c vT_of_ng vT_of_nt_n fT_of_nt_c) → va_S A s.heap H locs → lv_has ls 4 [(3, .int x3), (2, .int x2), (0, .ref AT), (1, .int p1)] → W p l e { frames := 2, cells := 0, slots := 0, locals := 50 } s m ([.ref AT, .int p1] : List Value).toArray below meth c H locs 0 0 (MQ below (q_Qi D (wd_X0_flowerKinds cI cZ AT AT_of AT_ft AT_bv AT_ta AT_of_sl AT_of_fl AT_of_ro AT_of_nt AT_of_mk AT_of_mo AT_of_nt_c vT_of_ng vT_of_nt_n fT_of_nt_c) out A) ([.ref AT, .int p1] : List Value).toArray s 0 0 A) (F0 m 4 ls []) := by
    intro fu_4
    induction fu_4 with
    | zero => intro x3 x2 H locs ls hm hP hD hS hl; exact absurd (show (none : Option (Int32)) = some out from hm) (fun h => nomatch h)
    | succ fu_4 ih_4 =>
      intro x3 x2 H locs ls hm hP hD hS hl
      rw [fL_X0_flowerKinds_4] at hm
      refine lv_iload_n hx hb dX0_flowerKinds_4 rfl (lv_at hl 0 rfl) ?_
      refine lv_bipush (v := 6) hx hb dX0_flowerKinds_5 (by decide) ?_
      refine lv_icmp_ge (tgt := 31) hx hb dX0_flowerKinds_7 (by decide) (fun c_7 => ?_) (fun c_7 => ?_)
      · have hm := it_s c_7 hm
        refine lv_iload_n hx hb dX0_flowerKinds_31 rfl (lv_at hl 1 rfl) ?_
        have hm := Option.some.inj hm
        subst hm
        exact q_iret (v := x2) hx hb hr hlocks hP hS dX0_flowerKinds_32
      · have hm := it_n c_7 hm
        refine lv_aload_n hx hb dX0_flowerKinds_10 rfl (lv_at hl 2 rfl) ?_
        refine lv_iload_n hx hb dX0_flowerKinds_11 rfl (lv_at hl 3 rfl) ?_
        refine lv_iload_n hx hb dX0_flowerKinds_12 rfl (lv_at hl 0 rfl) ?_
        obtain ⟨r_13, hc_13, hm⟩ := ob_s hm
        refine q_ci (q_rv (rest := []) ⟨hx, hb, hml, hown, hts⟩ hK hN hP hD (c_X0_agreesWithNotes l D cI cZ H.size AT AT_of AT_ft AT_bv AT_ta AT_of_sl AT_of_fl AT_of_ro AT_of_nt AT_of_mk AT_of_mo AT_of_nt_c vT_of_ng vT_of_nt_n fT_of_nt_c p1 x3 r_13 hc_13) mb_X0_agreesWithNotes mv_X0_agreesWithNotes wl_X0_103 [0, 1, 2, 3] rfl rfl rfl (Nat.le_of_ble_eq_true rfl) (Nat.le_of_ble_eq_true rfl) rfl hl.1 rfl (Nat.le_of_ble_eq_true rfl) ⟨Nat.le_refl 0, Nat.le_refl 0⟩ dX0_flowerKinds_13) hP hD hS hA [0, 1, 2, 3] rfl rfl (fun H locs hP hD hS => ?_)
        have hP : va_P D vwCl (wd_X0_flowerKinds cI cZ AT AT_of AT_ft AT_bv AT_ta AT_of_sl AT_of_fl AT_of_ro AT_of_nt AT_of_mk AT_of_mo AT_of_nt_c vT_of_ng vT_of_nt_n fT_of_nt_c) H := hP
        have hD : va_D A (wd_X0_flowerKinds cI cZ AT AT_of AT_ft AT_bv AT_ta AT_of_sl AT_of_fl AT_of_ro AT_of_nt AT_of_mk AT_of_mo AT_of_nt_c vT_of_ng vT_of_nt_n fT_of_nt_c) := hD
        refine lv_if_eq (tgt := 25) hx hb dX0_flowerKinds_16 (by decide) (fun c_16 => ?_) (fun c_16 => ?_)
        · have hm := it_s c_16 hm
          refine lv_iinc (v := (x3 + 1)) (lv' := [(3, .int (x3 + 1)), (2, .int x2), (0, .ref AT), (1, .int p1)]) hx hb dX0_flowerKinds_25 hl (k := 0) rfl rfl (by decide) rfl (fun ls hl => ?_)
          refine lv_goto (tgt := 4) hx hb dX0_flowerKinds_28 (by decide) ?_
          exact ih_4 (x3 + 1) x2 H locs ls hm hP hD hS (lv_sub hl [0, 1, 2, 3] rfl)
        · have hm := it_n c_16 hm
          refine lv_iload_n hx hb dX0_flowerKinds_19 rfl (lv_at hl 1 rfl) ?_
          refine lv_iconst (v := 1) hx hb dX0_flowerKinds_20 (by decide) ?_
          refine lv_iload_n hx hb dX0_flowerKinds_21 rfl (lv_at hl 0 rfl) ?_
          refine lv_ishl hx hb dX0_flowerKinds_22 ?_
          refine lv_ior hx hb dX0_flowerKinds_23 ?_
          refine lv_istore_n (lv' := [(2, .int (x2 ||| (1 <<< (x3 &&& 31)))), (3, .int x3), (0, .ref AT), (1, .int p1)]) hx hb dX0_flowerKinds_24 rfl hl (by decide) rfl (fun ls hl => ?_)
          refine lv_iinc (v := (x3 + 1)) (lv' := [(3, .int (x3 + 1)), (2, .int (x2 ||| (1 <<< (x3 &&& 31)))), (0, .ref AT), (1, .int p1)]) hx hb dX0_flowerKinds_25 hl (k := 1) rfl rfl (by decide) rfl (fun ls hl => ?_)
          refine lv_goto (tgt := 4) hx hb dX0_flowerKinds_28 (by decide) ?_
          exact ih_4 (x3 + 1) (x2 ||| (1 <<< (x3 &&& 31))) H locs ls hm hP hD hS (lv_sub hl [0, 1, 2, 3] rfl)
  unfold fm_X0_flowerKinds at hm
  refine q_gen hS hP ?_
  intro H locs hP hS
  refine lv_iconst (v := 0) hx hb dX0_flowerKinds_0 (by decide) ?_
  refine lv_istore_n (lv' := [(2, .int 0), (0, .ref AT), (1, .int p1)]) hx hb dX0_flowerKinds_1 rfl hl (by decide) rfl (fun ls hl => ?_)
  refine lv_iconst (v := 0) hx hb dX0_flowerKinds_2 (by decide) ?_
  refine lv_istore_n (lv' := [(3, .int 0), (2, .int 0), (0, .ref AT), (1, .int p1)]) hx hb dX0_flowerKinds_3 rfl hl (by decide) rfl (fun ls hl => ?_)
  exact hL_4 FU 0 0 H locs ls hm hP hD hS (lv_sub hl [0, 1, 2, 3] rfl)
theorem mb_X0_seeFlowerKinds : q_mb yX0_seeFlowerKinds cX0_seeFlowerKinds 5 none 3 := ⟨wc_X0_seeFlowerKinds, wn_X0, by decide, by decide, by decide +kernel⟩
theorem mv_X0_seeFlowerKinds : q_mv yX0_seeFlowerKinds 0 := ⟨wi_X0_seeFlowerKinds, ws_X0_seeFlowerKinds, _, rfl, rfl⟩
def wd_X0_seeFlowerKinds (cI cZ : ClassId) (AT AT_of AT_ft AT_bv AT_ta AT_ta_sn : Nat) (vT_ta_hi : Int32) (vT_ta_ms : Int32) (vT_ta_bl : Int32) (vT_ta_fw : Int32) (fT_ta_sn : Nat → Int32) : va_W := [(AT, .inr (0, [.ref AT_of, .ref AT_ft, .ref AT_bv, .ref AT_ta])), (AT_ta, .inr (6, [.ref AT_ta_sn, .int vT_ta_hi, .int vT_ta_ms, .int vT_ta_bl, .int vT_ta_fw])), (AT_ta_sn, .inl (cI, 256, .inl fT_ta_sn))]
def fL_X0_seeFlowerKinds_10 (p1 : Int32) (p2 : Int32) (p3 : Int32) : Nat → Int32 → Int32 → Int32 → (Nat → Int32) → Option (Int32 × Int32 × (Nat → Int32))
  | 0, _, _, _, _ => none
  | fu + 1, x4, vT_ta_hi, vT_ta_ms, fT_ta_sn => if 6 ≤ x4 then (some (vT_ta_hi, vT_ta_ms, fT_ta_sn)) else (Option.bind (fm_X7_holds p1 x4) (fun r_20 => if r_20 = 0 then (fL_X0_seeFlowerKinds_10 p1 p2 p3 fu (x4 + 1) vT_ta_hi vT_ta_ms fT_ta_sn) else (Option.bind (fm_X7_loudness x4 p2 p3) (fun r_34 => Option.bind (fm_X6_see r_34 vT_ta_hi vT_ta_ms fT_ta_sn) (fun r_37 => fL_X0_seeFlowerKinds_10 p1 p2 p3 fu (x4 + 1) r_37.1 r_37.2.1 r_37.2.2)))))
def fm_X0_seeFlowerKinds (p1 : Int32) (p2 : Int32) (p3 : Int32) (vT_ta_hi : Int32) (vT_ta_ms : Int32) (fT_ta_sn : Nat → Int32) : Option (Int32 × Int32 × (Nat → Int32)) := Option.bind (fm_X6_startLook vT_ta_hi vT_ta_ms fT_ta_sn) (fun r_4 => fL_X0_seeFlowerKinds_10 p1 p2 p3 FU 0 r_4.1 r_4.2.1 r_4.2.2)
set_option maxHeartbeats 4000000 in
set_option maxRecDepth 100000 in
theorem c_X0_seeFlowerKinds (l : Launch) (D : va_G) (cI cZ : ClassId) (sz : Nat) (AT AT_of AT_ft AT_bv AT_ta AT_ta_sn : Nat) (vT_ta_hi : Int32) (vT_ta_ms : Int32) (vT_ta_bl : Int32) (vT_ta_fw : Int32) (fT_ta_sn : Nat → Int32) (p1 : Int32) (p2 : Int32) (p3 : Int32) (out : (Int32 × Int32 × (Nat → Int32))) (hm : fm_X0_seeFlowerKinds p1 p2 p3 vT_ta_hi vT_ta_ms fT_ta_sn = some out) : Met l yX0_seeFlowerKinds (Cond.code yX0_seeFlowerKinds cX0_seeFlowerKinds 5 none :: bg) { frames := 2, cells := 0, slots := 0, locals := 44 } (va_Pc [.ref AT, .int p1, .int p2, .int p3] (q_pre D cI cZ sz (wd_X0_seeFlowerKinds cI cZ AT AT_of AT_ft AT_bv AT_ta AT_ta_sn vT_ta_hi vT_ta_ms vT_ta_bl vT_ta_fw fT_ta_sn))) (q_Qv D (wd_X0_seeFlowerKinds cI cZ AT AT_of AT_ft AT_bv AT_ta AT_ta_sn out.1 out.2.1 vT_ta_bl vT_ta_fw out.2.2) (va_A (wd_X0_seeFlowerKinds cI cZ AT AT_of AT_ft AT_bv AT_ta AT_ta_sn vT_ta_hi vT_ta_ms vT_ta_bl vT_ta_fw fT_ta_sn) sz)) 0 0 (va_A (wd_X0_seeFlowerKinds cI cZ AT AT_of AT_ft AT_bv AT_ta AT_ta_sn vT_ta_hi vT_ta_ms vT_ta_bl vT_ta_fw fT_ta_sn) sz) := by
  refine q_met (fun A => q_Qv D (wd_X0_seeFlowerKinds cI cZ AT AT_of AT_ft AT_bv AT_ta AT_ta_sn out.1 out.2.1 vT_ta_bl vT_ta_fw out.2.2) A) (by decide) (Nat.le_of_ble_eq_true rfl) ?_
  intro p e s m below meth c ls A hx hb hr hml hown hts hlocks _ hA hS hP hD hK hN hl
  have hown : s.vm.findClass RX0 = some m.cls := hown
  have hl : lv_has ls 5 [(0, .ref AT), (1, .int p1), (2, .int p2), (3, .int p3)] := hl
  have hL_10 : ∀ (fu_10 : Nat) (x4 : Int32) (vT_ta_hi : Int32) (vT_ta_ms : Int32) (fT_ta_sn : Nat → Int32) (H : Heap) (locs : List Loc) (ls : Array Slot), fL_X0_seeFlowerKinds_10 p1 p2 p3 fu_10 x4 vT_ta_hi vT_ta_ms fT_ta_sn = some out → va_P D vwCl (wd_X0_seeFlowerKinds cI cZ AT AT_of AT_ft AT_bv AT_ta AT_ta_sn vT_ta_hi vT_ta_ms vT_ta_bl vT_ta_fw fT_ta_sn) H → va_D A (wd_X0_seeFlowerKinds cI cZ AT AT_of AT_ft AT_bv AT_ta AT_ta_sn vT_ta_hi vT_ta_ms vT_ta_bl vT_ta_fw fT_ta_sn) → va_S A s.heap H locs → lv_has ls 5 [(4, .int x4), (0, .ref AT), (1, .int p1), (2, .int p2), (3, .int p3)] → W p l e { frames := 2, cells := 0, slots := 0, locals := 44 } s m ([.ref AT, .int p1, .int p2, .int p3] : List Value).toArray below meth c H locs 0 0 (MQ below (q_Qv D (wd_X0_seeFlowerKinds cI cZ AT AT_of AT_ft AT_bv AT_ta AT_ta_sn out.1 out.2.1 vT_ta_bl vT_ta_fw out.2.2) A) ([.ref AT, .int p1, .int p2, .int p3] : List Value).toArray s 0 0 A) (F0 m 10 ls []) := by
    intro fu_10
    induction fu_10 with
    | zero => intro x4 vT_ta_hi vT_ta_ms fT_ta_sn H locs ls hm hP hD hS hl; exact absurd (show (none : Option (Int32 × Int32 × (Nat → Int32))) = some out from hm) (fun h => nomatch h)
    | succ fu_10 ih_10 =>
      intro x4 vT_ta_hi vT_ta_ms fT_ta_sn H locs ls hm hP hD hS hl
      rw [fL_X0_seeFlowerKinds_10] at hm
      refine lv_iload hx hb dX0_seeFlowerKinds_10 (lv_at hl 0 rfl) ?_
      refine lv_bipush (v := 6) hx hb dX0_seeFlowerKinds_12 (by decide) ?_
      refine lv_icmp_ge (tgt := 46) hx hb dX0_seeFlowerKinds_14 (by decide) (fun c_14 => ?_) (fun c_14 => ?_)
      · have hm := it_s c_14 hm
        have hm := Option.some.inj hm
        subst hm
        exact q_vret hx hb hr hlocks hP hS dX0_seeFlowerKinds_46
      · have hm := it_n c_14 hm
        refine lv_iload_n hx hb dX0_seeFlowerKinds_17 rfl (lv_at hl 2 rfl) ?_
        refine lv_iload hx hb dX0_seeFlowerKinds_18 (lv_at hl 0 rfl) ?_
        obtain ⟨r_20, hc_20, hm⟩ := ob_s hm
        refine q_ci (q_rn (rest := []) ⟨hx, hb, hml, hown, hts⟩ hK hN hP hD (c_X7_holds l D cI cZ H.size p1 x4 r_20 hc_20) mb_X7_holds wt_X7_holds (nl_X0_68 hN) [] rfl rfl (Nat.le_of_ble_eq_true rfl) (Nat.le_of_ble_eq_true rfl) rfl hl.1 rfl (Nat.le_of_ble_eq_true rfl) ⟨Nat.le_refl 0, Nat.le_refl 0⟩ dX0_seeFlowerKinds_20) hP hD hS hA [] rfl rfl (fun H locs hP hD hS => ?_)
        have hP : va_P D vwCl (wd_X0_seeFlowerKinds cI cZ AT AT_of AT_ft AT_bv AT_ta AT_ta_sn vT_ta_hi vT_ta_ms vT_ta_bl vT_ta_fw fT_ta_sn) H := hP
        have hD : va_D A (wd_X0_seeFlowerKinds cI cZ AT AT_of AT_ft AT_bv AT_ta AT_ta_sn vT_ta_hi vT_ta_ms vT_ta_bl vT_ta_fw fT_ta_sn) := hD
        refine lv_if_eq (tgt := 40) hx hb dX0_seeFlowerKinds_23 (by decide) (fun c_23 => ?_) (fun c_23 => ?_)
        · have hm := it_s c_23 hm
          refine lv_iinc (v := (x4 + 1)) (lv' := [(4, .int (x4 + 1)), (0, .ref AT), (1, .int p1), (2, .int p2), (3, .int p3)]) hx hb dX0_seeFlowerKinds_40 hl (k := 0) rfl rfl (by decide) rfl (fun ls hl => ?_)
          refine lv_goto (tgt := 10) hx hb dX0_seeFlowerKinds_43 (by decide) ?_
          exact ih_10 (x4 + 1) vT_ta_hi vT_ta_ms fT_ta_sn H locs ls hm hP hD hS (lv_sub hl [0, 1, 2, 3, 4] rfl)
        · have hm := it_n c_23 hm
          refine lv_aload_n hx hb dX0_seeFlowerKinds_26 rfl (lv_at hl 1 rfl) ?_
          refine gf_X0_25 (v := .ref AT_ta) hx hb hts hown hK hN hP 0 rfl rfl dX0_seeFlowerKinds_27 ?_
          refine lv_iload hx hb dX0_seeFlowerKinds_30 (lv_at hl 0 rfl) ?_
          refine lv_iload_n hx hb dX0_seeFlowerKinds_32 rfl (lv_at hl 3 rfl) ?_
          refine lv_iload_n hx hb dX0_seeFlowerKinds_33 rfl (lv_at hl 4 rfl) ?_
          obtain ⟨r_34, hc_34, hm⟩ := ob_s hm
          refine q_ci (q_rn (rest := [.ref AT_ta]) ⟨hx, hb, hml, hown, hts⟩ hK hN hP hD (c_X7_loudness l D cI cZ H.size x4 p2 p3 r_34 hc_34) mb_X7_loudness wt_X7_loudness (nl_X0_109 hN) [] rfl rfl (Nat.le_of_ble_eq_true rfl) (Nat.le_of_ble_eq_true rfl) rfl hl.1 rfl (Nat.le_of_ble_eq_true rfl) ⟨Nat.le_refl 0, Nat.le_refl 0⟩ dX0_seeFlowerKinds_34) hP hD hS hA [] rfl rfl (fun H locs hP hD hS => ?_)
          have hP : va_P D vwCl (wd_X0_seeFlowerKinds cI cZ AT AT_of AT_ft AT_bv AT_ta AT_ta_sn vT_ta_hi vT_ta_ms vT_ta_bl vT_ta_fw fT_ta_sn) H := hP
          have hD : va_D A (wd_X0_seeFlowerKinds cI cZ AT AT_of AT_ft AT_bv AT_ta AT_ta_sn vT_ta_hi vT_ta_ms vT_ta_bl vT_ta_fw fT_ta_sn) := hD
          obtain ⟨r_37, hc_37, hm⟩ := ob_s hm
          refine q_cv (q_rv (rest := []) ⟨hx, hb, hml, hown, hts⟩ hK hN hP hD (c_X6_see l D cI cZ H.size AT_ta AT_ta_sn vT_ta_hi vT_ta_ms vT_ta_bl vT_ta_fw fT_ta_sn r_34 r_37 hc_37) mb_X6_see mv_X6_see wl_X0_100 [1, 2] rfl rfl rfl (Nat.le_of_ble_eq_true rfl) (Nat.le_of_ble_eq_true rfl) rfl hl.1 rfl (Nat.le_of_ble_eq_true rfl) ⟨Nat.le_refl 0, Nat.le_refl 0⟩ dX0_seeFlowerKinds_37) hP hD hS hA [1, 2] rfl rfl (fun H locs hP hD hS => ?_)
          have hP : va_P D vwCl (wd_X0_seeFlowerKinds cI cZ AT AT_of AT_ft AT_bv AT_ta AT_ta_sn r_37.1 r_37.2.1 vT_ta_bl vT_ta_fw r_37.2.2) H := hP
          have hD : va_D A (wd_X0_seeFlowerKinds cI cZ AT AT_of AT_ft AT_bv AT_ta AT_ta_sn r_37.1 r_37.2.1 vT_ta_bl vT_ta_fw r_37.2.2) := hD
          refine lv_iinc (v := (x4 + 1)) (lv' := [(4, .int (x4 + 1)), (0, .ref AT), (1, .int p1), (2, .int p2), (3, .int p3)]) hx hb dX0_seeFlowerKinds_40 hl (k := 0) rfl rfl (by decide) rfl (fun ls hl => ?_)
          refine lv_goto (tgt := 10) hx hb dX0_seeFlowerKinds_43 (by decide) ?_
          exact ih_10 (x4 + 1) r_37.1 r_37.2.1 r_37.2.2 H locs ls hm hP hD hS (lv_sub hl [0, 1, 2, 3, 4] rfl)
  unfold fm_X0_seeFlowerKinds at hm
  refine q_gen hS hP ?_
  intro H locs hP hS
  refine lv_aload_n hx hb dX0_seeFlowerKinds_0 rfl (lv_at hl 0 rfl) ?_
  refine gf_X0_25 (v := .ref AT_ta) hx hb hts hown hK hN hP 0 rfl rfl dX0_seeFlowerKinds_1 ?_
  obtain ⟨r_4, hc_4, hm⟩ := ob_s hm
  refine q_cv (q_rv (rest := []) ⟨hx, hb, hml, hown, hts⟩ hK hN hP hD (c_X6_startLook l D cI cZ H.size AT_ta AT_ta_sn vT_ta_hi vT_ta_ms vT_ta_bl vT_ta_fw fT_ta_sn r_4 hc_4) mb_X6_startLook mv_X6_startLook wl_X0_97 [1, 2] rfl rfl rfl (Nat.le_of_ble_eq_true rfl) (Nat.le_of_ble_eq_true rfl) rfl hl.1 rfl (Nat.le_of_ble_eq_true rfl) ⟨Nat.le_refl 0, Nat.le_refl 0⟩ dX0_seeFlowerKinds_4) hP hD hS hA [1, 2] rfl rfl (fun H locs hP hD hS => ?_)
  have hP : va_P D vwCl (wd_X0_seeFlowerKinds cI cZ AT AT_of AT_ft AT_bv AT_ta AT_ta_sn r_4.1 r_4.2.1 vT_ta_bl vT_ta_fw r_4.2.2) H := hP
  have hD : va_D A (wd_X0_seeFlowerKinds cI cZ AT AT_of AT_ft AT_bv AT_ta AT_ta_sn r_4.1 r_4.2.1 vT_ta_bl vT_ta_fw r_4.2.2) := hD
  refine lv_iconst (v := 0) hx hb dX0_seeFlowerKinds_7 (by decide) ?_
  refine lv_istore (lv' := [(4, .int 0), (0, .ref AT), (1, .int p1), (2, .int p2), (3, .int p3)]) hx hb dX0_seeFlowerKinds_8 hl (by decide) rfl (fun ls hl => ?_)
  exact hL_10 FU 0 r_4.1 r_4.2.1 r_4.2.2 H locs ls hm hP hD hS (lv_sub hl [0, 1, 2, 3, 4] rfl)
theorem mb_X0_lookingNight : q_mb yX0_lookingNight cX0_lookingNight 4 (some .int) 1 := ⟨wc_X0_lookingNight, wn_X0, by decide, by decide, by decide +kernel⟩
theorem mv_X0_lookingNight : q_mv yX0_lookingNight 0 := ⟨wi_X0_lookingNight, ws_X0_lookingNight, _, rfl, rfl⟩
def wd_X0_lookingNight (cI cZ : ClassId) (AT AT_of AT_ft AT_bv AT_ta AT_of_sl AT_of_fl AT_of_ro AT_of_nt AT_of_mk AT_of_mo AT_of_nt_c AT_ta_sn AT_of_fl_c : Nat) (vT_of_ng : Int32) (vT_of_nt_n : Int32) (fT_of_nt_c : Nat → Int32) (vT_ta_hi : Int32) (vT_ta_ms : Int32) (vT_ta_bl : Int32) (vT_ta_fw : Int32) (vT_of_fl_n : Int32) (fT_of_fl_c : Nat → Int32) (fT_ta_sn : Nat → Int32) : va_W := [(AT, .inr (0, [.ref AT_of, .ref AT_ft, .ref AT_bv, .ref AT_ta])), (AT_of, .inr (4, [.ref AT_of_sl, .ref AT_of_fl, .ref AT_of_ro, .ref AT_of_nt, .ref AT_of_mk, .ref AT_of_mo, .int vT_of_ng])), (AT_of_nt, .inr (3, [.int 4, .ref AT_of_nt_c, .int vT_of_nt_n])), (AT_of_nt_c, .inl (cI, 24, .inl fT_of_nt_c)), (AT_ta, .inr (6, [.ref AT_ta_sn, .int vT_ta_hi, .int vT_ta_ms, .int vT_ta_bl, .int vT_ta_fw])), (AT_of_fl, .inr (3, [.int 3, .ref AT_of_fl_c, .int vT_of_fl_n])), (AT_of_fl_c, .inl (cI, 18, .inl fT_of_fl_c)), (AT_ta_sn, .inl (cI, 256, .inl fT_ta_sn))]
def fL_X0_lookingNight_21 (p1 : Int32) (vT_of_nt_n : Int32) (fT_of_nt_c : Nat → Int32) (vT_of_fl_n : Int32) (fT_of_fl_c : Nat → Int32) : Nat → Int32 → Int32 → Int32 → Int32 → Int32 → Int32 → (Nat → Int32) → Option (Int32 × Int32 × Int32 × Int32 × Int32 × (Nat → Int32))
  | 0, _, _, _, _, _, _, _ => none
  | fu + 1, x3, x2, vT_ta_hi, vT_ta_ms, vT_ta_bl, vT_ta_fw, fT_ta_sn => if 12 ≤ x3 then (some (vT_ta_bl, vT_ta_hi, vT_ta_ms, vT_ta_bl, vT_ta_fw, fT_ta_sn)) else (Option.bind (fm_X3_cell 3 18 p1 1 vT_of_fl_n fT_of_fl_c) (fun r_38 => Option.bind (fm_X0_seeFlowerKinds x2 r_38 x3 vT_ta_hi vT_ta_ms fT_ta_sn) (fun r_42 => Option.bind (fm_X6_endLook x3 r_42.2.1 vT_ta_bl vT_ta_fw) (fun r_50 => fL_X0_lookingNight_21 p1 vT_of_nt_n fT_of_nt_c vT_of_fl_n fT_of_fl_c fu (x3 + 1) x2 r_42.1 r_42.2.1 r_50.1 r_50.2 r_42.2.2))))
def fm_X0_lookingNight (p1 : Int32) (vT_of_nt_n : Int32) (fT_of_nt_c : Nat → Int32) (vT_ta_hi : Int32) (vT_ta_ms : Int32) (vT_ta_bl : Int32) (vT_ta_fw : Int32) (vT_of_fl_n : Int32) (fT_of_fl_c : Nat → Int32) (fT_ta_sn : Nat → Int32) : Option (Int32 × Int32 × Int32 × Int32 × Int32 × (Nat → Int32)) := Option.bind (fm_X0_flowerKinds p1 vT_of_nt_n fT_of_nt_c) (fun r_2 => if r_2 = 0 then (some ((-1), vT_ta_hi, vT_ta_ms, vT_ta_bl, vT_ta_fw, fT_ta_sn)) else (Option.bind (fm_X6_startLooking vT_ta_bl vT_ta_fw) (fun r_16 => fL_X0_lookingNight_21 p1 vT_of_nt_n fT_of_nt_c vT_of_fl_n fT_of_fl_c FU 0 r_2 vT_ta_hi vT_ta_ms r_16.1 r_16.2 fT_ta_sn)))
set_option maxHeartbeats 4000000 in
set_option maxRecDepth 100000 in
theorem c_X0_lookingNight (l : Launch) (D : va_G) (cI cZ : ClassId) (sz : Nat) (AT AT_of AT_ft AT_bv AT_ta AT_of_sl AT_of_fl AT_of_ro AT_of_nt AT_of_mk AT_of_mo AT_of_nt_c AT_ta_sn AT_of_fl_c : Nat) (vT_of_ng : Int32) (vT_of_nt_n : Int32) (fT_of_nt_c : Nat → Int32) (vT_ta_hi : Int32) (vT_ta_ms : Int32) (vT_ta_bl : Int32) (vT_ta_fw : Int32) (vT_of_fl_n : Int32) (fT_of_fl_c : Nat → Int32) (fT_ta_sn : Nat → Int32) (p1 : Int32) (out : (Int32 × Int32 × Int32 × Int32 × Int32 × (Nat → Int32))) (hm : fm_X0_lookingNight p1 vT_of_nt_n fT_of_nt_c vT_ta_hi vT_ta_ms vT_ta_bl vT_ta_fw vT_of_fl_n fT_of_fl_c fT_ta_sn = some out) : Met l yX0_lookingNight (Cond.code yX0_lookingNight cX0_lookingNight 4 (some .int) :: bg) { frames := 3, cells := 0, slots := 0, locals := 73 } (va_Pc [.ref AT, .int p1] (q_pre D cI cZ sz (wd_X0_lookingNight cI cZ AT AT_of AT_ft AT_bv AT_ta AT_of_sl AT_of_fl AT_of_ro AT_of_nt AT_of_mk AT_of_mo AT_of_nt_c AT_ta_sn AT_of_fl_c vT_of_ng vT_of_nt_n fT_of_nt_c vT_ta_hi vT_ta_ms vT_ta_bl vT_ta_fw vT_of_fl_n fT_of_fl_c fT_ta_sn))) (q_Qi D (wd_X0_lookingNight cI cZ AT AT_of AT_ft AT_bv AT_ta AT_of_sl AT_of_fl AT_of_ro AT_of_nt AT_of_mk AT_of_mo AT_of_nt_c AT_ta_sn AT_of_fl_c vT_of_ng vT_of_nt_n fT_of_nt_c out.2.1 out.2.2.1 out.2.2.2.1 out.2.2.2.2.1 vT_of_fl_n fT_of_fl_c out.2.2.2.2.2) out.1 (va_A (wd_X0_lookingNight cI cZ AT AT_of AT_ft AT_bv AT_ta AT_of_sl AT_of_fl AT_of_ro AT_of_nt AT_of_mk AT_of_mo AT_of_nt_c AT_ta_sn AT_of_fl_c vT_of_ng vT_of_nt_n fT_of_nt_c vT_ta_hi vT_ta_ms vT_ta_bl vT_ta_fw vT_of_fl_n fT_of_fl_c fT_ta_sn) sz)) 0 0 (va_A (wd_X0_lookingNight cI cZ AT AT_of AT_ft AT_bv AT_ta AT_of_sl AT_of_fl AT_of_ro AT_of_nt AT_of_mk AT_of_mo AT_of_nt_c AT_ta_sn AT_of_fl_c vT_of_ng vT_of_nt_n fT_of_nt_c vT_ta_hi vT_ta_ms vT_ta_bl vT_ta_fw vT_of_fl_n fT_of_fl_c fT_ta_sn) sz) := by
  refine q_met (fun A => q_Qi D (wd_X0_lookingNight cI cZ AT AT_of AT_ft AT_bv AT_ta AT_of_sl AT_of_fl AT_of_ro AT_of_nt AT_of_mk AT_of_mo AT_of_nt_c AT_ta_sn AT_of_fl_c vT_of_ng vT_of_nt_n fT_of_nt_c out.2.1 out.2.2.1 out.2.2.2.1 out.2.2.2.2.1 vT_of_fl_n fT_of_fl_c out.2.2.2.2.2) out.1 A) (by decide) (Nat.le_of_ble_eq_true rfl) ?_
  intro p e s m below meth c ls A hx hb hr hml hown hts hlocks _ hA hS hP hD hK hN hl
  have hown : s.vm.findClass RX0 = some m.cls := hown
  have hl : lv_has ls 4 [(0, .ref AT), (1, .int p1)] := hl
  have hL_21 : ∀ (fu_21 : Nat) (x3 : Int32) (x2 : Int32) (vT_ta_hi : Int32) (vT_ta_ms : Int32) (vT_ta_bl : Int32) (vT_ta_fw : Int32) (fT_ta_sn : Nat → Int32) (H : Heap) (locs : List Loc) (ls : Array Slot), fL_X0_lookingNight_21 p1 vT_of_nt_n fT_of_nt_c vT_of_fl_n fT_of_fl_c fu_21 x3 x2 vT_ta_hi vT_ta_ms vT_ta_bl vT_ta_fw fT_ta_sn = some out → va_P D vwCl (wd_X0_lookingNight cI cZ AT AT_of AT_ft AT_bv AT_ta AT_of_sl AT_of_fl AT_of_ro AT_of_nt AT_of_mk AT_of_mo AT_of_nt_c AT_ta_sn AT_of_fl_c vT_of_ng vT_of_nt_n fT_of_nt_c vT_ta_hi vT_ta_ms vT_ta_bl vT_ta_fw vT_of_fl_n fT_of_fl_c fT_ta_sn) H → va_D A (wd_X0_lookingNight cI cZ AT AT_of AT_ft AT_bv AT_ta AT_of_sl AT_of_fl AT_of_ro AT_of_nt AT_of_mk AT_of_mo AT_of_nt_c AT_ta_sn AT_of_fl_c vT_of_ng vT_of_nt_n fT_of_nt_c vT_ta_hi vT_ta_ms vT_ta_bl vT_ta_fw vT_of_fl_n fT_of_fl_c fT_ta_sn) → va_S A s.heap H locs → lv_has ls 4 [(3, .int x3), (2, .int x2), (0, .ref AT), (1, .int p1)] → W p l e { frames := 3, cells := 0, slots := 0, locals := 73 } s m ([.ref AT, .int p1] : List Value).toArray below meth c H locs 0 0 (MQ below (q_Qi D (wd_X0_lookingNight cI cZ AT AT_of AT_ft AT_bv AT_ta AT_of_sl AT_of_fl AT_of_ro AT_of_nt AT_of_mk AT_of_mo AT_of_nt_c AT_ta_sn AT_of_fl_c vT_of_ng vT_of_nt_n fT_of_nt_c out.2.1 out.2.2.1 out.2.2.2.1 out.2.2.2.2.1 vT_of_fl_n fT_of_fl_c out.2.2.2.2.2) out.1 A) ([.ref AT, .int p1] : List Value).toArray s 0 0 A) (F0 m 21 ls []) := by
    intro fu_21
    induction fu_21 with
    | zero => intro x3 x2 vT_ta_hi vT_ta_ms vT_ta_bl vT_ta_fw fT_ta_sn H locs ls hm hP hD hS hl; exact absurd (show (none : Option (Int32 × Int32 × Int32 × Int32 × Int32 × (Nat → Int32))) = some out from hm) (fun h => nomatch h)
    | succ fu_21 ih_21 =>
      intro x3 x2 vT_ta_hi vT_ta_ms vT_ta_bl vT_ta_fw fT_ta_sn H locs ls hm hP hD hS hl
      rw [fL_X0_lookingNight_21] at hm
      refine lv_iload_n hx hb dX0_lookingNight_21 rfl (lv_at hl 0 rfl) ?_
      refine lv_bipush (v := 12) hx hb dX0_lookingNight_22 (by decide) ?_
      refine lv_icmp_ge (tgt := 59) hx hb dX0_lookingNight_24 (by decide) (fun c_24 => ?_) (fun c_24 => ?_)
      · have hm := it_s c_24 hm
        refine lv_aload_n hx hb dX0_lookingNight_59 rfl (lv_at hl 2 rfl) ?_
        refine gf_X0_25 (v := .ref AT_ta) hx hb hts hown hK hN hP 0 rfl rfl dX0_lookingNight_60 ?_
        refine gf_X0_93 (v := .int vT_ta_bl) hx hb hts hown hK hN hP 4 rfl rfl dX0_lookingNight_63 ?_
        have hm := Option.some.inj hm
        subst hm
        exact q_iret (v := vT_ta_bl) hx hb hr hlocks hP hS dX0_lookingNight_66
      · have hm := it_n c_24 hm
        refine lv_aload_n hx hb dX0_lookingNight_27 rfl (lv_at hl 2 rfl) ?_
        refine lv_iload_n hx hb dX0_lookingNight_28 rfl (lv_at hl 1 rfl) ?_
        refine lv_aload_n hx hb dX0_lookingNight_29 rfl (lv_at hl 2 rfl) ?_
        refine gf_X0_9 (v := .ref AT_of) hx hb hts hown hK hN hP 0 rfl rfl dX0_lookingNight_30 ?_
        refine gf_X0_29 (v := .ref AT_of_fl) hx hb hts hown hK hN hP 1 rfl rfl dX0_lookingNight_33 ?_
        refine lv_iload_n hx hb dX0_lookingNight_36 rfl (lv_at hl 3 rfl) ?_
        refine lv_iconst (v := 1) hx hb dX0_lookingNight_37 (by decide) ?_
        obtain ⟨r_38, hc_38, hm⟩ := ob_s hm
        refine q_ci (q_rv (rest := [.int x2, .ref AT]) ⟨hx, hb, hml, hown, hts⟩ hK hN hP hD (c_X3_cell l D cI cZ H.size AT_of_fl AT_of_fl_c 3 18 vT_of_fl_n fT_of_fl_c p1 1 r_38 hc_38) mb_X3_cell mv_X3_cell wl_X0_48 [5, 6] rfl rfl rfl (Nat.le_of_ble_eq_true rfl) (Nat.le_of_ble_eq_true rfl) rfl hl.1 rfl (Nat.le_of_ble_eq_true rfl) ⟨Nat.le_refl 0, Nat.le_refl 0⟩ dX0_lookingNight_38) hP hD hS hA [5, 6] rfl rfl (fun H locs hP hD hS => ?_)
        have hP : va_P D vwCl (wd_X0_lookingNight cI cZ AT AT_of AT_ft AT_bv AT_ta AT_of_sl AT_of_fl AT_of_ro AT_of_nt AT_of_mk AT_of_mo AT_of_nt_c AT_ta_sn AT_of_fl_c vT_of_ng vT_of_nt_n fT_of_nt_c vT_ta_hi vT_ta_ms vT_ta_bl vT_ta_fw vT_of_fl_n fT_of_fl_c fT_ta_sn) H := hP
        have hD : va_D A (wd_X0_lookingNight cI cZ AT AT_of AT_ft AT_bv AT_ta AT_of_sl AT_of_fl AT_of_ro AT_of_nt AT_of_mk AT_of_mo AT_of_nt_c AT_ta_sn AT_of_fl_c vT_of_ng vT_of_nt_n fT_of_nt_c vT_ta_hi vT_ta_ms vT_ta_bl vT_ta_fw vT_of_fl_n fT_of_fl_c fT_ta_sn) := hD
        refine lv_iload_n hx hb dX0_lookingNight_41 rfl (lv_at hl 0 rfl) ?_
        obtain ⟨r_42, hc_42, hm⟩ := ob_s hm
        refine q_cv (q_rv (rest := []) ⟨hx, hb, hml, hown, hts⟩ hK hN hP hD (c_X0_seeFlowerKinds l D cI cZ H.size AT AT_of AT_ft AT_bv AT_ta AT_ta_sn vT_ta_hi vT_ta_ms vT_ta_bl vT_ta_fw fT_ta_sn x2 r_38 x3 r_42 hc_42) mb_X0_seeFlowerKinds mv_X0_seeFlowerKinds wl_X0_115 [0, 4, 7] rfl rfl rfl (Nat.le_of_ble_eq_true rfl) (Nat.le_of_ble_eq_true rfl) rfl hl.1 rfl (Nat.le_of_ble_eq_true rfl) ⟨Nat.le_refl 0, Nat.le_refl 0⟩ dX0_lookingNight_42) hP hD hS hA [0, 4, 7] rfl rfl (fun H locs hP hD hS => ?_)
        have hP : va_P D vwCl (wd_X0_lookingNight cI cZ AT AT_of AT_ft AT_bv AT_ta AT_of_sl AT_of_fl AT_of_ro AT_of_nt AT_of_mk AT_of_mo AT_of_nt_c AT_ta_sn AT_of_fl_c vT_of_ng vT_of_nt_n fT_of_nt_c r_42.1 r_42.2.1 vT_ta_bl vT_ta_fw vT_of_fl_n fT_of_fl_c r_42.2.2) H := hP
        have hD : va_D A (wd_X0_lookingNight cI cZ AT AT_of AT_ft AT_bv AT_ta AT_of_sl AT_of_fl AT_of_ro AT_of_nt AT_of_mk AT_of_mo AT_of_nt_c AT_ta_sn AT_of_fl_c vT_of_ng vT_of_nt_n fT_of_nt_c r_42.1 r_42.2.1 vT_ta_bl vT_ta_fw vT_of_fl_n fT_of_fl_c r_42.2.2) := hD
        refine lv_aload_n hx hb dX0_lookingNight_45 rfl (lv_at hl 2 rfl) ?_
        refine gf_X0_25 (v := .ref AT_ta) hx hb hts hown hK hN hP 0 rfl rfl dX0_lookingNight_46 ?_
        refine lv_iload_n hx hb dX0_lookingNight_49 rfl (lv_at hl 0 rfl) ?_
        obtain ⟨r_50, hc_50, hm⟩ := ob_s hm
        refine q_cv (q_rv (rest := []) ⟨hx, hb, hml, hown, hts⟩ hK hN hP hD (c_X6_endLook l D cI cZ H.size AT_ta AT_ta_sn r_42.1 r_42.2.1 vT_ta_bl vT_ta_fw x3 r_50 hc_50) mb_X6_endLook mv_X6_endLook wl_X0_89 [4] rfl rfl rfl (Nat.le_of_ble_eq_true rfl) (Nat.le_of_ble_eq_true rfl) rfl hl.1 rfl (Nat.le_of_ble_eq_true rfl) ⟨Nat.le_refl 0, Nat.le_refl 0⟩ dX0_lookingNight_50) hP hD hS hA [4] rfl rfl (fun H locs hP hD hS => ?_)
        have hP : va_P D vwCl (wd_X0_lookingNight cI cZ AT AT_of AT_ft AT_bv AT_ta AT_of_sl AT_of_fl AT_of_ro AT_of_nt AT_of_mk AT_of_mo AT_of_nt_c AT_ta_sn AT_of_fl_c vT_of_ng vT_of_nt_n fT_of_nt_c r_42.1 r_42.2.1 r_50.1 r_50.2 vT_of_fl_n fT_of_fl_c r_42.2.2) H := hP
        have hD : va_D A (wd_X0_lookingNight cI cZ AT AT_of AT_ft AT_bv AT_ta AT_of_sl AT_of_fl AT_of_ro AT_of_nt AT_of_mk AT_of_mo AT_of_nt_c AT_ta_sn AT_of_fl_c vT_of_ng vT_of_nt_n fT_of_nt_c r_42.1 r_42.2.1 r_50.1 r_50.2 vT_of_fl_n fT_of_fl_c r_42.2.2) := hD
        refine lv_iinc (v := (x3 + 1)) (lv' := [(3, .int (x3 + 1)), (2, .int x2), (0, .ref AT), (1, .int p1)]) hx hb dX0_lookingNight_53 hl (k := 0) rfl rfl (by decide) rfl (fun ls hl => ?_)
        refine lv_goto (tgt := 21) hx hb dX0_lookingNight_56 (by decide) ?_
        exact ih_21 (x3 + 1) x2 r_42.1 r_42.2.1 r_50.1 r_50.2 r_42.2.2 H locs ls hm hP hD hS (lv_sub hl [0, 1, 2, 3] rfl)
  unfold fm_X0_lookingNight at hm
  refine q_gen hS hP ?_
  intro H locs hP hS
  refine lv_aload_n hx hb dX0_lookingNight_0 rfl (lv_at hl 0 rfl) ?_
  refine lv_iload_n hx hb dX0_lookingNight_1 rfl (lv_at hl 1 rfl) ?_
  obtain ⟨r_2, hc_2, hm⟩ := ob_s hm
  refine q_ci (q_rv (rest := []) ⟨hx, hb, hml, hown, hts⟩ hK hN hP hD (c_X0_flowerKinds l D cI cZ H.size AT AT_of AT_ft AT_bv AT_ta AT_of_sl AT_of_fl AT_of_ro AT_of_nt AT_of_mk AT_of_mo AT_of_nt_c vT_of_ng vT_of_nt_n fT_of_nt_c p1 r_2 hc_2) mb_X0_flowerKinds mv_X0_flowerKinds wl_X0_112 [0, 1, 2, 3] rfl rfl rfl (Nat.le_of_ble_eq_true rfl) (Nat.le_of_ble_eq_true rfl) rfl hl.1 rfl (Nat.le_of_ble_eq_true rfl) ⟨Nat.le_refl 0, Nat.le_refl 0⟩ dX0_lookingNight_2) hP hD hS hA [0, 1, 2, 3] rfl rfl (fun H locs hP hD hS => ?_)
  have hP : va_P D vwCl (wd_X0_lookingNight cI cZ AT AT_of AT_ft AT_bv AT_ta AT_of_sl AT_of_fl AT_of_ro AT_of_nt AT_of_mk AT_of_mo AT_of_nt_c AT_ta_sn AT_of_fl_c vT_of_ng vT_of_nt_n fT_of_nt_c vT_ta_hi vT_ta_ms vT_ta_bl vT_ta_fw vT_of_fl_n fT_of_fl_c fT_ta_sn) H := hP
  have hD : va_D A (wd_X0_lookingNight cI cZ AT AT_of AT_ft AT_bv AT_ta AT_of_sl AT_of_fl AT_of_ro AT_of_nt AT_of_mk AT_of_mo AT_of_nt_c AT_ta_sn AT_of_fl_c vT_of_ng vT_of_nt_n fT_of_nt_c vT_ta_hi vT_ta_ms vT_ta_bl vT_ta_fw vT_of_fl_n fT_of_fl_c fT_ta_sn) := hD
  refine lv_istore_n (lv' := [(2, .int r_2), (0, .ref AT), (1, .int p1)]) hx hb dX0_lookingNight_5 rfl hl (by decide) rfl (fun ls hl => ?_)
  refine lv_iload_n hx hb dX0_lookingNight_6 rfl (lv_at hl 0 rfl) ?_
  refine lv_if_ne (tgt := 12) hx hb dX0_lookingNight_7 (by decide) (fun c_7 => ?_) (fun c_7 => ?_)
  · have hm := it_n c_7 hm
    refine lv_aload_n hx hb dX0_lookingNight_12 rfl (lv_at hl 1 rfl) ?_
    refine gf_X0_25 (v := .ref AT_ta) hx hb hts hown hK hN hP 0 rfl rfl dX0_lookingNight_13 ?_
    obtain ⟨r_16, hc_16, hm⟩ := ob_s hm
    refine q_cv (q_rv (rest := []) ⟨hx, hb, hml, hown, hts⟩ hK hN hP hD (c_X6_startLooking l D cI cZ H.size AT_ta AT_ta_sn vT_ta_hi vT_ta_ms vT_ta_bl vT_ta_fw r_16 hc_16) mb_X6_startLooking mv_X6_startLooking wl_X0_83 [4] rfl rfl rfl (Nat.le_of_ble_eq_true rfl) (Nat.le_of_ble_eq_true rfl) rfl hl.1 rfl (Nat.le_of_ble_eq_true rfl) ⟨Nat.le_refl 0, Nat.le_refl 0⟩ dX0_lookingNight_16) hP hD hS hA [4] rfl rfl (fun H locs hP hD hS => ?_)
    have hP : va_P D vwCl (wd_X0_lookingNight cI cZ AT AT_of AT_ft AT_bv AT_ta AT_of_sl AT_of_fl AT_of_ro AT_of_nt AT_of_mk AT_of_mo AT_of_nt_c AT_ta_sn AT_of_fl_c vT_of_ng vT_of_nt_n fT_of_nt_c vT_ta_hi vT_ta_ms r_16.1 r_16.2 vT_of_fl_n fT_of_fl_c fT_ta_sn) H := hP
    have hD : va_D A (wd_X0_lookingNight cI cZ AT AT_of AT_ft AT_bv AT_ta AT_of_sl AT_of_fl AT_of_ro AT_of_nt AT_of_mk AT_of_mo AT_of_nt_c AT_ta_sn AT_of_fl_c vT_of_ng vT_of_nt_n fT_of_nt_c vT_ta_hi vT_ta_ms r_16.1 r_16.2 vT_of_fl_n fT_of_fl_c fT_ta_sn) := hD
    refine lv_iconst (v := 0) hx hb dX0_lookingNight_19 (by decide) ?_
    refine lv_istore_n (lv' := [(3, .int 0), (2, .int r_2), (0, .ref AT), (1, .int p1)]) hx hb dX0_lookingNight_20 rfl hl (by decide) rfl (fun ls hl => ?_)
    exact hL_21 FU 0 r_2 vT_ta_hi vT_ta_ms r_16.1 r_16.2 fT_ta_sn H locs ls hm hP hD hS (lv_sub hl [0, 1, 2, 3] rfl)
  · have hm := it_s c_7 hm
    refine lv_iconst (v := (-1)) hx hb dX0_lookingNight_10 (by decide) ?_
    have hm := Option.some.inj hm
    subst hm
    exact q_iret (v := (-1)) hx hb hr hlocks hP hS dX0_lookingNight_11
theorem gf_X0_121 {p : Program} {l : Launch} {e : Env} {R : Room} {s : State} {m : MethodId} {args : Array Value} {below : List Frame} {meth : Method} {c : Code} {H : Heap} {locs : List Loc} {cells slots : Nat} {Q : State → Prop} {pc : Nat} {ls : Array Slot} {cc : ByteArray} {D : va_G} {cI cZ : ClassId} {ws : va_W} {a : Nat} {rest fs : List Value} (hx : p.tables.exec = Jvm.exec) (hb : c.code = cc) (hts : ∀ w ∈ bg, w.before args s = true) (hown : s.vm.findClass RX0 = some m.cls) (hK : va_K D vwCl (q_tys cI cZ) s) (hN : q_N s) (hP : va_P D vwCl ws H) (q0 : Nat) (he : ws[q0]? = some (a, .inr (4, fs))) {v : Value} (hv : fs[4]? = some v) (hdg : decode cc pc = .ok (.getfield 121, 3)) (kk : W p l e R s m args below meth c H locs cells slots Q (F0 m (pc + 3) ls (v :: rest))) : W p l e R s m args below meth c H locs cells slots Q (F0 m pc ls (.ref a :: rest)) :=
  va_getN (C := RX4) (T := TX4) (N := 7) hx hb hts wu_X4 hown hK hP q0 he rfl 4 (by decide) ((ng_X0_121 hN).use rfl) (fun _ h9 => h9) hv hdg kk
theorem mb_X0_agreesWithMarks : q_mb yX0_agreesWithMarks cX0_agreesWithMarks 6 (some .boolean) 2 := ⟨wc_X0_agreesWithMarks, wn_X0, by decide, by decide, by decide +kernel⟩
theorem mv_X0_agreesWithMarks : q_mv yX0_agreesWithMarks 0 := ⟨wi_X0_agreesWithMarks, ws_X0_agreesWithMarks, _, rfl, rfl⟩
def wd_X0_agreesWithMarks (cI cZ : ClassId) (AT AT_of AT_ft AT_bv AT_ta AT_of_sl AT_of_fl AT_of_ro AT_of_nt AT_of_mk AT_of_mo AT_of_mk_c : Nat) (vT_of_ng : Int32) (vT_of_mk_n : Int32) (fT_of_mk_c : Nat → Int32) : va_W := [(AT, .inr (0, [.ref AT_of, .ref AT_ft, .ref AT_bv, .ref AT_ta])), (AT_of, .inr (4, [.ref AT_of_sl, .ref AT_of_fl, .ref AT_of_ro, .ref AT_of_nt, .ref AT_of_mk, .ref AT_of_mo, .int vT_of_ng])), (AT_of_mk, .inr (3, [.int 4, .ref AT_of_mk_c, .int vT_of_mk_n])), (AT_of_mk_c, .inl (cI, 24, .inl fT_of_mk_c))]
def fL_X0_agreesWithMarks_11 (p1 : Int32) (p2 : Int32) (vT_of_mk_n : Int32) (fT_of_mk_c : Nat → Int32) : Nat → Int32 → Option (Int32)
  | 0, _ => none
  | fu + 1, x4 => Option.bind (fm_X3_size vT_of_mk_n) (fun r_14 => if r_14 ≤ x4 then (some (1)) else (Option.bind (fm_X3_cell 4 24 x4 1 vT_of_mk_n fT_of_mk_c) (fun r_25 => Option.bind (fm_X3_cell 4 24 x4 2 vT_of_mk_n fT_of_mk_c) (fun r_32 => Option.bind (fm_X7_belief p2 r_25 r_32) (fun r_35 => Option.bind (fm_X3_cell 4 24 x4 0 vT_of_mk_n fT_of_mk_c) (fun r_44 => if r_44 = p1 then (Option.bind (fm_X3_cell 4 24 x4 3 vT_of_mk_n fT_of_mk_c) (fun r_57 => if r_35 = r_57 then (fL_X0_agreesWithMarks_11 p1 p2 vT_of_mk_n fT_of_mk_c fu (x4 + 1)) else (some (0)))) else (fL_X0_agreesWithMarks_11 p1 p2 vT_of_mk_n fT_of_mk_c fu (x4 + 1))))))))
def fm_X0_agreesWithMarks (p1 : Int32) (p2 : Int32) (vT_of_mk_n : Int32) (fT_of_mk_c : Nat → Int32) : Option (Int32) := fL_X0_agreesWithMarks_11 p1 p2 vT_of_mk_n fT_of_mk_c FU 0
set_option maxHeartbeats 4000000 in
set_option maxRecDepth 100000 in
theorem c_X0_agreesWithMarks (l : Launch) (D : va_G) (cI cZ : ClassId) (sz : Nat) (AT AT_of AT_ft AT_bv AT_ta AT_of_sl AT_of_fl AT_of_ro AT_of_nt AT_of_mk AT_of_mo AT_of_mk_c : Nat) (vT_of_ng : Int32) (vT_of_mk_n : Int32) (fT_of_mk_c : Nat → Int32) (p1 : Int32) (p2 : Int32) (out : (Int32)) (hm : fm_X0_agreesWithMarks p1 p2 vT_of_mk_n fT_of_mk_c = some out) : Met l yX0_agreesWithMarks (Cond.code yX0_agreesWithMarks cX0_agreesWithMarks 6 (some .boolean) :: bg) { frames := 1, cells := 0, slots := 0, locals := 25 } (va_Pc [.ref AT, .int p1, .int p2] (q_pre D cI cZ sz (wd_X0_agreesWithMarks cI cZ AT AT_of AT_ft AT_bv AT_ta AT_of_sl AT_of_fl AT_of_ro AT_of_nt AT_of_mk AT_of_mo AT_of_mk_c vT_of_ng vT_of_mk_n fT_of_mk_c))) (q_Qi D (wd_X0_agreesWithMarks cI cZ AT AT_of AT_ft AT_bv AT_ta AT_of_sl AT_of_fl AT_of_ro AT_of_nt AT_of_mk AT_of_mo AT_of_mk_c vT_of_ng vT_of_mk_n fT_of_mk_c) out (va_A (wd_X0_agreesWithMarks cI cZ AT AT_of AT_ft AT_bv AT_ta AT_of_sl AT_of_fl AT_of_ro AT_of_nt AT_of_mk AT_of_mo AT_of_mk_c vT_of_ng vT_of_mk_n fT_of_mk_c) sz)) 0 0 (va_A (wd_X0_agreesWithMarks cI cZ AT AT_of AT_ft AT_bv AT_ta AT_of_sl AT_of_fl AT_of_ro AT_of_nt AT_of_mk AT_of_mo AT_of_mk_c vT_of_ng vT_of_mk_n fT_of_mk_c) sz) := by
  refine q_met (fun A => q_Qi D (wd_X0_agreesWithMarks cI cZ AT AT_of AT_ft AT_bv AT_ta AT_of_sl AT_of_fl AT_of_ro AT_of_nt AT_of_mk AT_of_mo AT_of_mk_c vT_of_ng vT_of_mk_n fT_of_mk_c) out A) (by decide) (Nat.le_of_ble_eq_true rfl) ?_
  intro p e s m below meth c ls A hx hb hr hml hown hts hlocks _ hA hS hP hD hK hN hl
  have hown : s.vm.findClass RX0 = some m.cls := hown
  have hl : lv_has ls 6 [(0, .ref AT), (1, .int p1), (2, .int p2)] := hl
  have hL_11 : ∀ (fu_11 : Nat) (x4 : Int32) (H : Heap) (locs : List Loc) (ls : Array Slot), fL_X0_agreesWithMarks_11 p1 p2 vT_of_mk_n fT_of_mk_c fu_11 x4 = some out → va_P D vwCl (wd_X0_agreesWithMarks cI cZ AT AT_of AT_ft AT_bv AT_ta AT_of_sl AT_of_fl AT_of_ro AT_of_nt AT_of_mk AT_of_mo AT_of_mk_c vT_of_ng vT_of_mk_n fT_of_mk_c) H → va_D A (wd_X0_agreesWithMarks cI cZ AT AT_of AT_ft AT_bv AT_ta AT_of_sl AT_of_fl AT_of_ro AT_of_nt AT_of_mk AT_of_mo AT_of_mk_c vT_of_ng vT_of_mk_n fT_of_mk_c) → va_S A s.heap H locs → lv_has ls 6 [(4, .int x4), (3, .ref AT_of_mk), (1, .int p1), (2, .int p2)] → W p l e { frames := 1, cells := 0, slots := 0, locals := 25 } s m ([.ref AT, .int p1, .int p2] : List Value).toArray below meth c H locs 0 0 (MQ below (q_Qi D (wd_X0_agreesWithMarks cI cZ AT AT_of AT_ft AT_bv AT_ta AT_of_sl AT_of_fl AT_of_ro AT_of_nt AT_of_mk AT_of_mo AT_of_mk_c vT_of_ng vT_of_mk_n fT_of_mk_c) out A) ([.ref AT, .int p1, .int p2] : List Value).toArray s 0 0 A) (F0 m 11 ls []) := by
    intro fu_11
    induction fu_11 with
    | zero => intro x4 H locs ls hm hP hD hS hl; exact absurd (show (none : Option (Int32)) = some out from hm) (fun h => nomatch h)
    | succ fu_11 ih_11 =>
      intro x4 H locs ls hm hP hD hS hl
      rw [fL_X0_agreesWithMarks_11] at hm
      refine lv_iload hx hb dX0_agreesWithMarks_11 (lv_at hl 0 rfl) ?_
      refine lv_aload_n hx hb dX0_agreesWithMarks_13 rfl (lv_at hl 1 rfl) ?_
      obtain ⟨r_14, hc_14, hm⟩ := ob_s hm
      refine q_ci (q_rv (rest := [.int x4]) ⟨hx, hb, hml, hown, hts⟩ hK hN hP hD (c_X3_size l D cI cZ H.size AT_of_mk AT_of_mk_c 4 vT_of_mk_n r_14 hc_14) mb_X3_size mv_X3_size wl_X0_35 [2] rfl rfl rfl (Nat.le_of_ble_eq_true rfl) (Nat.le_of_ble_eq_true rfl) rfl hl.1 rfl (Nat.le_of_ble_eq_true rfl) ⟨Nat.le_refl 0, Nat.le_refl 0⟩ dX0_agreesWithMarks_14) hP hD hS hA [2] rfl rfl (fun H locs hP hD hS => ?_)
      have hP : va_P D vwCl (wd_X0_agreesWithMarks cI cZ AT AT_of AT_ft AT_bv AT_ta AT_of_sl AT_of_fl AT_of_ro AT_of_nt AT_of_mk AT_of_mo AT_of_mk_c vT_of_ng vT_of_mk_n fT_of_mk_c) H := hP
      have hD : va_D A (wd_X0_agreesWithMarks cI cZ AT AT_of AT_ft AT_bv AT_ta AT_of_sl AT_of_fl AT_of_ro AT_of_nt AT_of_mk AT_of_mo AT_of_mk_c vT_of_ng vT_of_mk_n fT_of_mk_c) := hD
      refine lv_icmp_ge (tgt := 71) hx hb dX0_agreesWithMarks_17 (by decide) (fun c_17 => ?_) (fun c_17 => ?_)
      · have hm := it_s c_17 hm
        refine lv_iconst (v := 1) hx hb dX0_agreesWithMarks_71 (by decide) ?_
        have hm := Option.some.inj hm
        subst hm
        exact q_zret (v := 1) hx hb hr hlocks rfl hP hS dX0_agreesWithMarks_72
      · have hm := it_n c_17 hm
        refine lv_iload_n hx hb dX0_agreesWithMarks_20 rfl (lv_at hl 3 rfl) ?_
        refine lv_aload_n hx hb dX0_agreesWithMarks_21 rfl (lv_at hl 1 rfl) ?_
        refine lv_iload hx hb dX0_agreesWithMarks_22 (lv_at hl 0 rfl) ?_
        refine lv_iconst (v := 1) hx hb dX0_agreesWithMarks_24 (by decide) ?_
        obtain ⟨r_25, hc_25, hm⟩ := ob_s hm
        refine q_ci (q_rv (rest := [.int p2]) ⟨hx, hb, hml, hown, hts⟩ hK hN hP hD (c_X3_cell l D cI cZ H.size AT_of_mk AT_of_mk_c 4 24 vT_of_mk_n fT_of_mk_c x4 1 r_25 hc_25) mb_X3_cell mv_X3_cell wl_X0_48 [2, 3] rfl rfl rfl (Nat.le_of_ble_eq_true rfl) (Nat.le_of_ble_eq_true rfl) rfl hl.1 rfl (Nat.le_of_ble_eq_true rfl) ⟨Nat.le_refl 0, Nat.le_refl 0⟩ dX0_agreesWithMarks_25) hP hD hS hA [2, 3] rfl rfl (fun H locs hP hD hS => ?_)
        have hP : va_P D vwCl (wd_X0_agreesWithMarks cI cZ AT AT_of AT_ft AT_bv AT_ta AT_of_sl AT_of_fl AT_of_ro AT_of_nt AT_of_mk AT_of_mo AT_of_mk_c vT_of_ng vT_of_mk_n fT_of_mk_c) H := hP
        have hD : va_D A (wd_X0_agreesWithMarks cI cZ AT AT_of AT_ft AT_bv AT_ta AT_of_sl AT_of_fl AT_of_ro AT_of_nt AT_of_mk AT_of_mo AT_of_mk_c vT_of_ng vT_of_mk_n fT_of_mk_c) := hD
        refine lv_aload_n hx hb dX0_agreesWithMarks_28 rfl (lv_at hl 1 rfl) ?_
        refine lv_iload hx hb dX0_agreesWithMarks_29 (lv_at hl 0 rfl) ?_
        refine lv_iconst (v := 2) hx hb dX0_agreesWithMarks_31 (by decide) ?_
        obtain ⟨r_32, hc_32, hm⟩ := ob_s hm
        refine q_ci (q_rv (rest := [.int r_25, .int p2]) ⟨hx, hb, hml, hown, hts⟩ hK hN hP hD (c_X3_cell l D cI cZ H.size AT_of_mk AT_of_mk_c 4 24 vT_of_mk_n fT_of_mk_c x4 2 r_32 hc_32) mb_X3_cell mv_X3_cell wl_X0_48 [2, 3] rfl rfl rfl (Nat.le_of_ble_eq_true rfl) (Nat.le_of_ble_eq_true rfl) rfl hl.1 rfl (Nat.le_of_ble_eq_true rfl) ⟨Nat.le_refl 0, Nat.le_refl 0⟩ dX0_agreesWithMarks_32) hP hD hS hA [2, 3] rfl rfl (fun H locs hP hD hS => ?_)
        have hP : va_P D vwCl (wd_X0_agreesWithMarks cI cZ AT AT_of AT_ft AT_bv AT_ta AT_of_sl AT_of_fl AT_of_ro AT_of_nt AT_of_mk AT_of_mo AT_of_mk_c vT_of_ng vT_of_mk_n fT_of_mk_c) H := hP
        have hD : va_D A (wd_X0_agreesWithMarks cI cZ AT AT_of AT_ft AT_bv AT_ta AT_of_sl AT_of_fl AT_of_ro AT_of_nt AT_of_mk AT_of_mo AT_of_mk_c vT_of_ng vT_of_mk_n fT_of_mk_c) := hD
        obtain ⟨r_35, hc_35, hm⟩ := ob_s hm
        refine q_ci (q_rn (rest := []) ⟨hx, hb, hml, hown, hts⟩ hK hN hP hD (c_X7_belief l D cI cZ H.size p2 r_25 r_32 r_35 hc_35) mb_X7_belief wt_X7_belief (nl_X0_124 hN) [] rfl rfl (Nat.le_of_ble_eq_true rfl) (Nat.le_of_ble_eq_true rfl) rfl hl.1 rfl (Nat.le_of_ble_eq_true rfl) ⟨Nat.le_refl 0, Nat.le_refl 0⟩ dX0_agreesWithMarks_35) hP hD hS hA [] rfl rfl (fun H locs hP hD hS => ?_)
        have hP : va_P D vwCl (wd_X0_agreesWithMarks cI cZ AT AT_of AT_ft AT_bv AT_ta AT_of_sl AT_of_fl AT_of_ro AT_of_nt AT_of_mk AT_of_mo AT_of_mk_c vT_of_ng vT_of_mk_n fT_of_mk_c) H := hP
        have hD : va_D A (wd_X0_agreesWithMarks cI cZ AT AT_of AT_ft AT_bv AT_ta AT_of_sl AT_of_fl AT_of_ro AT_of_nt AT_of_mk AT_of_mo AT_of_mk_c vT_of_ng vT_of_mk_n fT_of_mk_c) := hD
        refine lv_istore (lv' := [(5, .int r_35), (4, .int x4), (3, .ref AT_of_mk), (1, .int p1), (2, .int p2)]) hx hb dX0_agreesWithMarks_38 hl (by decide) rfl (fun ls hl => ?_)
        refine lv_aload_n hx hb dX0_agreesWithMarks_40 rfl (lv_at hl 2 rfl) ?_
        refine lv_iload hx hb dX0_agreesWithMarks_41 (lv_at hl 1 rfl) ?_
        refine lv_iconst (v := 0) hx hb dX0_agreesWithMarks_43 (by decide) ?_
        obtain ⟨r_44, hc_44, hm⟩ := ob_s hm
        refine q_ci (q_rv (rest := []) ⟨hx, hb, hml, hown, hts⟩ hK hN hP hD (c_X3_cell l D cI cZ H.size AT_of_mk AT_of_mk_c 4 24 vT_of_mk_n fT_of_mk_c x4 0 r_44 hc_44) mb_X3_cell mv_X3_cell wl_X0_48 [2, 3] rfl rfl rfl (Nat.le_of_ble_eq_true rfl) (Nat.le_of_ble_eq_true rfl) rfl hl.1 rfl (Nat.le_of_ble_eq_true rfl) ⟨Nat.le_refl 0, Nat.le_refl 0⟩ dX0_agreesWithMarks_44) hP hD hS hA [2, 3] rfl rfl (fun H locs hP hD hS => ?_)
        have hP : va_P D vwCl (wd_X0_agreesWithMarks cI cZ AT AT_of AT_ft AT_bv AT_ta AT_of_sl AT_of_fl AT_of_ro AT_of_nt AT_of_mk AT_of_mo AT_of_mk_c vT_of_ng vT_of_mk_n fT_of_mk_c) H := hP
        have hD : va_D A (wd_X0_agreesWithMarks cI cZ AT AT_of AT_ft AT_bv AT_ta AT_of_sl AT_of_fl AT_of_ro AT_of_nt AT_of_mk AT_of_mo AT_of_mk_c vT_of_ng vT_of_mk_n fT_of_mk_c) := hD
        refine lv_iload_n hx hb dX0_agreesWithMarks_47 rfl (lv_at hl 3 rfl) ?_
        refine lv_icmp_ne (tgt := 65) hx hb dX0_agreesWithMarks_48 (by decide) (fun c_48 => ?_) (fun c_48 => ?_)
        · have hm := it_n c_48 hm
          refine lv_iinc (v := (x4 + 1)) (lv' := [(4, .int (x4 + 1)), (5, .int r_35), (3, .ref AT_of_mk), (1, .int p1), (2, .int p2)]) hx hb dX0_agreesWithMarks_65 hl (k := 1) rfl rfl (by decide) rfl (fun ls hl => ?_)
          refine lv_goto (tgt := 11) hx hb dX0_agreesWithMarks_68 (by decide) ?_
          exact ih_11 (x4 + 1) H locs ls hm hP hD hS (lv_sub hl [0, 2, 3, 4] rfl)
        · have hm := it_s c_48 hm
          refine lv_iload hx hb dX0_agreesWithMarks_51 (lv_at hl 0 rfl) ?_
          refine lv_aload_n hx hb dX0_agreesWithMarks_53 rfl (lv_at hl 2 rfl) ?_
          refine lv_iload hx hb dX0_agreesWithMarks_54 (lv_at hl 1 rfl) ?_
          refine lv_iconst (v := 3) hx hb dX0_agreesWithMarks_56 (by decide) ?_
          obtain ⟨r_57, hc_57, hm⟩ := ob_s hm
          refine q_ci (q_rv (rest := [.int r_35]) ⟨hx, hb, hml, hown, hts⟩ hK hN hP hD (c_X3_cell l D cI cZ H.size AT_of_mk AT_of_mk_c 4 24 vT_of_mk_n fT_of_mk_c x4 3 r_57 hc_57) mb_X3_cell mv_X3_cell wl_X0_48 [2, 3] rfl rfl rfl (Nat.le_of_ble_eq_true rfl) (Nat.le_of_ble_eq_true rfl) rfl hl.1 rfl (Nat.le_of_ble_eq_true rfl) ⟨Nat.le_refl 0, Nat.le_refl 0⟩ dX0_agreesWithMarks_57) hP hD hS hA [2, 3] rfl rfl (fun H locs hP hD hS => ?_)
          have hP : va_P D vwCl (wd_X0_agreesWithMarks cI cZ AT AT_of AT_ft AT_bv AT_ta AT_of_sl AT_of_fl AT_of_ro AT_of_nt AT_of_mk AT_of_mo AT_of_mk_c vT_of_ng vT_of_mk_n fT_of_mk_c) H := hP
          have hD : va_D A (wd_X0_agreesWithMarks cI cZ AT AT_of AT_ft AT_bv AT_ta AT_of_sl AT_of_fl AT_of_ro AT_of_nt AT_of_mk AT_of_mo AT_of_mk_c vT_of_ng vT_of_mk_n fT_of_mk_c) := hD
          refine lv_icmp_eq (tgt := 65) hx hb dX0_agreesWithMarks_60 (by decide) (fun c_60 => ?_) (fun c_60 => ?_)
          · have hm := it_s c_60 hm
            refine lv_iinc (v := (x4 + 1)) (lv' := [(4, .int (x4 + 1)), (5, .int r_35), (3, .ref AT_of_mk), (1, .int p1), (2, .int p2)]) hx hb dX0_agreesWithMarks_65 hl (k := 1) rfl rfl (by decide) rfl (fun ls hl => ?_)
            refine lv_goto (tgt := 11) hx hb dX0_agreesWithMarks_68 (by decide) ?_
            exact ih_11 (x4 + 1) H locs ls hm hP hD hS (lv_sub hl [0, 2, 3, 4] rfl)
          · have hm := it_n c_60 hm
            refine lv_iconst (v := 0) hx hb dX0_agreesWithMarks_63 (by decide) ?_
            have hm := Option.some.inj hm
            subst hm
            exact q_zret (v := 0) hx hb hr hlocks rfl hP hS dX0_agreesWithMarks_64
  unfold fm_X0_agreesWithMarks at hm
  refine q_gen hS hP ?_
  intro H locs hP hS
  refine lv_aload_n hx hb dX0_agreesWithMarks_0 rfl (lv_at hl 0 rfl) ?_
  refine gf_X0_9 (v := .ref AT_of) hx hb hts hown hK hN hP 0 rfl rfl dX0_agreesWithMarks_1 ?_
  refine gf_X0_121 (v := .ref AT_of_mk) hx hb hts hown hK hN hP 1 rfl rfl dX0_agreesWithMarks_4 ?_
  refine lv_astore_n (lv' := [(3, .ref AT_of_mk), (0, .ref AT), (1, .int p1), (2, .int p2)]) hx hb dX0_agreesWithMarks_7 rfl hl (by decide) rfl (fun ls hl => ?_)
  refine lv_iconst (v := 0) hx hb dX0_agreesWithMarks_8 (by decide) ?_
  refine lv_istore (lv' := [(4, .int 0), (3, .ref AT_of_mk), (0, .ref AT), (1, .int p1), (2, .int p2)]) hx hb dX0_agreesWithMarks_9 hl (by decide) rfl (fun ls hl => ?_)
  exact hL_11 FU 0 H locs ls hm hP hD hS (lv_sub hl [0, 1, 3, 4] rfl)
theorem mb_X0_sleeperKinds : q_mb yX0_sleeperKinds cX0_sleeperKinds 4 (some .int) 1 := ⟨wc_X0_sleeperKinds, wn_X0, by decide, by decide, by decide +kernel⟩
theorem mv_X0_sleeperKinds : q_mv yX0_sleeperKinds 0 := ⟨wi_X0_sleeperKinds, ws_X0_sleeperKinds, _, rfl, rfl⟩
def wd_X0_sleeperKinds (cI cZ : ClassId) (AT AT_of AT_ft AT_bv AT_ta AT_of_sl AT_of_fl AT_of_ro AT_of_nt AT_of_mk AT_of_mo AT_of_mk_c : Nat) (vT_of_ng : Int32) (vT_of_mk_n : Int32) (fT_of_mk_c : Nat → Int32) : va_W := [(AT, .inr (0, [.ref AT_of, .ref AT_ft, .ref AT_bv, .ref AT_ta])), (AT_of, .inr (4, [.ref AT_of_sl, .ref AT_of_fl, .ref AT_of_ro, .ref AT_of_nt, .ref AT_of_mk, .ref AT_of_mo, .int vT_of_ng])), (AT_of_mk, .inr (3, [.int 4, .ref AT_of_mk_c, .int vT_of_mk_n])), (AT_of_mk_c, .inl (cI, 24, .inl fT_of_mk_c))]
def fL_X0_sleeperKinds_4 (p1 : Int32) (vT_of_mk_n : Int32) (fT_of_mk_c : Nat → Int32) : Nat → Int32 → Int32 → Option (Int32)
  | 0, _, _ => none
  | fu + 1, x3, x2 => if 6 ≤ x3 then (some (x2)) else (Option.bind (fm_X0_agreesWithMarks p1 x3 vT_of_mk_n fT_of_mk_c) (fun r_13 => if r_13 = 0 then (fL_X0_sleeperKinds_4 p1 vT_of_mk_n fT_of_mk_c fu (x3 + 1) x2) else (fL_X0_sleeperKinds_4 p1 vT_of_mk_n fT_of_mk_c fu (x3 + 1) (x2 ||| (1 <<< (x3 &&& 31))))))
def fm_X0_sleeperKinds (p1 : Int32) (vT_of_mk_n : Int32) (fT_of_mk_c : Nat → Int32) : Option (Int32) := fL_X0_sleeperKinds_4 p1 vT_of_mk_n fT_of_mk_c FU 0 0
set_option maxHeartbeats 4000000 in
set_option maxRecDepth 100000 in
theorem c_X0_sleeperKinds (l : Launch) (D : va_G) (cI cZ : ClassId) (sz : Nat) (AT AT_of AT_ft AT_bv AT_ta AT_of_sl AT_of_fl AT_of_ro AT_of_nt AT_of_mk AT_of_mo AT_of_mk_c : Nat) (vT_of_ng : Int32) (vT_of_mk_n : Int32) (fT_of_mk_c : Nat → Int32) (p1 : Int32) (out : (Int32)) (hm : fm_X0_sleeperKinds p1 vT_of_mk_n fT_of_mk_c = some out) : Met l yX0_sleeperKinds (Cond.code yX0_sleeperKinds cX0_sleeperKinds 4 (some .int) :: bg) { frames := 2, cells := 0, slots := 0, locals := 50 } (va_Pc [.ref AT, .int p1] (q_pre D cI cZ sz (wd_X0_sleeperKinds cI cZ AT AT_of AT_ft AT_bv AT_ta AT_of_sl AT_of_fl AT_of_ro AT_of_nt AT_of_mk AT_of_mo AT_of_mk_c vT_of_ng vT_of_mk_n fT_of_mk_c))) (q_Qi D (wd_X0_sleeperKinds cI cZ AT AT_of AT_ft AT_bv AT_ta AT_of_sl AT_of_fl AT_of_ro AT_of_nt AT_of_mk AT_of_mo AT_of_mk_c vT_of_ng vT_of_mk_n fT_of_mk_c) out (va_A (wd_X0_sleeperKinds cI cZ AT AT_of AT_ft AT_bv AT_ta AT_of_sl AT_of_fl AT_of_ro AT_of_nt AT_of_mk AT_of_mo AT_of_mk_c vT_of_ng vT_of_mk_n fT_of_mk_c) sz)) 0 0 (va_A (wd_X0_sleeperKinds cI cZ AT AT_of AT_ft AT_bv AT_ta AT_of_sl AT_of_fl AT_of_ro AT_of_nt AT_of_mk AT_of_mo AT_of_mk_c vT_of_ng vT_of_mk_n fT_of_mk_c) sz) := by
  refine q_met (fun A => q_Qi D (wd_X0_sleeperKinds cI cZ AT AT_of AT_ft AT_bv AT_ta AT_of_sl AT_of_fl AT_of_ro AT_of_nt AT_of_mk AT_of_mo AT_of_mk_c vT_of_ng vT_of_mk_n fT_of_mk_c) out A) (by decide) (Nat.le_of_ble_eq_true rfl) ?_
  intro p e s m below meth c ls A hx hb hr hml hown hts hlocks _ hA hS hP hD hK hN hl
  have hown : s.vm.findClass RX0 = some m.cls := hown
  have hl : lv_has ls 4 [(0, .ref AT), (1, .int p1)] := hl
  have hL_4 : ∀ (fu_4 : Nat) (x3 : Int32) (x2 : Int32) (H : Heap) (locs : List Loc) (ls : Array Slot), fL_X0_sleeperKinds_4 p1 vT_of_mk_n fT_of_mk_c fu_4 x3 x2 = some out → va_P D vwCl (wd_X0_sleeperKinds cI cZ AT AT_of AT_ft AT_bv AT_ta AT_of_sl AT_of_fl AT_of_ro AT_of_nt AT_of_mk AT_of_mo AT_of_mk_c vT_of_ng vT_of_mk_n fT_of_mk_c) H → va_D A (wd_X0_sleeperKinds cI cZ AT AT_of AT_ft AT_bv AT_ta AT_of_sl AT_of_fl AT_of_ro AT_of_nt AT_of_mk AT_of_mo AT_of_mk_c vT_of_ng vT_of_mk_n fT_of_mk_c) → va_S A s.heap H locs → lv_has ls 4 [(3, .int x3), (2, .int x2), (0, .ref AT), (1, .int p1)] → W p l e { frames := 2, cells := 0, slots := 0, locals := 50 } s m ([.ref AT, .int p1] : List Value).toArray below meth c H locs 0 0 (MQ below (q_Qi D (wd_X0_sleeperKinds cI cZ AT AT_of AT_ft AT_bv AT_ta AT_of_sl AT_of_fl AT_of_ro AT_of_nt AT_of_mk AT_of_mo AT_of_mk_c vT_of_ng vT_of_mk_n fT_of_mk_c) out A) ([.ref AT, .int p1] : List Value).toArray s 0 0 A) (F0 m 4 ls []) := by
    intro fu_4
    induction fu_4 with
    | zero => intro x3 x2 H locs ls hm hP hD hS hl; exact absurd (show (none : Option (Int32)) = some out from hm) (fun h => nomatch h)
    | succ fu_4 ih_4 =>
      intro x3 x2 H locs ls hm hP hD hS hl
      rw [fL_X0_sleeperKinds_4] at hm
      refine lv_iload_n hx hb dX0_sleeperKinds_4 rfl (lv_at hl 0 rfl) ?_
      refine lv_bipush (v := 6) hx hb dX0_sleeperKinds_5 (by decide) ?_
      refine lv_icmp_ge (tgt := 31) hx hb dX0_sleeperKinds_7 (by decide) (fun c_7 => ?_) (fun c_7 => ?_)
      · have hm := it_s c_7 hm
        refine lv_iload_n hx hb dX0_sleeperKinds_31 rfl (lv_at hl 1 rfl) ?_
        have hm := Option.some.inj hm
        subst hm
        exact q_iret (v := x2) hx hb hr hlocks hP hS dX0_sleeperKinds_32
      · have hm := it_n c_7 hm
        refine lv_aload_n hx hb dX0_sleeperKinds_10 rfl (lv_at hl 2 rfl) ?_
        refine lv_iload_n hx hb dX0_sleeperKinds_11 rfl (lv_at hl 3 rfl) ?_
        refine lv_iload_n hx hb dX0_sleeperKinds_12 rfl (lv_at hl 0 rfl) ?_
        obtain ⟨r_13, hc_13, hm⟩ := ob_s hm
        refine q_ci (q_rv (rest := []) ⟨hx, hb, hml, hown, hts⟩ hK hN hP hD (c_X0_agreesWithMarks l D cI cZ H.size AT AT_of AT_ft AT_bv AT_ta AT_of_sl AT_of_fl AT_of_ro AT_of_nt AT_of_mk AT_of_mo AT_of_mk_c vT_of_ng vT_of_mk_n fT_of_mk_c p1 x3 r_13 hc_13) mb_X0_agreesWithMarks mv_X0_agreesWithMarks wl_X0_118 [0, 1, 2, 3] rfl rfl rfl (Nat.le_of_ble_eq_true rfl) (Nat.le_of_ble_eq_true rfl) rfl hl.1 rfl (Nat.le_of_ble_eq_true rfl) ⟨Nat.le_refl 0, Nat.le_refl 0⟩ dX0_sleeperKinds_13) hP hD hS hA [0, 1, 2, 3] rfl rfl (fun H locs hP hD hS => ?_)
        have hP : va_P D vwCl (wd_X0_sleeperKinds cI cZ AT AT_of AT_ft AT_bv AT_ta AT_of_sl AT_of_fl AT_of_ro AT_of_nt AT_of_mk AT_of_mo AT_of_mk_c vT_of_ng vT_of_mk_n fT_of_mk_c) H := hP
        have hD : va_D A (wd_X0_sleeperKinds cI cZ AT AT_of AT_ft AT_bv AT_ta AT_of_sl AT_of_fl AT_of_ro AT_of_nt AT_of_mk AT_of_mo AT_of_mk_c vT_of_ng vT_of_mk_n fT_of_mk_c) := hD
        refine lv_if_eq (tgt := 25) hx hb dX0_sleeperKinds_16 (by decide) (fun c_16 => ?_) (fun c_16 => ?_)
        · have hm := it_s c_16 hm
          refine lv_iinc (v := (x3 + 1)) (lv' := [(3, .int (x3 + 1)), (2, .int x2), (0, .ref AT), (1, .int p1)]) hx hb dX0_sleeperKinds_25 hl (k := 0) rfl rfl (by decide) rfl (fun ls hl => ?_)
          refine lv_goto (tgt := 4) hx hb dX0_sleeperKinds_28 (by decide) ?_
          exact ih_4 (x3 + 1) x2 H locs ls hm hP hD hS (lv_sub hl [0, 1, 2, 3] rfl)
        · have hm := it_n c_16 hm
          refine lv_iload_n hx hb dX0_sleeperKinds_19 rfl (lv_at hl 1 rfl) ?_
          refine lv_iconst (v := 1) hx hb dX0_sleeperKinds_20 (by decide) ?_
          refine lv_iload_n hx hb dX0_sleeperKinds_21 rfl (lv_at hl 0 rfl) ?_
          refine lv_ishl hx hb dX0_sleeperKinds_22 ?_
          refine lv_ior hx hb dX0_sleeperKinds_23 ?_
          refine lv_istore_n (lv' := [(2, .int (x2 ||| (1 <<< (x3 &&& 31)))), (3, .int x3), (0, .ref AT), (1, .int p1)]) hx hb dX0_sleeperKinds_24 rfl hl (by decide) rfl (fun ls hl => ?_)
          refine lv_iinc (v := (x3 + 1)) (lv' := [(3, .int (x3 + 1)), (2, .int (x2 ||| (1 <<< (x3 &&& 31)))), (0, .ref AT), (1, .int p1)]) hx hb dX0_sleeperKinds_25 hl (k := 1) rfl rfl (by decide) rfl (fun ls hl => ?_)
          refine lv_goto (tgt := 4) hx hb dX0_sleeperKinds_28 (by decide) ?_
          exact ih_4 (x3 + 1) (x2 ||| (1 <<< (x3 &&& 31))) H locs ls hm hP hD hS (lv_sub hl [0, 1, 2, 3] rfl)
  unfold fm_X0_sleeperKinds at hm
  refine q_gen hS hP ?_
  intro H locs hP hS
  refine lv_iconst (v := 0) hx hb dX0_sleeperKinds_0 (by decide) ?_
  refine lv_istore_n (lv' := [(2, .int 0), (0, .ref AT), (1, .int p1)]) hx hb dX0_sleeperKinds_1 rfl hl (by decide) rfl (fun ls hl => ?_)
  refine lv_iconst (v := 0) hx hb dX0_sleeperKinds_2 (by decide) ?_
  refine lv_istore_n (lv' := [(3, .int 0), (2, .int 0), (0, .ref AT), (1, .int p1)]) hx hb dX0_sleeperKinds_3 rfl hl (by decide) rfl (fun ls hl => ?_)
  exact hL_4 FU 0 0 H locs ls hm hP hD hS (lv_sub hl [0, 1, 2, 3] rfl)
theorem mb_X0_seeSleeperKinds : q_mb yX0_seeSleeperKinds cX0_seeSleeperKinds 5 none 3 := ⟨wc_X0_seeSleeperKinds, wn_X0, by decide, by decide, by decide +kernel⟩
theorem mv_X0_seeSleeperKinds : q_mv yX0_seeSleeperKinds 0 := ⟨wi_X0_seeSleeperKinds, ws_X0_seeSleeperKinds, _, rfl, rfl⟩
def wd_X0_seeSleeperKinds (cI cZ : ClassId) (AT AT_of AT_ft AT_bv AT_ta AT_ta_sn : Nat) (vT_ta_hi : Int32) (vT_ta_ms : Int32) (vT_ta_bl : Int32) (vT_ta_fw : Int32) (fT_ta_sn : Nat → Int32) : va_W := [(AT, .inr (0, [.ref AT_of, .ref AT_ft, .ref AT_bv, .ref AT_ta])), (AT_ta, .inr (6, [.ref AT_ta_sn, .int vT_ta_hi, .int vT_ta_ms, .int vT_ta_bl, .int vT_ta_fw])), (AT_ta_sn, .inl (cI, 256, .inl fT_ta_sn))]
def fL_X0_seeSleeperKinds_10 (p1 : Int32) (p2 : Int32) (p3 : Int32) : Nat → Int32 → Int32 → Int32 → (Nat → Int32) → Option (Int32 × Int32 × (Nat → Int32))
  | 0, _, _, _, _ => none
  | fu + 1, x4, vT_ta_hi, vT_ta_ms, fT_ta_sn => if 6 ≤ x4 then (some (vT_ta_hi, vT_ta_ms, fT_ta_sn)) else (Option.bind (fm_X7_holds p1 x4) (fun r_20 => if r_20 = 0 then (fL_X0_seeSleeperKinds_10 p1 p2 p3 fu (x4 + 1) vT_ta_hi vT_ta_ms fT_ta_sn) else (Option.bind (fm_X7_belief x4 p2 p3) (fun r_34 => Option.bind (fm_X6_see r_34 vT_ta_hi vT_ta_ms fT_ta_sn) (fun r_37 => fL_X0_seeSleeperKinds_10 p1 p2 p3 fu (x4 + 1) r_37.1 r_37.2.1 r_37.2.2)))))
def fm_X0_seeSleeperKinds (p1 : Int32) (p2 : Int32) (p3 : Int32) (vT_ta_hi : Int32) (vT_ta_ms : Int32) (fT_ta_sn : Nat → Int32) : Option (Int32 × Int32 × (Nat → Int32)) := Option.bind (fm_X6_startLook vT_ta_hi vT_ta_ms fT_ta_sn) (fun r_4 => fL_X0_seeSleeperKinds_10 p1 p2 p3 FU 0 r_4.1 r_4.2.1 r_4.2.2)
set_option maxHeartbeats 4000000 in
set_option maxRecDepth 100000 in
theorem c_X0_seeSleeperKinds (l : Launch) (D : va_G) (cI cZ : ClassId) (sz : Nat) (AT AT_of AT_ft AT_bv AT_ta AT_ta_sn : Nat) (vT_ta_hi : Int32) (vT_ta_ms : Int32) (vT_ta_bl : Int32) (vT_ta_fw : Int32) (fT_ta_sn : Nat → Int32) (p1 : Int32) (p2 : Int32) (p3 : Int32) (out : (Int32 × Int32 × (Nat → Int32))) (hm : fm_X0_seeSleeperKinds p1 p2 p3 vT_ta_hi vT_ta_ms fT_ta_sn = some out) : Met l yX0_seeSleeperKinds (Cond.code yX0_seeSleeperKinds cX0_seeSleeperKinds 5 none :: bg) { frames := 2, cells := 0, slots := 0, locals := 44 } (va_Pc [.ref AT, .int p1, .int p2, .int p3] (q_pre D cI cZ sz (wd_X0_seeSleeperKinds cI cZ AT AT_of AT_ft AT_bv AT_ta AT_ta_sn vT_ta_hi vT_ta_ms vT_ta_bl vT_ta_fw fT_ta_sn))) (q_Qv D (wd_X0_seeSleeperKinds cI cZ AT AT_of AT_ft AT_bv AT_ta AT_ta_sn out.1 out.2.1 vT_ta_bl vT_ta_fw out.2.2) (va_A (wd_X0_seeSleeperKinds cI cZ AT AT_of AT_ft AT_bv AT_ta AT_ta_sn vT_ta_hi vT_ta_ms vT_ta_bl vT_ta_fw fT_ta_sn) sz)) 0 0 (va_A (wd_X0_seeSleeperKinds cI cZ AT AT_of AT_ft AT_bv AT_ta AT_ta_sn vT_ta_hi vT_ta_ms vT_ta_bl vT_ta_fw fT_ta_sn) sz) := by
  refine q_met (fun A => q_Qv D (wd_X0_seeSleeperKinds cI cZ AT AT_of AT_ft AT_bv AT_ta AT_ta_sn out.1 out.2.1 vT_ta_bl vT_ta_fw out.2.2) A) (by decide) (Nat.le_of_ble_eq_true rfl) ?_
  intro p e s m below meth c ls A hx hb hr hml hown hts hlocks _ hA hS hP hD hK hN hl
  have hown : s.vm.findClass RX0 = some m.cls := hown
  have hl : lv_has ls 5 [(0, .ref AT), (1, .int p1), (2, .int p2), (3, .int p3)] := hl
  have hL_10 : ∀ (fu_10 : Nat) (x4 : Int32) (vT_ta_hi : Int32) (vT_ta_ms : Int32) (fT_ta_sn : Nat → Int32) (H : Heap) (locs : List Loc) (ls : Array Slot), fL_X0_seeSleeperKinds_10 p1 p2 p3 fu_10 x4 vT_ta_hi vT_ta_ms fT_ta_sn = some out → va_P D vwCl (wd_X0_seeSleeperKinds cI cZ AT AT_of AT_ft AT_bv AT_ta AT_ta_sn vT_ta_hi vT_ta_ms vT_ta_bl vT_ta_fw fT_ta_sn) H → va_D A (wd_X0_seeSleeperKinds cI cZ AT AT_of AT_ft AT_bv AT_ta AT_ta_sn vT_ta_hi vT_ta_ms vT_ta_bl vT_ta_fw fT_ta_sn) → va_S A s.heap H locs → lv_has ls 5 [(4, .int x4), (0, .ref AT), (1, .int p1), (2, .int p2), (3, .int p3)] → W p l e { frames := 2, cells := 0, slots := 0, locals := 44 } s m ([.ref AT, .int p1, .int p2, .int p3] : List Value).toArray below meth c H locs 0 0 (MQ below (q_Qv D (wd_X0_seeSleeperKinds cI cZ AT AT_of AT_ft AT_bv AT_ta AT_ta_sn out.1 out.2.1 vT_ta_bl vT_ta_fw out.2.2) A) ([.ref AT, .int p1, .int p2, .int p3] : List Value).toArray s 0 0 A) (F0 m 10 ls []) := by
    intro fu_10
    induction fu_10 with
    | zero => intro x4 vT_ta_hi vT_ta_ms fT_ta_sn H locs ls hm hP hD hS hl; exact absurd (show (none : Option (Int32 × Int32 × (Nat → Int32))) = some out from hm) (fun h => nomatch h)
    | succ fu_10 ih_10 =>
      intro x4 vT_ta_hi vT_ta_ms fT_ta_sn H locs ls hm hP hD hS hl
      rw [fL_X0_seeSleeperKinds_10] at hm
      refine lv_iload hx hb dX0_seeSleeperKinds_10 (lv_at hl 0 rfl) ?_
      refine lv_bipush (v := 6) hx hb dX0_seeSleeperKinds_12 (by decide) ?_
      refine lv_icmp_ge (tgt := 46) hx hb dX0_seeSleeperKinds_14 (by decide) (fun c_14 => ?_) (fun c_14 => ?_)
      · have hm := it_s c_14 hm
        have hm := Option.some.inj hm
        subst hm
        exact q_vret hx hb hr hlocks hP hS dX0_seeSleeperKinds_46
      · have hm := it_n c_14 hm
        refine lv_iload_n hx hb dX0_seeSleeperKinds_17 rfl (lv_at hl 2 rfl) ?_
        refine lv_iload hx hb dX0_seeSleeperKinds_18 (lv_at hl 0 rfl) ?_
        obtain ⟨r_20, hc_20, hm⟩ := ob_s hm
        refine q_ci (q_rn (rest := []) ⟨hx, hb, hml, hown, hts⟩ hK hN hP hD (c_X7_holds l D cI cZ H.size p1 x4 r_20 hc_20) mb_X7_holds wt_X7_holds (nl_X0_68 hN) [] rfl rfl (Nat.le_of_ble_eq_true rfl) (Nat.le_of_ble_eq_true rfl) rfl hl.1 rfl (Nat.le_of_ble_eq_true rfl) ⟨Nat.le_refl 0, Nat.le_refl 0⟩ dX0_seeSleeperKinds_20) hP hD hS hA [] rfl rfl (fun H locs hP hD hS => ?_)
        have hP : va_P D vwCl (wd_X0_seeSleeperKinds cI cZ AT AT_of AT_ft AT_bv AT_ta AT_ta_sn vT_ta_hi vT_ta_ms vT_ta_bl vT_ta_fw fT_ta_sn) H := hP
        have hD : va_D A (wd_X0_seeSleeperKinds cI cZ AT AT_of AT_ft AT_bv AT_ta AT_ta_sn vT_ta_hi vT_ta_ms vT_ta_bl vT_ta_fw fT_ta_sn) := hD
        refine lv_if_eq (tgt := 40) hx hb dX0_seeSleeperKinds_23 (by decide) (fun c_23 => ?_) (fun c_23 => ?_)
        · have hm := it_s c_23 hm
          refine lv_iinc (v := (x4 + 1)) (lv' := [(4, .int (x4 + 1)), (0, .ref AT), (1, .int p1), (2, .int p2), (3, .int p3)]) hx hb dX0_seeSleeperKinds_40 hl (k := 0) rfl rfl (by decide) rfl (fun ls hl => ?_)
          refine lv_goto (tgt := 10) hx hb dX0_seeSleeperKinds_43 (by decide) ?_
          exact ih_10 (x4 + 1) vT_ta_hi vT_ta_ms fT_ta_sn H locs ls hm hP hD hS (lv_sub hl [0, 1, 2, 3, 4] rfl)
        · have hm := it_n c_23 hm
          refine lv_aload_n hx hb dX0_seeSleeperKinds_26 rfl (lv_at hl 1 rfl) ?_
          refine gf_X0_25 (v := .ref AT_ta) hx hb hts hown hK hN hP 0 rfl rfl dX0_seeSleeperKinds_27 ?_
          refine lv_iload hx hb dX0_seeSleeperKinds_30 (lv_at hl 0 rfl) ?_
          refine lv_iload_n hx hb dX0_seeSleeperKinds_32 rfl (lv_at hl 3 rfl) ?_
          refine lv_iload_n hx hb dX0_seeSleeperKinds_33 rfl (lv_at hl 4 rfl) ?_
          obtain ⟨r_34, hc_34, hm⟩ := ob_s hm
          refine q_ci (q_rn (rest := [.ref AT_ta]) ⟨hx, hb, hml, hown, hts⟩ hK hN hP hD (c_X7_belief l D cI cZ H.size x4 p2 p3 r_34 hc_34) mb_X7_belief wt_X7_belief (nl_X0_124 hN) [] rfl rfl (Nat.le_of_ble_eq_true rfl) (Nat.le_of_ble_eq_true rfl) rfl hl.1 rfl (Nat.le_of_ble_eq_true rfl) ⟨Nat.le_refl 0, Nat.le_refl 0⟩ dX0_seeSleeperKinds_34) hP hD hS hA [] rfl rfl (fun H locs hP hD hS => ?_)
          have hP : va_P D vwCl (wd_X0_seeSleeperKinds cI cZ AT AT_of AT_ft AT_bv AT_ta AT_ta_sn vT_ta_hi vT_ta_ms vT_ta_bl vT_ta_fw fT_ta_sn) H := hP
          have hD : va_D A (wd_X0_seeSleeperKinds cI cZ AT AT_of AT_ft AT_bv AT_ta AT_ta_sn vT_ta_hi vT_ta_ms vT_ta_bl vT_ta_fw fT_ta_sn) := hD
          obtain ⟨r_37, hc_37, hm⟩ := ob_s hm
          refine q_cv (q_rv (rest := []) ⟨hx, hb, hml, hown, hts⟩ hK hN hP hD (c_X6_see l D cI cZ H.size AT_ta AT_ta_sn vT_ta_hi vT_ta_ms vT_ta_bl vT_ta_fw fT_ta_sn r_34 r_37 hc_37) mb_X6_see mv_X6_see wl_X0_100 [1, 2] rfl rfl rfl (Nat.le_of_ble_eq_true rfl) (Nat.le_of_ble_eq_true rfl) rfl hl.1 rfl (Nat.le_of_ble_eq_true rfl) ⟨Nat.le_refl 0, Nat.le_refl 0⟩ dX0_seeSleeperKinds_37) hP hD hS hA [1, 2] rfl rfl (fun H locs hP hD hS => ?_)
          have hP : va_P D vwCl (wd_X0_seeSleeperKinds cI cZ AT AT_of AT_ft AT_bv AT_ta AT_ta_sn r_37.1 r_37.2.1 vT_ta_bl vT_ta_fw r_37.2.2) H := hP
          have hD : va_D A (wd_X0_seeSleeperKinds cI cZ AT AT_of AT_ft AT_bv AT_ta AT_ta_sn r_37.1 r_37.2.1 vT_ta_bl vT_ta_fw r_37.2.2) := hD
          refine lv_iinc (v := (x4 + 1)) (lv' := [(4, .int (x4 + 1)), (0, .ref AT), (1, .int p1), (2, .int p2), (3, .int p3)]) hx hb dX0_seeSleeperKinds_40 hl (k := 0) rfl rfl (by decide) rfl (fun ls hl => ?_)
          refine lv_goto (tgt := 10) hx hb dX0_seeSleeperKinds_43 (by decide) ?_
          exact ih_10 (x4 + 1) r_37.1 r_37.2.1 r_37.2.2 H locs ls hm hP hD hS (lv_sub hl [0, 1, 2, 3, 4] rfl)
  unfold fm_X0_seeSleeperKinds at hm
  refine q_gen hS hP ?_
  intro H locs hP hS
  refine lv_aload_n hx hb dX0_seeSleeperKinds_0 rfl (lv_at hl 0 rfl) ?_
  refine gf_X0_25 (v := .ref AT_ta) hx hb hts hown hK hN hP 0 rfl rfl dX0_seeSleeperKinds_1 ?_
  obtain ⟨r_4, hc_4, hm⟩ := ob_s hm
  refine q_cv (q_rv (rest := []) ⟨hx, hb, hml, hown, hts⟩ hK hN hP hD (c_X6_startLook l D cI cZ H.size AT_ta AT_ta_sn vT_ta_hi vT_ta_ms vT_ta_bl vT_ta_fw fT_ta_sn r_4 hc_4) mb_X6_startLook mv_X6_startLook wl_X0_97 [1, 2] rfl rfl rfl (Nat.le_of_ble_eq_true rfl) (Nat.le_of_ble_eq_true rfl) rfl hl.1 rfl (Nat.le_of_ble_eq_true rfl) ⟨Nat.le_refl 0, Nat.le_refl 0⟩ dX0_seeSleeperKinds_4) hP hD hS hA [1, 2] rfl rfl (fun H locs hP hD hS => ?_)
  have hP : va_P D vwCl (wd_X0_seeSleeperKinds cI cZ AT AT_of AT_ft AT_bv AT_ta AT_ta_sn r_4.1 r_4.2.1 vT_ta_bl vT_ta_fw r_4.2.2) H := hP
  have hD : va_D A (wd_X0_seeSleeperKinds cI cZ AT AT_of AT_ft AT_bv AT_ta AT_ta_sn r_4.1 r_4.2.1 vT_ta_bl vT_ta_fw r_4.2.2) := hD
  refine lv_iconst (v := 0) hx hb dX0_seeSleeperKinds_7 (by decide) ?_
  refine lv_istore (lv' := [(4, .int 0), (0, .ref AT), (1, .int p1), (2, .int p2), (3, .int p3)]) hx hb dX0_seeSleeperKinds_8 hl (by decide) rfl (fun ls hl => ?_)
  exact hL_10 FU 0 r_4.1 r_4.2.1 r_4.2.2 H locs ls hm hP hD hS (lv_sub hl [0, 1, 2, 3, 4] rfl)
theorem mb_X0_asking : q_mb yX0_asking cX0_asking 4 (some .int) 1 := ⟨wc_X0_asking, wn_X0, by decide, by decide, by decide +kernel⟩
theorem mv_X0_asking : q_mv yX0_asking 0 := ⟨wi_X0_asking, ws_X0_asking, _, rfl, rfl⟩
def wd_X0_asking (cI cZ : ClassId) (AT AT_of AT_ft AT_bv AT_ta AT_of_sl AT_of_fl AT_of_ro AT_of_nt AT_of_mk AT_of_mo AT_of_mk_c AT_ta_sn : Nat) (vT_of_ng : Int32) (vT_of_mk_n : Int32) (fT_of_mk_c : Nat → Int32) (vT_ta_hi : Int32) (vT_ta_ms : Int32) (vT_ta_bl : Int32) (vT_ta_fw : Int32) (fT_ta_sn : Nat → Int32) : va_W := [(AT, .inr (0, [.ref AT_of, .ref AT_ft, .ref AT_bv, .ref AT_ta])), (AT_of, .inr (4, [.ref AT_of_sl, .ref AT_of_fl, .ref AT_of_ro, .ref AT_of_nt, .ref AT_of_mk, .ref AT_of_mo, .int vT_of_ng])), (AT_of_mk, .inr (3, [.int 4, .ref AT_of_mk_c, .int vT_of_mk_n])), (AT_of_mk_c, .inl (cI, 24, .inl fT_of_mk_c)), (AT_ta, .inr (6, [.ref AT_ta_sn, .int vT_ta_hi, .int vT_ta_ms, .int vT_ta_bl, .int vT_ta_fw])), (AT_ta_sn, .inl (cI, 256, .inl fT_ta_sn))]
def fL_X0_asking_21 (p1 : Int32) (vT_of_mk_n : Int32) (fT_of_mk_c : Nat → Int32) : Nat → Int32 → Int32 → Int32 → Int32 → Int32 → Int32 → (Nat → Int32) → Option (Int32 × Int32 × Int32 × Int32 × Int32 × (Nat → Int32))
  | 0, _, _, _, _, _, _, _ => none
  | fu + 1, x3, x2, vT_ta_hi, vT_ta_ms, vT_ta_bl, vT_ta_fw, fT_ta_sn => if 210 ≤ x3 then (some (vT_ta_bl, vT_ta_hi, vT_ta_ms, vT_ta_bl, vT_ta_fw, fT_ta_sn)) else (Option.bind (fm_X0_seeSleeperKinds x2 (x3 / 10) (x3 - x3 / 10 * 10) vT_ta_hi vT_ta_ms fT_ta_sn) (fun r_38 => Option.bind (fm_X6_endLook x3 r_38.2.1 vT_ta_bl vT_ta_fw) (fun r_46 => fL_X0_asking_21 p1 vT_of_mk_n fT_of_mk_c fu (x3 + 1) x2 r_38.1 r_38.2.1 r_46.1 r_46.2 r_38.2.2)))
def fm_X0_asking (p1 : Int32) (vT_of_mk_n : Int32) (fT_of_mk_c : Nat → Int32) (vT_ta_hi : Int32) (vT_ta_ms : Int32) (vT_ta_bl : Int32) (vT_ta_fw : Int32) (fT_ta_sn : Nat → Int32) : Option (Int32 × Int32 × Int32 × Int32 × Int32 × (Nat → Int32)) := Option.bind (fm_X0_sleeperKinds p1 vT_of_mk_n fT_of_mk_c) (fun r_2 => if r_2 = 0 then (some ((-1), vT_ta_hi, vT_ta_ms, vT_ta_bl, vT_ta_fw, fT_ta_sn)) else (Option.bind (fm_X6_startLooking vT_ta_bl vT_ta_fw) (fun r_16 => fL_X0_asking_21 p1 vT_of_mk_n fT_of_mk_c FU 0 r_2 vT_ta_hi vT_ta_ms r_16.1 r_16.2 fT_ta_sn)))
set_option maxHeartbeats 4000000 in
set_option maxRecDepth 100000 in
theorem c_X0_asking (l : Launch) (D : va_G) (cI cZ : ClassId) (sz : Nat) (AT AT_of AT_ft AT_bv AT_ta AT_of_sl AT_of_fl AT_of_ro AT_of_nt AT_of_mk AT_of_mo AT_of_mk_c AT_ta_sn : Nat) (vT_of_ng : Int32) (vT_of_mk_n : Int32) (fT_of_mk_c : Nat → Int32) (vT_ta_hi : Int32) (vT_ta_ms : Int32) (vT_ta_bl : Int32) (vT_ta_fw : Int32) (fT_ta_sn : Nat → Int32) (p1 : Int32) (out : (Int32 × Int32 × Int32 × Int32 × Int32 × (Nat → Int32))) (hm : fm_X0_asking p1 vT_of_mk_n fT_of_mk_c vT_ta_hi vT_ta_ms vT_ta_bl vT_ta_fw fT_ta_sn = some out) : Met l yX0_asking (Cond.code yX0_asking cX0_asking 4 (some .int) :: bg) { frames := 3, cells := 0, slots := 0, locals := 73 } (va_Pc [.ref AT, .int p1] (q_pre D cI cZ sz (wd_X0_asking cI cZ AT AT_of AT_ft AT_bv AT_ta AT_of_sl AT_of_fl AT_of_ro AT_of_nt AT_of_mk AT_of_mo AT_of_mk_c AT_ta_sn vT_of_ng vT_of_mk_n fT_of_mk_c vT_ta_hi vT_ta_ms vT_ta_bl vT_ta_fw fT_ta_sn))) (q_Qi D (wd_X0_asking cI cZ AT AT_of AT_ft AT_bv AT_ta AT_of_sl AT_of_fl AT_of_ro AT_of_nt AT_of_mk AT_of_mo AT_of_mk_c AT_ta_sn vT_of_ng vT_of_mk_n fT_of_mk_c out.2.1 out.2.2.1 out.2.2.2.1 out.2.2.2.2.1 out.2.2.2.2.2) out.1 (va_A (wd_X0_asking cI cZ AT AT_of AT_ft AT_bv AT_ta AT_of_sl AT_of_fl AT_of_ro AT_of_nt AT_of_mk AT_of_mo AT_of_mk_c AT_ta_sn vT_of_ng vT_of_mk_n fT_of_mk_c vT_ta_hi vT_ta_ms vT_ta_bl vT_ta_fw fT_ta_sn) sz)) 0 0 (va_A (wd_X0_asking cI cZ AT AT_of AT_ft AT_bv AT_ta AT_of_sl AT_of_fl AT_of_ro AT_of_nt AT_of_mk AT_of_mo AT_of_mk_c AT_ta_sn vT_of_ng vT_of_mk_n fT_of_mk_c vT_ta_hi vT_ta_ms vT_ta_bl vT_ta_fw fT_ta_sn) sz) := by
  refine q_met (fun A => q_Qi D (wd_X0_asking cI cZ AT AT_of AT_ft AT_bv AT_ta AT_of_sl AT_of_fl AT_of_ro AT_of_nt AT_of_mk AT_of_mo AT_of_mk_c AT_ta_sn vT_of_ng vT_of_mk_n fT_of_mk_c out.2.1 out.2.2.1 out.2.2.2.1 out.2.2.2.2.1 out.2.2.2.2.2) out.1 A) (by decide) (Nat.le_of_ble_eq_true rfl) ?_
  intro p e s m below meth c ls A hx hb hr hml hown hts hlocks _ hA hS hP hD hK hN hl
  have hown : s.vm.findClass RX0 = some m.cls := hown
  have hl : lv_has ls 4 [(0, .ref AT), (1, .int p1)] := hl
  have hL_21 : ∀ (fu_21 : Nat) (x3 : Int32) (x2 : Int32) (vT_ta_hi : Int32) (vT_ta_ms : Int32) (vT_ta_bl : Int32) (vT_ta_fw : Int32) (fT_ta_sn : Nat → Int32) (H : Heap) (locs : List Loc) (ls : Array Slot), fL_X0_asking_21 p1 vT_of_mk_n fT_of_mk_c fu_21 x3 x2 vT_ta_hi vT_ta_ms vT_ta_bl vT_ta_fw fT_ta_sn = some out → va_P D vwCl (wd_X0_asking cI cZ AT AT_of AT_ft AT_bv AT_ta AT_of_sl AT_of_fl AT_of_ro AT_of_nt AT_of_mk AT_of_mo AT_of_mk_c AT_ta_sn vT_of_ng vT_of_mk_n fT_of_mk_c vT_ta_hi vT_ta_ms vT_ta_bl vT_ta_fw fT_ta_sn) H → va_D A (wd_X0_asking cI cZ AT AT_of AT_ft AT_bv AT_ta AT_of_sl AT_of_fl AT_of_ro AT_of_nt AT_of_mk AT_of_mo AT_of_mk_c AT_ta_sn vT_of_ng vT_of_mk_n fT_of_mk_c vT_ta_hi vT_ta_ms vT_ta_bl vT_ta_fw fT_ta_sn) → va_S A s.heap H locs → lv_has ls 4 [(3, .int x3), (2, .int x2), (0, .ref AT)] → W p l e { frames := 3, cells := 0, slots := 0, locals := 73 } s m ([.ref AT, .int p1] : List Value).toArray below meth c H locs 0 0 (MQ below (q_Qi D (wd_X0_asking cI cZ AT AT_of AT_ft AT_bv AT_ta AT_of_sl AT_of_fl AT_of_ro AT_of_nt AT_of_mk AT_of_mo AT_of_mk_c AT_ta_sn vT_of_ng vT_of_mk_n fT_of_mk_c out.2.1 out.2.2.1 out.2.2.2.1 out.2.2.2.2.1 out.2.2.2.2.2) out.1 A) ([.ref AT, .int p1] : List Value).toArray s 0 0 A) (F0 m 21 ls []) := by
    intro fu_21
    induction fu_21 with
    | zero => intro x3 x2 vT_ta_hi vT_ta_ms vT_ta_bl vT_ta_fw fT_ta_sn H locs ls hm hP hD hS hl; exact absurd (show (none : Option (Int32 × Int32 × Int32 × Int32 × Int32 × (Nat → Int32))) = some out from hm) (fun h => nomatch h)
    | succ fu_21 ih_21 =>
      intro x3 x2 vT_ta_hi vT_ta_ms vT_ta_bl vT_ta_fw fT_ta_sn H locs ls hm hP hD hS hl
      rw [fL_X0_asking_21] at hm
      refine lv_iload_n hx hb dX0_asking_21 rfl (lv_at hl 0 rfl) ?_
      refine lv_sipush (v := 210) hx hb dX0_asking_22 (by decide) ?_
      refine lv_icmp_ge (tgt := 55) hx hb dX0_asking_25 (by decide) (fun c_25 => ?_) (fun c_25 => ?_)
      · have hm := it_s c_25 hm
        refine lv_aload_n hx hb dX0_asking_55 rfl (lv_at hl 2 rfl) ?_
        refine gf_X0_25 (v := .ref AT_ta) hx hb hts hown hK hN hP 0 rfl rfl dX0_asking_56 ?_
        refine gf_X0_93 (v := .int vT_ta_bl) hx hb hts hown hK hN hP 4 rfl rfl dX0_asking_59 ?_
        have hm := Option.some.inj hm
        subst hm
        exact q_iret (v := vT_ta_bl) hx hb hr hlocks hP hS dX0_asking_62
      · have hm := it_n c_25 hm
        refine lv_aload_n hx hb dX0_asking_28 rfl (lv_at hl 2 rfl) ?_
        refine lv_iload_n hx hb dX0_asking_29 rfl (lv_at hl 1 rfl) ?_
        refine lv_iload_n hx hb dX0_asking_30 rfl (lv_at hl 0 rfl) ?_
        refine lv_bipush (v := 10) hx hb dX0_asking_31 (by decide) ?_
        refine lv_idiv hx hb dX0_asking_33 (by decide) ?_
        refine lv_iload_n hx hb dX0_asking_34 rfl (lv_at hl 0 rfl) ?_
        refine lv_bipush (v := 10) hx hb dX0_asking_35 (by decide) ?_
        refine lv_irem hx hb dX0_asking_37 (by decide) ?_
        obtain ⟨r_38, hc_38, hm⟩ := ob_s hm
        refine q_cv (q_rv (rest := []) ⟨hx, hb, hml, hown, hts⟩ hK hN hP hD (c_X0_seeSleeperKinds l D cI cZ H.size AT AT_of AT_ft AT_bv AT_ta AT_ta_sn vT_ta_hi vT_ta_ms vT_ta_bl vT_ta_fw fT_ta_sn x2 (x3 / 10) (x3 - x3 / 10 * 10) r_38 hc_38) mb_X0_seeSleeperKinds mv_X0_seeSleeperKinds wl_X0_130 [0, 4, 5] rfl rfl rfl (Nat.le_of_ble_eq_true rfl) (Nat.le_of_ble_eq_true rfl) rfl hl.1 rfl (Nat.le_of_ble_eq_true rfl) ⟨Nat.le_refl 0, Nat.le_refl 0⟩ dX0_asking_38) hP hD hS hA [0, 4, 5] rfl rfl (fun H locs hP hD hS => ?_)
        have hP : va_P D vwCl (wd_X0_asking cI cZ AT AT_of AT_ft AT_bv AT_ta AT_of_sl AT_of_fl AT_of_ro AT_of_nt AT_of_mk AT_of_mo AT_of_mk_c AT_ta_sn vT_of_ng vT_of_mk_n fT_of_mk_c r_38.1 r_38.2.1 vT_ta_bl vT_ta_fw r_38.2.2) H := hP
        have hD : va_D A (wd_X0_asking cI cZ AT AT_of AT_ft AT_bv AT_ta AT_of_sl AT_of_fl AT_of_ro AT_of_nt AT_of_mk AT_of_mo AT_of_mk_c AT_ta_sn vT_of_ng vT_of_mk_n fT_of_mk_c r_38.1 r_38.2.1 vT_ta_bl vT_ta_fw r_38.2.2) := hD
        refine lv_aload_n hx hb dX0_asking_41 rfl (lv_at hl 2 rfl) ?_
        refine gf_X0_25 (v := .ref AT_ta) hx hb hts hown hK hN hP 0 rfl rfl dX0_asking_42 ?_
        refine lv_iload_n hx hb dX0_asking_45 rfl (lv_at hl 0 rfl) ?_
        obtain ⟨r_46, hc_46, hm⟩ := ob_s hm
        refine q_cv (q_rv (rest := []) ⟨hx, hb, hml, hown, hts⟩ hK hN hP hD (c_X6_endLook l D cI cZ H.size AT_ta AT_ta_sn r_38.1 r_38.2.1 vT_ta_bl vT_ta_fw x3 r_46 hc_46) mb_X6_endLook mv_X6_endLook wl_X0_89 [4] rfl rfl rfl (Nat.le_of_ble_eq_true rfl) (Nat.le_of_ble_eq_true rfl) rfl hl.1 rfl (Nat.le_of_ble_eq_true rfl) ⟨Nat.le_refl 0, Nat.le_refl 0⟩ dX0_asking_46) hP hD hS hA [4] rfl rfl (fun H locs hP hD hS => ?_)
        have hP : va_P D vwCl (wd_X0_asking cI cZ AT AT_of AT_ft AT_bv AT_ta AT_of_sl AT_of_fl AT_of_ro AT_of_nt AT_of_mk AT_of_mo AT_of_mk_c AT_ta_sn vT_of_ng vT_of_mk_n fT_of_mk_c r_38.1 r_38.2.1 r_46.1 r_46.2 r_38.2.2) H := hP
        have hD : va_D A (wd_X0_asking cI cZ AT AT_of AT_ft AT_bv AT_ta AT_of_sl AT_of_fl AT_of_ro AT_of_nt AT_of_mk AT_of_mo AT_of_mk_c AT_ta_sn vT_of_ng vT_of_mk_n fT_of_mk_c r_38.1 r_38.2.1 r_46.1 r_46.2 r_38.2.2) := hD
        refine lv_iinc (v := (x3 + 1)) (lv' := [(3, .int (x3 + 1)), (2, .int x2), (0, .ref AT)]) hx hb dX0_asking_49 hl (k := 0) rfl rfl (by decide) rfl (fun ls hl => ?_)
        refine lv_goto (tgt := 21) hx hb dX0_asking_52 (by decide) ?_
        exact ih_21 (x3 + 1) x2 r_38.1 r_38.2.1 r_46.1 r_46.2 r_38.2.2 H locs ls hm hP hD hS (lv_sub hl [0, 1, 2] rfl)
  unfold fm_X0_asking at hm
  refine q_gen hS hP ?_
  intro H locs hP hS
  refine lv_aload_n hx hb dX0_asking_0 rfl (lv_at hl 0 rfl) ?_
  refine lv_iload_n hx hb dX0_asking_1 rfl (lv_at hl 1 rfl) ?_
  obtain ⟨r_2, hc_2, hm⟩ := ob_s hm
  refine q_ci (q_rv (rest := []) ⟨hx, hb, hml, hown, hts⟩ hK hN hP hD (c_X0_sleeperKinds l D cI cZ H.size AT AT_of AT_ft AT_bv AT_ta AT_of_sl AT_of_fl AT_of_ro AT_of_nt AT_of_mk AT_of_mo AT_of_mk_c vT_of_ng vT_of_mk_n fT_of_mk_c p1 r_2 hc_2) mb_X0_sleeperKinds mv_X0_sleeperKinds wl_X0_127 [0, 1, 2, 3] rfl rfl rfl (Nat.le_of_ble_eq_true rfl) (Nat.le_of_ble_eq_true rfl) rfl hl.1 rfl (Nat.le_of_ble_eq_true rfl) ⟨Nat.le_refl 0, Nat.le_refl 0⟩ dX0_asking_2) hP hD hS hA [0, 1, 2, 3] rfl rfl (fun H locs hP hD hS => ?_)
  have hP : va_P D vwCl (wd_X0_asking cI cZ AT AT_of AT_ft AT_bv AT_ta AT_of_sl AT_of_fl AT_of_ro AT_of_nt AT_of_mk AT_of_mo AT_of_mk_c AT_ta_sn vT_of_ng vT_of_mk_n fT_of_mk_c vT_ta_hi vT_ta_ms vT_ta_bl vT_ta_fw fT_ta_sn) H := hP
  have hD : va_D A (wd_X0_asking cI cZ AT AT_of AT_ft AT_bv AT_ta AT_of_sl AT_of_fl AT_of_ro AT_of_nt AT_of_mk AT_of_mo AT_of_mk_c AT_ta_sn vT_of_ng vT_of_mk_n fT_of_mk_c vT_ta_hi vT_ta_ms vT_ta_bl vT_ta_fw fT_ta_sn) := hD
  refine lv_istore_n (lv' := [(2, .int r_2), (0, .ref AT), (1, .int p1)]) hx hb dX0_asking_5 rfl hl (by decide) rfl (fun ls hl => ?_)
  refine lv_iload_n hx hb dX0_asking_6 rfl (lv_at hl 0 rfl) ?_
  refine lv_if_ne (tgt := 12) hx hb dX0_asking_7 (by decide) (fun c_7 => ?_) (fun c_7 => ?_)
  · have hm := it_n c_7 hm
    refine lv_aload_n hx hb dX0_asking_12 rfl (lv_at hl 1 rfl) ?_
    refine gf_X0_25 (v := .ref AT_ta) hx hb hts hown hK hN hP 0 rfl rfl dX0_asking_13 ?_
    obtain ⟨r_16, hc_16, hm⟩ := ob_s hm
    refine q_cv (q_rv (rest := []) ⟨hx, hb, hml, hown, hts⟩ hK hN hP hD (c_X6_startLooking l D cI cZ H.size AT_ta AT_ta_sn vT_ta_hi vT_ta_ms vT_ta_bl vT_ta_fw r_16 hc_16) mb_X6_startLooking mv_X6_startLooking wl_X0_83 [4] rfl rfl rfl (Nat.le_of_ble_eq_true rfl) (Nat.le_of_ble_eq_true rfl) rfl hl.1 rfl (Nat.le_of_ble_eq_true rfl) ⟨Nat.le_refl 0, Nat.le_refl 0⟩ dX0_asking_16) hP hD hS hA [4] rfl rfl (fun H locs hP hD hS => ?_)
    have hP : va_P D vwCl (wd_X0_asking cI cZ AT AT_of AT_ft AT_bv AT_ta AT_of_sl AT_of_fl AT_of_ro AT_of_nt AT_of_mk AT_of_mo AT_of_mk_c AT_ta_sn vT_of_ng vT_of_mk_n fT_of_mk_c vT_ta_hi vT_ta_ms r_16.1 r_16.2 fT_ta_sn) H := hP
    have hD : va_D A (wd_X0_asking cI cZ AT AT_of AT_ft AT_bv AT_ta AT_of_sl AT_of_fl AT_of_ro AT_of_nt AT_of_mk AT_of_mo AT_of_mk_c AT_ta_sn vT_of_ng vT_of_mk_n fT_of_mk_c vT_ta_hi vT_ta_ms r_16.1 r_16.2 fT_ta_sn) := hD
    refine lv_iconst (v := 0) hx hb dX0_asking_19 (by decide) ?_
    refine lv_istore_n (lv' := [(3, .int 0), (2, .int r_2), (0, .ref AT), (1, .int p1)]) hx hb dX0_asking_20 rfl hl (by decide) rfl (fun ls hl => ?_)
    exact hL_21 FU 0 r_2 vT_ta_hi vT_ta_ms r_16.1 r_16.2 fT_ta_sn H locs ls hm hP hD hS (lv_sub hl [0, 1, 2] rfl)
  · have hm := it_s c_7 hm
    refine lv_iconst (v := (-1)) hx hb dX0_asking_10 (by decide) ?_
    have hm := Option.some.inj hm
    subst hm
    exact q_iret (v := (-1)) hx hb hr hlocks hP hS dX0_asking_11
