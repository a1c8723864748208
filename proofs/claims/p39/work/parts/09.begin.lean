theorem mb_X8_begin : q_mb yX8_begin cX8_begin 2 none 1 := ⟨wc_X8_begin, wn_X8, by decide, by decide, by decide +kernel⟩
def wd_X8_begin (cI cZ : ClassId) (A0 : Nat) (n0 : Nat) (f0 : Nat → Int32) : va_W := [(A0, .inl (cI, n0, .inl f0))]
def fL_X8_begin_2 (n0 : Nat) : Nat → Int32 → (Nat → Int32) → Option ((Nat → Int32))
  | 0, _, _ => none
  | fu + 1, x1, f0 => if 112 ≤ x1 then (some (f0)) else (gd x1 n0 (fL_X8_begin_2 n0 fu (x1 + 1) (upd f0 (Int32.toNatClampNeg x1) 0)))
def fm_X8_begin (n0 : Nat) (f0 : Nat → Int32) : Option ((Nat → Int32)) := fL_X8_begin_2 n0 FU 0 f0
set_option maxHeartbeats 4000000 in
set_option maxRecDepth 100000 in
theorem c_X8_begin (l : Launch) (D : va_G) (cI cZ : ClassId) (sz : Nat) (A0 : Nat) (n0 : Nat) (f0 : Nat → Int32) (out : ((Nat → Int32))) (hm : fm_X8_begin n0 f0 = some out) : Met l yX8_begin (Cond.code yX8_begin cX8_begin 2 none :: bg) { frames := 0, cells := 0, slots := 0, locals := 0 } (va_Pc [.ref A0] (q_pre D cI cZ sz (wd_X8_begin cI cZ A0 n0 f0))) (q_Qv D (wd_X8_begin cI cZ A0 n0 out) (va_A (wd_X8_begin cI cZ A0 n0 f0) sz)) 0 0 (va_A (wd_X8_begin cI cZ A0 n0 f0) sz) := by
  refine q_met (fun A => q_Qv D (wd_X8_begin cI cZ A0 n0 out) A) (by decide) (Nat.le_of_ble_eq_true rfl) ?_
  intro p e s m below meth c ls A hx hb hr hml hown hts hlocks _ hA hS hP hD hK hN hl
  have hown : s.vm.findClass RX8 = some m.cls := hown
  have hl : lv_has ls 2 [(0, .ref A0)] := hl
  have hL_2 : ∀ (fu_2 : Nat) (x1 : Int32) (f0 : Nat → Int32) (H : Heap) (locs : List Loc) (ls : Array Slot), fL_X8_begin_2 n0 fu_2 x1 f0 = some out → va_P D vwCl (wd_X8_begin cI cZ A0 n0 f0) H → va_D A (wd_X8_begin cI cZ A0 n0 f0) → va_S A s.heap H locs → lv_has ls 2 [(1, .int x1), (0, .ref A0)] → W p l e { frames := 0, cells := 0, slots := 0, locals := 0 } s m ([.ref A0] : List Value).toArray below meth c H locs 0 0 (MQ below (q_Qv D (wd_X8_begin cI cZ A0 n0 out) A) ([.ref A0] : List Value).toArray s 0 0 A) (F0 m 2 ls []) := by
    intro fu_2
    induction fu_2 with
    | zero => intro x1 f0 H locs ls hm hP hD hS hl; exact absurd (show (none : Option ((Nat → Int32))) = some out from hm) (fun h => nomatch h)
    | succ fu_2 ih_2 =>
      intro x1 f0 H locs ls hm hP hD hS hl
      rw [fL_X8_begin_2] at hm
      refine lv_iload_n hx hb dX8_begin_2 rfl (lv_at hl 0 rfl) ?_
      refine lv_bipush (v := 112) hx hb dX8_begin_3 (by decide) ?_
      refine lv_icmp_ge (tgt := 18) hx hb dX8_begin_5 (by decide) (fun c_5 => ?_) (fun c_5 => ?_)
      · have hm := it_s c_5 hm
        have hm := Option.some.inj hm
        subst hm
        exact q_vret hx hb hr hlocks hP hS dX8_begin_18
      · have hm := it_n c_5 hm
        refine lv_aload_n hx hb dX8_begin_8 rfl (lv_at hl 1 rfl) ?_
        refine lv_iload_n hx hb dX8_begin_9 rfl (lv_at hl 0 rfl) ?_
        refine lv_iconst (v := 0) hx hb dX8_begin_10 (by decide) ?_
        obtain ⟨hi_11, hm⟩ := gd_s hm
        refine q_iast (j := (Int32.toNatClampNeg x1)) hx hb hK hP hD hS 0 rfl hi_11 rfl dX8_begin_11 (fun H locs hP hD hS => ?_)
        have hP : va_P D vwCl (wd_X8_begin cI cZ A0 n0 (upd f0 (Int32.toNatClampNeg x1) 0)) H := hP
        have hD : va_D A (wd_X8_begin cI cZ A0 n0 (upd f0 (Int32.toNatClampNeg x1) 0)) := hD
        refine lv_iinc (v := (x1 + 1)) (lv' := [(1, .int (x1 + 1)), (0, .ref A0)]) hx hb dX8_begin_12 hl (k := 0) rfl rfl (by decide) rfl (fun ls hl => ?_)
        refine lv_goto (tgt := 2) hx hb dX8_begin_15 (by decide) ?_
        exact ih_2 (x1 + 1) (upd f0 (Int32.toNatClampNeg x1) 0) H locs ls hm hP hD hS (lv_sub hl [0, 1] rfl)
  unfold fm_X8_begin at hm
  refine q_gen hS hP ?_
  intro H locs hP hS
  refine lv_iconst (v := 0) hx hb dX8_begin_0 (by decide) ?_
  refine lv_istore_n (lv' := [(1, .int 0), (0, .ref A0)]) hx hb dX8_begin_1 rfl hl (by decide) rfl (fun ls hl => ?_)
  exact hL_2 FU 0 f0 H locs ls hm hP hD hS (lv_sub hl [0, 1] rfl)
