def R_law : String := "EarwigPostLaw"
def lw_P (b : Addr) (xs : List Int32) (args : Array Value) (s : State) : Prop := args = #[.ref b] ∧ s.IntsAt b xs ∧ xs.length ≤ 320 ∧ (Jvm.Cond.and given_1 narrow_1).before args s = true
def lw_At (p : Program) (s : State) (m : MethodId) (meth : Method) (c : Code) (b L : Nat) (xs : Nat → Int32) : Prop :=
  p.tables.exec = Jvm.exec ∧ c.code = code ∧ meth.sig.returnType = ret ∧ c.maxLocals = 4 ∧ s.vm.findClass R_law = some m.cls ∧ (∀ w ∈ lw_tbl, w.before #[Value.ref b] s = true) ∧ va_X b L xs s s.heap ∧ b < s.heap.size ∧ meth.locks = false ∧ (Jvm.Cond.and given_1 narrow_1).before #[Value.ref b] s = true
theorem law_K {s : State} {args : Array Value} (hts : ∀ w ∈ bg, w.before args s = true) : ∃ (D : va_G) (cI cZ : ClassId), va_K D vwCl (q_tys cI cZ) s := by
  obtain ⟨c0, i0, h0⟩ := u_known (C := RX0) (T := TX0) (N := 4) (n := 4) hts wu_X0 (hts _ wo_X0)
  obtain ⟨c1, i1, h1⟩ := u_known (C := RX1) (T := TX1) (N := 6) (n := 6) hts wu_X1 (hts _ wo_X1)
  obtain ⟨c2, i2, h2⟩ := u_known (C := RX2) (T := TX2) (N := 2) (n := 2) hts wu_X2 (hts _ wo_X2)
  obtain ⟨c3, i3, h3⟩ := u_known (C := RX3) (T := TX3) (N := 3) (n := 3) hts wu_X3 (hts _ wo_X3)
  obtain ⟨c4, i4, h4⟩ := u_known (C := RX4) (T := TX4) (N := 7) (n := 7) hts wu_X4 (hts _ wo_X4)
  obtain ⟨c5, i5, h5⟩ := u_known (C := RX5) (T := TX5) (N := 7) (n := 7) hts wu_X5 (hts _ wo_X5)
  obtain ⟨c6, i6, h6⟩ := u_known (C := RX6) (T := TX6) (N := 5) (n := 5) hts wu_X6 (hts _ wo_X6)
  obtain ⟨c7, i7, h7⟩ := u_known (C := RX7) (T := TX7) (N := 12) (n := 12) hts wu_X7 (hts _ wo_X7)
  obtain ⟨c8, i8, h8⟩ := u_known (C := RX8) (T := TX8) (N := 19) (n := 19) hts wu_X8 (hts _ wo_X8)
  obtain ⟨cI, kI, pI, hI1, hI2, hI3⟩ := Cond.arrayClass_spec (hts _ wa_int)
  obtain ⟨cZ, kZ, pZ, hZ1, hZ2, hZ3⟩ := Cond.arrayClass_spec (hts _ wa_boolean)
  refine ⟨(fun k => [c0, c1, c2, c3, c4, c5, c6, c7, c8].getD k c0, fun k => [i0, i1, i2, i3, i4, i5, i6, i7, i8].getD k i0), cI, cZ, ?_, ?_⟩
  · intro k q hq
    match k, hq with
    | 0, hq => cases hq; exact h0
    | 1, hq => cases hq; exact h1
    | 2, hq => cases hq; exact h2
    | 3, hq => cases hq; exact h3
    | 4, hq => cases hq; exact h4
    | 5, hq => cases hq; exact h5
    | 6, hq => cases hq; exact h6
    | 7, hq => cases hq; exact h7
    | 8, hq => cases hq; exact h8
    | k + 9, hq => simp [vwCl] at hq
  · intro k q hq
    match k, hq with
    | 0, hq => cases hq; exact ⟨fun n z => ⟨fun k h => (by cases h), kI, hI2, pI, hI3⟩, hI1⟩
    | 1, hq => cases hq; exact ⟨fun n z => ⟨fun k h => (by cases h), kZ, hZ2, pZ, hZ3⟩, hZ1⟩
    | k + 2, hq => simp [q_tys] at hq
set_option maxHeartbeats 4000000 in
set_option maxRecDepth 100000 in
/-- from the entry to the loop's head: 85 cells of 3898 slots have come -/
theorem law_head {p : Program} {e : Env} {s : State} {m : MethodId} {below : List Frame} {meth : Method} {c : Code} {R : Room} {Q : State → Prop} (l : Launch) {b L : Nat} {xs : Nat → Int32} (hRc : 85 ≤ R.cells) (hRs : 3898 ≤ R.slots) (hRf : 13 ≤ R.frames) (hRl : 464 ≤ R.locals) (C0 : lw_At p s m meth c b L xs)
    (kk : ∀ (D : va_G) (cI cZ : ClassId) (q7 q8 : Nat) (u7 u8 : Nat → Nat) (H : Heap) (locs : List Loc) (ls : Array Slot), va_K D vwCl (q_tys cI cZ) s → q_N s → va_P D vwCl (wm_X7 cI cZ q7 u7 ++ wm_X8 cI cZ q8 u8) H → va_D (fun q : Nat => s.heap.size ≤ q) (wm_X7 cI cZ q7 u7 ++ wm_X8 cI cZ q8 u8) → va_S (fun q : Nat => s.heap.size ≤ q) s.heap H locs → lv_has ls 4 [(3, .int 0), (2, .ref q8), (1, .ref q7), (0, .ref b)] → W p l e R s m #[Value.ref b] below meth c H locs 85 3898 Q (F0 m 18 ls [])) :
    W p l e R s m #[Value.ref b] below meth c s.heap [] 0 0 Q (entryFrame m ([Value.ref b] : List Value).toArray 4) := by
  obtain ⟨hx, hb, hr, hml, hown, hts0, hX, hbl, hlocks, hgv⟩ := id C0
  have hts : ∀ w ∈ bg, w.before #[Value.ref b] s = true := fun w h => hts0 w (bg_tbl h)
  have hA : ∀ q : Nat, s.heap.size ≤ q → (fun q : Nat => s.heap.size ≤ q) q := fun _ h => h
  have hN : q_N s := fun w hw => va_Nw.of (q_nest_on w hw) (hts0 w (q_nest_ok w hw))
  obtain ⟨D, cI, cZ, hK⟩ := law_K hts
  have hown : s.vm.findClass RL = some m.cls := hown
  have hS : va_S (fun q : Nat => s.heap.size ≤ q) s.heap s.heap [] := va_S.rf
  have hP : va_P D vwCl [] s.heap := fun k q h => by simp at h
  have hD : va_D (fun q : Nat => s.heap.size ≤ q) [] := ⟨fun i j p q h => by simp at h, fun k q h => by simp at h⟩
  have hl := lv_entry ([.ref b]) (n := 4) (Nat.le_of_ble_eq_true rfl)
  rw [lg_entry_eq]
  generalize (lg_sl ([.ref b]) ++ List.replicate (4 - (lg_sl ([.ref b])).length) Slot.unset).toArray = ls at hl ⊢
  have hl : lv_has ls 4 [(0, .ref b)] := hl
  refine va_new (ci := 7) (fs := [.null, .null, .null, .null, .null, .null, .null, .int 0, .int 0, .int 0, .int 0, .int 0]) (C := RX7) (T := TX7) (N := 12) hx hb hts wu_X7 tyX7 tyX7_ok hown (hts _ wk_L_7) (hts _ wo_X7) (hts _ wn_X7) hK hP hD hS hA rfl df_X7 (Nat.le_trans (Nat.le_of_ble_eq_true rfl) hRc) (Nat.le_trans (Nat.le_of_ble_eq_true rfl) hRs) dL_law_0 (fun q7 H hP hD hS => ?_)
  have hP : va_P D vwCl [(q7, .inr (7, [.null, .null, .null, .null, .null, .null, .null, .int 0, .int 0, .int 0, .int 0, .int 0]))] H := hP
  have hD : va_D (fun q : Nat => s.heap.size ≤ q) [(q7, .inr (7, [.null, .null, .null, .null, .null, .null, .null, .int 0, .int 0, .int 0, .int 0, .int 0]))] := hD
  refine W.widen (k := 1) (n := 12) (Nat.le_refl _) (Nat.le_refl _) ?_
  refine lv_dup hx hb dL_law_3 rfl ?_
  refine q_cn (q_rI (rest := [.ref q7]) (As := []) ⟨hx, hb, hml, hown, hts⟩ hK hN hP hD (c_X7_init l D cI cZ H.size q7) mb_X7_init wi_X7_init wl_L_9 rfl [0] rfl rfl (Nat.le_trans (Nat.le_of_ble_eq_true rfl) hRf) (Nat.le_trans (Nat.le_of_ble_eq_true rfl) hRl) rfl hl.1 rfl (Nat.le_of_ble_eq_true rfl) ⟨(Nat.le_trans (Nat.le_of_ble_eq_true rfl) hRc), (Nat.le_trans (Nat.le_of_ble_eq_true rfl) hRs)⟩ dL_law_4) hP hD hS hA (wr := []) [0] [] rfl rfl (by decide) (by decide) (fun u7 H locs hP hD hS => ?_)
  have hP : va_P D vwCl (wm_X7 cI cZ q7 u7) H := hP
  have hD : va_D (fun q : Nat => s.heap.size ≤ q) (wm_X7 cI cZ q7 u7) := hD
  refine W.widen (k := 72) (n := 2484) (Nat.le_refl _) (Nat.le_refl _) ?_
  refine lv_astore_n (lv' := [(1, .ref q7), (0, .ref b)]) hx hb dL_law_7 rfl hl (by decide) rfl (fun ls hl => ?_)
  refine va_new (ci := 8) (fs := [.null, .null, .null, .null, .long 0, .long 0, .null, .null, .null, .null, .null, .null, .int 0, .int 0, .int 0, .int 0, .int 0, .null, .null]) (C := RX8) (T := TX8) (N := 19) hx hb hts wu_X8 tyX8 tyX8_ok hown (hts _ wk_L_10) (hts _ wo_X8) (hts _ wn_X8) hK hP hD hS hA rfl df_X8 (Nat.le_trans (Nat.le_of_ble_eq_true rfl) hRc) (Nat.le_trans (Nat.le_of_ble_eq_true rfl) hRs) dL_law_8 (fun q8 H hP hD hS => ?_)
  refine W.widen (k := 73) (n := 2503) (Nat.le_refl _) (Nat.le_refl _) ?_
  refine lv_dup hx hb dL_law_11 rfl ?_
  refine q_cn (q_rI (rest := [.ref q8]) (As := []) ⟨hx, hb, hml, hown, hts⟩ hK hN hP hD (c_X8_init l D cI cZ H.size q8) mb_X8_init wi_X8_init wl_L_12 rfl [72] rfl rfl (Nat.le_trans (Nat.le_of_ble_eq_true rfl) hRf) (Nat.le_trans (Nat.le_of_ble_eq_true rfl) hRl) rfl hl.1 rfl (Nat.le_of_ble_eq_true rfl) ⟨(Nat.le_trans (Nat.le_of_ble_eq_true rfl) hRc), (Nat.le_trans (Nat.le_of_ble_eq_true rfl) hRs)⟩ dL_law_12) hP hD hS hA (wr := wm_X7 cI cZ q7 u7) [72] [0, 1, 2, 3, 4, 5, 6, 7, 8, 9, 10, 11, 12, 13, 14, 15, 16, 17, 18, 19, 20, 21, 22, 23, 24, 25, 26, 27, 28, 29, 30, 31, 32, 33, 34, 35, 36, 37, 38, 39, 40, 41, 42, 43, 44, 45, 46, 47, 48, 49, 50, 51, 52, 53, 54, 55, 56, 57, 58, 59, 60, 61, 62, 63, 64, 65, 66, 67, 68, 69, 70, 71] rfl rfl (by decide) (by decide) (fun u8 H locs hP hD hS => ?_)
  refine W.widen (k := 85) (n := 3898) (Nat.le_refl _) (Nat.le_refl _) ?_
  refine lv_astore_n (lv' := [(2, .ref q8), (1, .ref q7), (0, .ref b)]) hx hb dL_law_15 rfl hl (by decide) rfl (fun ls hl => ?_)
  refine lv_iconst (v := 0) hx hb dL_law_16 (by decide) ?_
  refine lv_istore_n (lv' := [(3, .int 0), (2, .ref q8), (1, .ref q7), (0, .ref b)]) hx hb dL_law_17 rfl hl (by decide) rfl (fun ls hl => ?_)
  exact kk D cI cZ q7 q8 u7 u8 H locs ls hK hN hP hD hS hl
