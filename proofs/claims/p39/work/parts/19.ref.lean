/-! the empty script, in a room that is large enough: the law ends with 1, and seven of the arrays that came have 2189 elements together (the printed room has 1999) -/
def rq : Room := { frames := 13, cells := 85, slots := 3898, locals := 464 }
theorem sum_set : ∀ (L : List Nat) (i v : Nat), L[i]? = some v → L.sum = v + (L.set i 0).sum
  | [], i, v, h => by simp at h
  | x :: L, 0, v, h => by
    simp at h
    subst h
    simp
  | x :: L, i + 1, v, h => by
    have := sum_set L i v (by simpa using h)
    simp only [List.set_cons_succ, List.sum_cons]
    omega
theorem sum_ge : ∀ (ps : List (Nat × Nat)) (L : List Nat), va_nd (ps.map Prod.fst) = true → (∀ p ∈ ps, L[p.1]? = some p.2) → (ps.map Prod.snd).sum ≤ L.sum
  | [], L, _, _ => Nat.zero_le _
  | p :: ps, L, hn, h => by
    have h1 := sum_set L p.1 p.2 (h p List.mem_cons_self)
    simp only [List.map_cons, va_nd, Bool.and_eq_true, decide_eq_true_eq] at hn
    have h2 := sum_ge ps (L.set p.1 0) hn.2 (fun q hq => by
      have hne : p.1 ≠ q.1 := fun e => hn.1 (List.mem_map.mpr ⟨q, hq, e.symm⟩)
      rw [List.getElem?_set_ne hne]
      exact h q (List.mem_cons_of_mem _ hq))
    simp only [List.map_cons, List.sum_cons]
    omega
/-- so many cells that are new, apart, and so large -/
def lq_Q (_ : Array Value) (s : State) (o : Outcome) (t : State) : Prop := ∃ ps : List (Nat × Nat), va_nd (ps.map Prod.fst) = true ∧ (ps.map Prod.snd).sum = 2189 ∧ ∀ p ∈ ps, s.heap.size ≤ p.1 ∧ ∃ cell : Cell, t.heap[p.1]? = some cell ∧ cell.slots.size = p.2
theorem lq_not {a : Array Value} {s : State} {o : Outcome} {t : State} {L : List Loc} (h : lq_Q a s o t) : ¬ Framed s o t L 85 1999 := by
  obtain ⟨ps, h1, h2, h3⟩ := h
  rintro ⟨_, _, hf⟩
  have hs : ((t.heap.toList.drop s.heap.size).map (·.slots.size)).sum ≤ 1999 := hf.2.2.2.2.1
  have hg := sum_ge (ps.map (fun p => (p.1 - s.heap.size, p.2))) ((t.heap.toList.drop s.heap.size).map (·.slots.size)) ?_ ?_
  · rw [List.map_map] at hg
    have e : (ps.map (Prod.snd ∘ fun p => (p.1 - s.heap.size, p.2))) = ps.map Prod.snd := List.map_congr_left fun p _ => rfl
    rw [e, h2] at hg
    omega
  · rw [List.map_map]
    revert h1 h3
    clear h2 hs hf
    induction ps with
    | nil => intro _ _; rfl
    | cons p ps ih =>
      intro h1 h3
      simp only [List.map_cons, va_nd, Bool.and_eq_true, decide_eq_true_eq] at h1 ⊢
      refine ⟨fun hm => ?_, ih h1.2 (fun q hq => h3 q (List.mem_cons_of_mem _ hq))⟩
      obtain ⟨q, hq, e⟩ := List.mem_map.mp hm
      have e : q.1 - s.heap.size = p.1 - s.heap.size := e
      have a1 := (h3 q (List.mem_cons_of_mem _ hq)).1
      have a2 := (h3 p List.mem_cons_self).1
      exact h1.1 (List.mem_map.mpr ⟨q, hq, by omega⟩)
  · intro p hp
    obtain ⟨q, hq, rfl⟩ := List.mem_map.mp hp
    obtain ⟨a1, cell, a2, a3⟩ := h3 q hq
    rw [List.getElem?_map, List.getElem?_drop, show s.heap.size + (q.1 - s.heap.size) = q.1 by omega, Array.getElem?_toList, a2]
    simp [a3]
theorem lq_of {D : va_G} {w : va_W} {H : Heap} {A : Nat → Prop} {cI : ClassId} (hP : va_P D vwCl w H) (hD : va_D A w) (ks : List Nat) (ps : List (Nat × Nat)) (hk : va_nd ks = true) (h : ks.map (fun k => w[k]?) = ps.map (fun p => some (p.1, (.inl (cI, p.2, .inl (fun _ => 0)) : va_E)))) : va_nd (ps.map Prod.fst) = true ∧ ∀ p ∈ ps, A p.1 ∧ ∃ cell : Cell, H[p.1]? = some cell ∧ cell.slots.size = p.2 := by
  revert ps
  induction ks with
  | nil =>
    intro ps h
    cases ps with
    | nil => exact ⟨rfl, fun p hp => absurd hp List.not_mem_nil⟩
    | cons p ps => simp at h
  | cons k ks ih =>
    intro ps h
    cases ps with
    | nil => simp at h
    | cons p ps =>
      simp only [List.map_cons, List.cons.injEq] at h
      simp only [va_nd, Bool.and_eq_true, decide_eq_true_eq] at hk
      obtain ⟨i1, i2⟩ := ih hk.2 ps h.2
      have hc := hP k _ h.1
      refine ⟨?_, fun q hq => ?_⟩
      · simp only [List.map_cons, va_nd, Bool.and_eq_true, decide_eq_true_eq]
        refine ⟨fun hm => ?_, i1⟩
        obtain ⟨q, hq, e⟩ := List.mem_map.mp hm
        obtain ⟨j, hj⟩ := List.getElem?_of_mem hq
        have hw : (ks.map (fun k => w[k]?))[j]? = some (some (q.1, (.inl (cI, q.2, .inl (fun _ => 0)) : va_E))) := by rw [h.2, List.getElem?_map, hj]; rfl
        rw [List.getElem?_map] at hw
        cases hkj : ks[j]? with
        | none => rw [hkj] at hw; cases hw
        | some k2 =>
          rw [hkj] at hw
          have hw2 : w[k2]? = some (q.1, (.inl (cI, q.2, .inl (fun _ => 0)) : va_E)) := Option.some.inj hw
          have := hD.1 k k2 _ _ h.1 hw2 e.symm
          exact hk.1 (this ▸ List.mem_of_getElem? hkj)
      · rcases List.mem_cons.mp hq with rfl | hq
        · exact ⟨hD.2 k _ h.1, _, hc, by rw [vp_cell_i, arrV_size]⟩
        · exact i2 q hq
def lq_Z (below : List Frame) (a : Array Value) (s : State) : State → Prop := fun t => ∃ o, t.status = .running ∧ Ended t below o ∧ lq_Q a s o t
theorem W_mono {p : Program} {l : Launch} {e : Env} {R : Room} {s : State} {m : MethodId} {args : Array Value} {below : List Frame} {meth : Method} {c : Code} {H : Heap} {locs : List Loc} {cells slots : Nat} {Q Q' : State → Prop} {g : JFrame} (h : W p l e R s m args below meth c H locs cells slots Q g) (k : ∀ t, Q t → Q' t) : W p l e R s m args below meth c H locs cells slots Q' g := by
  intro T hT X
  obtain ⟨t, a, b⟩ := h T hT X
  exact ⟨t, a, k t b⟩
set_option maxHeartbeats 4000000 in
set_option maxRecDepth 100000 in
theorem law_empty {p : Program} {e : Env} {s : State} {m : MethodId} {below : List Frame} {meth : Method} {c : Code} (l : Launch) {b : Nat} {xs : Nat → Int32} (C0 : lw_At p s m meth c b 0 xs) : W p l e rq s m #[Value.ref b] below meth c s.heap [] 0 0 (lq_Z below #[Value.ref b] s) (entryFrame m ([Value.ref b] : List Value).toArray 4) := by
  obtain ⟨hx, hb, hr, hml, hown, hts0, hX, hbl, hlocks, hgv⟩ := id C0
  have hbA : ¬ (fun q : Nat => s.heap.size ≤ q) b := Nat.not_le.mpr hbl
  refine law_head l (Nat.le_of_ble_eq_true rfl) (Nat.le_of_ble_eq_true rfl) (Nat.le_of_ble_eq_true rfl) (Nat.le_of_ble_eq_true rfl) C0 (fun D cI cZ q7 q8 u7 u8 H locs ls hK hN hP hD hS hl => ?_)
  refine lv_iload_n hx hb dL_law_18 rfl (lv_at hl 0 rfl) ?_
  refine lv_aload_n hx hb dL_law_19 rfl (lv_at hl 3 rfl) ?_
  refine va_slen hx hb hX hbl hbA hS dL_law_20 ?_
  refine lv_iconst (v := 5) hx hb dL_law_21 (by decide) ?_
  refine lv_isub hx hb dL_law_22 ?_
  refine lv_icmp_gt (tgt := 1271) hx hb dL_law_23 (by decide) (fun _ => ?_) (fun c => absurd (by decide) c)
  refine lv_iconst (v := 1) hx hb dL_law_1271 (by decide) ?_
  refine W_mono (W.zret (Qc := lq_Q) (free := fun q => s.heap.size ≤ q) hx hb (hr.trans (rfl : ret = some .boolean)) rfl (fun t ht hW => ?_) hS.2.2 dL_law_1272 hlocks) (fun t ⟨o, h1, h2, h3, _⟩ => ⟨o, h1, h2, h3⟩)
  obtain ⟨a1, a2⟩ := lq_of (cI := cI) hP hD [13, 29, 43, 46, 62, 73, 74] [(u7 12, 200), (u7 28, 200), (u7 42, 200), (u7 45, 453), (u7 61, 200), (u8 0, 312), (u8 1, 624)] rfl rfl
  exact ⟨_, a1, rfl, fun p hp => by rw [ht]; exact a2 p hp⟩
set_option maxHeartbeats 4000000 in
theorem lq_walk (l : Launch) (b : Addr) : MetFree l x (headSpec (Jvm.Cond.code x code maxLocals ret :: tables_1) rq) (lw_P b []) (fun _ _ _ _ _ => True) lq_Q := by
  refine MetFree.of_bodyS (code := code) (maxLocals := maxLocals) (ret := ret) (by decide) ?_ ?_
  · intro args s m h hn
    obtain ⟨meth, c, h1, h2, h3, h4, h5, h6, -, -⟩ := Cond.code_spec hn (atoms_spec (ws := Jvm.Cond.code x code maxLocals ret :: tables_1) h _ List.mem_cons_self)
    exact ⟨meth, c, h1, h2, h3, h4, h5, h6⟩
  · intro p e s m args below meth c s₁ B hml0 hP _
    obtain ⟨rfl, hx, hbd, hgv⟩ := hP
    obtain ⟨scr, harrAt, hlist, hof, hsmall⟩ := hx
    obtain ⟨hcb, hkn, -, -⟩ := State.arrayAt?_spec harrAt
    have hown : s.vm.findClass R_law = some m.cls := findClass_of_methodNamed B.named
    have hts0 : ∀ c ∈ (Jvm.Cond.code x code maxLocals ret :: tables_1), c.before #[Value.ref b] s = true := atoms_spec (ws := Jvm.Cond.code x code maxLocals ret :: tables_1) B.pre
    have hts : ∀ w ∈ lw_tbl, w.before #[Value.ref b] s = true := k2_hts_sels lw_privs (fun w hw => hts0 w (List.mem_cons_of_mem _ hw)) lw_privs_ok
    have hml : c.maxLocals = 4 := B.maxLocals_eq (hts0 _ List.mem_cons_self)
    have X₀ : Stand p l e rq s m #[Value.ref b] below meth c s₁ [] 0 0 := Stand.of_body B
    have hh0 : s₁.heap = s.heap := by rw [B.state]; rfl
    have hsz : scr.slots.size = 0 := by rw [← Array.length_toList, hlist]; rfl
    have hbl : b < s.heap.size := (Array.getElem?_eq_some_iff.mp hcb).1
    have hX : va_X b 0 (fun _ => 0) s s.heap := ⟨scr, hcb, hof, hkn, hsz, fun j hj => absurd hj (Nat.not_lt_zero j)⟩
    have K : W p l e rq s m #[Value.ref b] below meth c s₁.heap [] 0 0 (lq_Z below #[Value.ref b] s) (entryFrame m ([Value.ref b] : List Value).toArray 4) := by
      rw [hh0]
      exact law_empty l ⟨B.exec, B.bytes, B.returns, hml, hown, hts, hX, hbl, B.notSynchronized, hgv⟩
    obtain ⟨t, a1, o, b1, b2, b3⟩ := K s₁ rfl X₀
    exact ⟨t, o, a1, b1, b2, b3⟩
