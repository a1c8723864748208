/-! the frame of every contract here: a world of cells before, the same addresses behind -/
theorem q_N.same {u U : State} (h : u.vm = U.vm) (hN : q_N u) : q_N U := fun w hw => va_Nw.same (q_nest_on w hw) h (hN w hw)
def q_isN : Cond → Bool
  | .fieldLinkNest .. => true
  | .methodLinkNest .. => true
  | _ => false
theorem q_isN_ok : ∀ w ∈ q_nest, q_isN w = true := by decide +kernel
theorem q_warm1 {w : Cond} (h : q_isN w = true) {s U : State} (hW : s.WarmedH U.vm) (hZ : va_Nw w s) : va_Nw w U := by
  cases w <;> first | exact va_Nw.warmF hW hZ | exact va_Nw.warmM hW hZ | exact absurd h (by simp [q_isN])
theorem q_N.warm {s U : State} (hW : s.WarmedH U.vm) (hN : q_N s) : q_N U := fun w hw => q_warm1 (q_isN_ok w hw) hW (hN w hw)
abbrev q_tys (cI cZ : ClassId) : List (ClassId × FieldType) := [(cI, .int), (cZ, .boolean)]
def q_pre (D : va_G) (cI cZ : ClassId) (sz : Nat) (ws : va_W) (U : State) : Prop := U.heap.size = sz ∧ va_P D vwCl ws U.heap ∧ va_K D vwCl (q_tys cI cZ) U ∧ va_D (fun _ => True) ws ∧ q_N U
def q_Qi (D : va_G) (w1 : va_W) (r0 : Int32) (A : Nat → Prop) : Array Value → State → Outcome → State → Prop := va_Qi (S := Unit) (fun r _ => r = r0) (fun _ t => va_P D vwCl w1 t.heap) A
def q_Ql (D : va_G) (w1 : va_W) (r0 : Int64) (A : Nat → Prop) : Array Value → State → Outcome → State → Prop := va_Ql (S := Unit) (fun r _ => r = r0) (fun _ t => va_P D vwCl w1 t.heap) A
def q_Qv (D : va_G) (w1 : va_W) (A : Nat → Prop) : Array Value → State → Outcome → State → Prop := va_Qv (S := Unit) (fun _ => True) (fun _ t => va_P D vwCl w1 t.heap) A
def q_Qr (D : va_G) (w1 : va_W) (r0 : Nat) (A : Nat → Prop) : Array Value → State → Outcome → State → Prop := va_Qr (S := Unit) (fun _ => True) (fun _ a t => a = r0 ∧ va_P D vwCl w1 t.heap) A
theorem q_pre_blind {D : va_G} {cI cZ : ClassId} {sz : Nat} {ws : va_W} {av : List Value} : FrameBlind (va_Pc av (q_pre D cI cZ sz ws)) := fun a U g mk q => by
  obtain ⟨q0, q1, qP, qK, qD, qN⟩ := q
  exact ⟨q0, q1, qP, va_K.moved (u := U) (U := U.calling g mk a) (Vm.Alike.refl U.vm) qK, qD, q_N.same (u := U) (U := U.calling g mk a) rfl qN⟩
theorem bg_gi {ws : List Cond} (h : ∀ w ∈ ws, w ∈ bg) : GoodIn bg ws := fun w hw => ⟨h w hw, good_of_word (bg_good (h w hw))⟩
theorem bg_gc {y : MethodName} {cy : ByteArray} {n : Nat} {ret : Option FieldType} (h : Cond.code y cy n ret ∈ bg) : ∀ w ∈ (Cond.code y cy n ret :: bg), w ∈ bg := fun w hw => (List.mem_cons.mp hw).elim (fun e => e ▸ h) id
/-- the start of a method -/
theorem q_met {l : Launch} {y : MethodName} {cy : ByteArray} {ny fr lo : Nat} {ret : Option FieldType} {D : va_G} {cI cZ : ClassId} {sz : Nat} {ws : va_W} {As : List Value} (Qc : (Nat → Prop) → Array Value → State → Outcome → State → Prop) (hy : plainName y.cls = true) (hn : (lg_sl As).length ≤ ny)
    (body : ∀ (p : Program) (e : Env) (s : State) (m : MethodId) (below : List Frame) (meth : Method) (c : Code) (ls : Array Slot) (A : Nat → Prop), p.tables.exec = Jvm.exec → c.code = cy → meth.sig.returnType = ret → c.maxLocals = ny → s.vm.findClass y.cls = some m.cls → (∀ w ∈ bg, w.before As.toArray s = true) → meth.locks = false → (meth.name = y.name) → (∀ q : Nat, s.heap.size ≤ q → A q) → va_S A s.heap s.heap [] → va_P D vwCl ws s.heap → va_D A ws → va_K D vwCl (q_tys cI cZ) s → q_N s → lv_has ls ny (lv_args 0 As) →
      W p l e { frames := fr, cells := 0, slots := 0, locals := lo } s m As.toArray below meth c s.heap [] 0 0 (MQ below (Qc A) As.toArray s 0 0 A) (F0 m 0 ls [])) :
    Met l y (Cond.code y cy ny ret :: bg) { frames := fr, cells := 0, slots := 0, locals := lo } (va_Pc As (q_pre D cI cZ sz ws)) (Qc (va_A ws sz)) 0 0 (va_A ws sz) := by
  refine Met.ofW (cc := cy) (maxL := ny) (ret := ret) hy rfl ?_
  intro p e s m args below meth c s₁ B hml hv
  obtain ⟨rfl, hsz, hP, hK, hD0, hN⟩ := hv
  subst hsz
  have hts := atoms_spec (ws := Cond.code y cy ny ret :: bg) B.pre
  have hl := lv_entry As (n := ny) hn
  rw [lg_entry_eq]
  exact body p e s m below meth c _ (va_A ws s.heap.size) B.exec B.bytes B.returns hml (findClass_of_methodNamed B.named) (fun w h => hts w (List.mem_cons_of_mem _ h)) B.notSynchronized (name_of_methodNamed B.named B.method).1 (fun q h => Or.inr h) va_S.rf hP hD0.self hK hN hl
/-- cells at their places, put back -/
def q_lk (k : Nat) : List Nat → va_W → (Nat × va_E) → (Nat × va_E)
  | i :: is, c :: cs, d => bif Nat.beq i k then c else q_lk k is cs d
  | _, _, d => d
def q_mr (isC : List Nat) (w1 : va_W) : Nat → va_W → va_W
  | _, [] => []
  | k, e :: t => q_lk k isC w1 e :: q_mr isC w1 (k + 1) t
def q_mrg (ws : va_W) (isC : List Nat) (w1 : va_W) : va_W := q_mr isC w1 0 ws
theorem q_lk_is (k : Nat) : ∀ (isC : List Nat) (w1 : va_W) (d : Nat × va_E), isC.length = w1.length → (∃ j : Nat, isC[j]? = some k ∧ w1[j]? = some (q_lk k isC w1 d)) ∨ (k ∉ isC ∧ q_lk k isC w1 d = d)
  | [], [], d, _ => Or.inr ⟨List.not_mem_nil, rfl⟩
  | i :: is, c :: cs, d, hl => by
    by_cases hk : i = k
    · subst hk
      have e : q_lk i (i :: is) (c :: cs) d = c := by simp [q_lk]
      exact Or.inl ⟨0, rfl, by rw [e]; rfl⟩
    · have hb : Nat.beq i k = false := by
        cases h : Nat.beq i k with
        | false => rfl
        | true => exact absurd (Nat.eq_of_beq_eq_true h) hk
      have e : q_lk k (i :: is) (c :: cs) d = q_lk k is cs d := by simp [q_lk, hb]
      rcases q_lk_is k is cs d (by simpa using hl) with ⟨j, h1, h2⟩ | ⟨h1, h2⟩
      · exact Or.inl ⟨j + 1, h1, by rw [e]; exact h2⟩
      · exact Or.inr ⟨fun hm => (List.mem_cons.mp hm).elim (fun e => hk e.symm) h1, by rw [e]; exact h2⟩
theorem q_mr_get (isC : List Nat) (w1 : va_W) : ∀ (ws : va_W) (k0 k : Nat) (q : Nat × va_E), (q_mr isC w1 k0 ws)[k]? = some q → ∃ e, ws[k]? = some e ∧ q = q_lk (k0 + k) isC w1 e
  | [], k0, k, q, h => by simp [q_mr] at h
  | e :: t, k0, 0, q, h => ⟨e, rfl, by simpa [q_mr] using h.symm⟩
  | e :: t, k0, k + 1, q, h => by
    obtain ⟨e2, h1, h2⟩ := q_mr_get isC w1 t (k0 + 1) k q (by simpa [q_mr] using h)
    exact ⟨e2, by simpa using h1, by rw [h2]; congr 1; omega⟩
theorem q_mrg_get (isC : List Nat) (w1 ws : va_W) (k : Nat) (q : Nat × va_E) (hl : isC.length = w1.length) (h : (q_mrg ws isC w1)[k]? = some q) : (∃ j : Nat, isC[j]? = some k ∧ w1[j]? = some q) ∨ (k ∉ isC ∧ ws[k]? = some q) := by
  obtain ⟨e, h1, h2⟩ := q_mr_get isC w1 ws 0 k q h
  rw [Nat.zero_add] at h2
  rcases q_lk_is k isC w1 e hl with ⟨j, h3, h4⟩ | ⟨h3, h4⟩
  · exact Or.inl ⟨j, h3, by rw [h2]; exact h4⟩
  · exact Or.inr ⟨h3, by rw [h2, h4]; exact h1⟩
theorem q_pick {ws wc : va_W} {isC : List Nat} (hC : isC.map (fun i => ws[i]?) = wc.map some) (k : Nat) (q : Nat × va_E) (hq : wc[k]? = some q) : ∃ i, isC[k]? = some i ∧ ws[i]? = some q := by
  have h1 : (isC.map (fun i => ws[i]?))[k]? = some (some q) := by rw [hC, List.getElem?_map, hq]; rfl
  rw [List.getElem?_map] at h1
  cases hi : isC[k]? with
  | none => rw [hi] at h1; cases h1
  | some i => rw [hi] at h1; exact ⟨i, rfl, Option.some.inj h1⟩
theorem q_join {A0 : Nat → Prop} {D : va_G} {cl : List vw_C} {ws wc w1 : va_W} {H H1 : Heap} (hP : va_P D cl ws H) (hD : va_D A0 ws) (isC : List Nat) (hC : isC.map (fun i => ws[i]?) = wc.map some) (hn : w1.map Prod.fst = wc.map Prod.fst)
    (hk : ∀ q : Nat, q < H.size → ¬ va_A wc H.size q → H1[q]? = H[q]?) (hP1 : va_P D cl w1 H1) : va_P D cl (q_mrg ws isC w1) H1 ∧ va_D A0 (q_mrg ws isC w1) := by
  have e1 : isC.length = wc.length := by simpa using congrArg List.length hC
  have e2 : w1.length = wc.length := by simpa using congrArg List.length hn
  have ad : ∀ (j : Nat) (q : Nat × va_E), w1[j]? = some q → ∃ q', wc[j]? = some q' ∧ q'.1 = q.1 := by
    intro j q hq
    have h1 : (wc.map Prod.fst)[j]? = some q.1 := by rw [← hn, List.getElem?_map, hq]; rfl
    rw [List.getElem?_map] at h1
    cases hw : wc[j]? with
    | none => rw [hw] at h1; cases h1
    | some q' => rw [hw] at h1; exact ⟨q', rfl, Option.some.inj h1⟩
  have old : ∀ (k : Nat) (q : Nat × va_E), (q_mrg ws isC w1)[k]? = some q → ∃ q', ws[k]? = some q' ∧ q'.1 = q.1 := by
    intro k q hq
    rcases q_mrg_get isC w1 ws k q (e1.trans e2.symm) hq with ⟨j, h1, h2⟩ | ⟨_, h2⟩
    · obtain ⟨q', h3, h4⟩ := ad j q h2
      obtain ⟨i, h5, h6⟩ := q_pick hC j q' h3
      rw [h1] at h5
      cases h5
      exact ⟨q', h6, h4⟩
    · exact ⟨q, h2, rfl⟩
  refine ⟨fun k q hq => ?_, fun i j x y hx hy hxy => ?_, fun k q hq => ?_⟩
  · rcases q_mrg_get isC w1 ws k q (e1.trans e2.symm) hq with ⟨j, h1, h2⟩ | ⟨h1, h2⟩
    · exact hP1 j q h2
    · refine (hP k q h2).kept (hk q.1 (hP k q h2).lt (fun h => ?_))
      rcases h with ⟨k2, e, h⟩ | h
      · obtain ⟨j, h3, h4⟩ := q_pick hC k2 (q.1, e) h
        have hij := hD.1 k j q (q.1, e) h2 h4 rfl
        subst hij
        exact h1 (List.mem_of_getElem? h3)
      · have := (hP k q h2).lt
        omega
  · obtain ⟨x', h1, h2⟩ := old i x hx
    obtain ⟨y', h3, h4⟩ := old j y hy
    exact hD.1 i j x' y' h1 h3 (by rw [h2, h4]; exact hxy)
  · obtain ⟨q', h1, h2⟩ := old k q hq
    rw [← h2]
    exact hD.2 k q' h1
section QC
variable {p : Program} {l : Launch} {e : Env} {R : Room} {s : State} {m : MethodId} {args : Array Value} {below : List Frame} {meth : Method} {c : Code} {H : Heap} {locs : List Loc} {cells slots : Nat} {Q : State → Prop} {pc : Nat} {ls : Array Slot}
variable {cc cy : ByteArray} {nL ny fr lo n index ci : Nat} {own host : String} {y : MethodName} {ret : Option FieldType} {D : va_G} {cI cZ : ClassId} {ws wc w1 : va_W} {A : Nat → Prop} {b : Nat} {As rest st fs : List Value} {Qc : Array Value → State → Outcome → State → Prop}
def q_mb (y : MethodName) (cy : ByteArray) (ny : Nat) (ret : Option FieldType) (n : Nat) : Prop := Cond.code y cy ny ret ∈ bg ∧ Cond.initialized y.cls ∈ bg ∧ y.cls ≠ "java/lang/invoke/MethodHandle" ∧ y.cls ≠ "java/lang/invoke/VarHandle" ∧ (parseMethodDescriptor y.desc).map (fun d => d.parameters.length) = some n
def q_mv (y : MethodName) (ci : Nat) : Prop := Cond.instanceMethod y ∈ bg ∧ Cond.selects y.cls y y ∈ bg ∧ ∃ q : vw_C, vwCl[ci]? = some q ∧ q.1 = y.cls
theorem q_at (hK : va_K D vwCl (q_tys cI cZ) s) (hN : q_N s) (hP : va_P D vwCl ws H) (hD : va_D A ws) (isC : List Nat) (hC : isC.map (fun i => ws[i]?) = wc.map some) (hnd : va_nd isC = true) {U : State} (hU : U.heap = H) (hW : s.WarmedH U.vm) : q_pre D cI cZ H.size wc U := by
  refine ⟨by rw [hU], fun k q hq => ?_, va_K.moved hW.alike hK, (hD.sub isC hnd hC).weaken (fun _ _ _ _ => trivial), hN.warm hW⟩
  obtain ⟨i, _, h2⟩ := q_pick hC k q hq
  rw [hU]
  exact hP i q h2
/-- a virtual call -/
theorem q_rv (S : CallFix p m c cc nL s args bg own) (hK : va_K D vwCl (q_tys cI cZ) s) (hN : q_N s) (hP : va_P D vwCl ws H) (hD : va_D A ws)
    (hM : Met l y (Cond.code y cy ny ret :: bg) { frames := fr, cells := 0, slots := 0, locals := lo } (va_Pc (.ref b :: As) (q_pre D cI cZ H.size wc)) Qc 0 0 (va_A wc H.size))
    (mb : q_mb y cy ny ret n) (mv : q_mv y ci) (hl : Cond.methodLink own index y ∈ bg) (isC : List Nat) (hC : isC.map (fun i => ws[i]?) = wc.map some) (hnd : va_nd isC = true) (hw : wc[0]? = some (b, .inr (ci, fs)))
    (hR1 : fr + 1 ≤ R.frames) (hR2 : 8 + (ny + 11) + lo ≤ R.locals) (hn : As.length = n) (hsize : ls.size = nL) (hstk : st = As.reverse ++ .ref b :: rest) (hcat : (rest.map fun v => v.category).sum ≤ 8) (hc : cells ≤ R.cells ∧ slots ≤ R.slots) (hdg : decode cc pc = .ok (.invokevirtual index, 3)) :
    va_Run p l e R s m args below meth c H locs cells slots 0 0 (F0 m pc ls st) rest (Qc (Value.ref b :: As).toArray) (va_A wc H.size) := by
  obtain ⟨m1, m2, m3, m4, m5⟩ := mb
  obtain ⟨v1, v2, q, v3, v4⟩ := mv
  have hPc : va_P D vwCl wc H := fun k q hq => by
    obtain ⟨i, _, h2⟩ := q_pick hC k q hq
    exact hP i q h2
  refine va_runV S hM (cwV n S.2.2.2.2 (bg_gi ?_) rfl rfl rfl ⟨rfl, m3, m4, m5⟩ ⟨hR1, hR2⟩) ⟨q_pre_blind, ?_, fun U hU hW => ⟨rfl, q_at hK hN hP hD isC hC hnd hU hW⟩⟩ rfl hn hsize hstk (lv_room hcat) hdg hc
  · intro w hw
    rcases List.mem_append.mp hw with hw | hw
    · rcases List.mem_cons.mp hw with rfl | hw
      · exact hl
      rcases List.mem_cons.mp hw with rfl | hw
      · exact v1
      rcases List.mem_cons.mp hw with rfl | hw
      · exact v2
      rcases List.mem_cons.mp hw with rfl | hw
      · exact m2
      exact absurd hw List.not_mem_nil
    · exact bg_gc m1 w hw
  · rw [← v4]
    exact va_recv hK hPc v3 hw
/-- a call of a static method of its own class -/
theorem q_rs (S : CallFix p m c cc nL s args bg own) (hK : va_K D vwCl (q_tys cI cZ) s) (hN : q_N s) (hP : va_P D vwCl ws H) (hD : va_D A ws)
    (hM : Met l y (Cond.code y cy ny ret :: bg) { frames := fr, cells := 0, slots := 0, locals := lo } (va_Pc As (q_pre D cI cZ H.size wc)) Qc 0 0 (va_A wc H.size))
    (mb : q_mb y cy ny ret n) (mt : Cond.static y ∈ bg) (hl : Cond.methodLink own index y ∈ bg) (isC : List Nat) (hC : isC.map (fun i => ws[i]?) = wc.map some) (hnd : va_nd isC = true)
    (hR1 : fr + 1 ≤ R.frames) (hR2 : 8 + (ny + 11) + lo ≤ R.locals) (hn : As.length = n) (hsize : ls.size = nL) (hstk : st = As.reverse ++ rest) (hcat : (rest.map fun v => v.category).sum ≤ 8) (hc : cells ≤ R.cells ∧ slots ≤ R.slots) (hdg : decode cc pc = .ok (.invokestatic index, 3)) :
    va_Run p l e R s m args below meth c H locs cells slots 0 0 (F0 m pc ls st) rest (Qc As.toArray) (va_A wc H.size) := by
  obtain ⟨m1, m2, m3, m4, m5⟩ := mb
  refine va_runS S hM (va_cwS n S.2.2.2.2 (bg_gi ?_) rfl rfl rfl ⟨m3, m4, m5⟩ ⟨hR1, hR2⟩) ⟨q_pre_blind, fun U hU hW => ⟨rfl, q_at hK hN hP hD isC hC hnd hU hW⟩⟩ rfl hn hsize hstk (lv_room hcat) hdg hc
  intro w hw
  rcases List.mem_append.mp hw with hw | hw
  · rcases List.mem_cons.mp hw with rfl | hw
    · exact hl
    rcases List.mem_cons.mp hw with rfl | hw
    · exact mt
    rcases List.mem_cons.mp hw with rfl | hw
    · exact m2
    exact absurd hw List.not_mem_nil
  · exact bg_gc m1 w hw
/-- a call of a nest mate's static method -/
theorem q_rn (S : CallFix p m c cc nL s args bg own) (hK : va_K D vwCl (q_tys cI cZ) s) (hN : q_N s) (hP : va_P D vwCl ws H) (hD : va_D A ws)
    (hM : Met l y (Cond.code y cy ny ret :: bg) { frames := fr, cells := 0, slots := 0, locals := lo } (va_Pc As (q_pre D cI cZ H.size wc)) Qc 0 0 (va_A wc H.size))
    (mb : q_mb y cy ny ret n) (mt : Cond.static y ∈ bg) (hl : va_Nw (.methodLinkNest own index y host) s) (isC : List Nat) (hC : isC.map (fun i => ws[i]?) = wc.map some) (hnd : va_nd isC = true)
    (hR1 : fr + 1 ≤ R.frames) (hR2 : 8 + (ny + 11) + lo ≤ R.locals) (hn : As.length = n) (hsize : ls.size = nL) (hstk : st = As.reverse ++ rest) (hcat : (rest.map fun v => v.category).sum ≤ 8) (hc : cells ≤ R.cells ∧ slots ≤ R.slots) (hdg : decode cc pc = .ok (.invokestatic index, 3)) :
    va_Run p l e R s m args below meth c H locs cells slots 0 0 (F0 m pc ls st) rest (Qc As.toArray) (va_A wc H.size) := by
  obtain ⟨m1, m2, m3, m4, m5⟩ := mb
  exact va_runSN S hM ⟨va_cnB n S.2.2.2.2 (bg_gi (bg_gc m1)) rfl rfl rfl hl (S.2.2.2.2 _ m2) ⟨m3, m4, m5⟩ ⟨hR1, hR2⟩, S.2.2.2.2 _ mt, trivial⟩ ⟨q_pre_blind, fun U hU hW => ⟨rfl, q_at hK hN hP hD isC hC hnd hU hW⟩⟩ rfl hn hsize hstk (lv_room hcat) hdg hc
theorem q_ci {a : Array Value} {r0 : Int32} (hr : va_Run p l e R s m args below meth c H locs cells slots 0 0 (F0 m pc ls st) rest (q_Qi D w1 r0 (va_A wc H.size) a) (va_A wc H.size)) (hP : va_P D vwCl ws H) (hD : va_D A ws) (hS : va_S A s.heap H locs) (hA : ∀ q, s.heap.size ≤ q → A q) (isC : List Nat) (hC : isC.map (fun i => ws[i]?) = wc.map some) (hn : w1.map Prod.fst = wc.map Prod.fst)
    (kk : ∀ (H1 : Heap) (locs1 : List Loc), va_P D vwCl (q_mrg ws isC w1) H1 → va_D A (q_mrg ws isC w1) → va_S A s.heap H1 locs1 → W p l e R s m args below meth c H1 locs1 cells slots Q (F0 m (pc + 3) ls (.int r0 :: rest))) : W p l e R s m args below meth c H locs cells slots Q (F0 m pc ls st) := by
  have hF := va_free (wc := wc) hD hS hA isC hC
  refine va_calli hr hS (fun q _ h => hF q h) hF (fun r u t H1 locs1 ht hvm hw hB hz1 hk1 hS1 => ?_)
  subst hw
  rw [ht] at hB
  obtain ⟨a1, a2⟩ := q_join hP hD isC hC hn hk1 hB
  exact kk H1 locs1 a1 a2 hS1
theorem q_cl {a : Array Value} {r0 : Int64} (hr : va_Run p l e R s m args below meth c H locs cells slots 0 0 (F0 m pc ls st) rest (q_Ql D w1 r0 (va_A wc H.size) a) (va_A wc H.size)) (hP : va_P D vwCl ws H) (hD : va_D A ws) (hS : va_S A s.heap H locs) (hA : ∀ q, s.heap.size ≤ q → A q) (isC : List Nat) (hC : isC.map (fun i => ws[i]?) = wc.map some) (hn : w1.map Prod.fst = wc.map Prod.fst)
    (kk : ∀ (H1 : Heap) (locs1 : List Loc), va_P D vwCl (q_mrg ws isC w1) H1 → va_D A (q_mrg ws isC w1) → va_S A s.heap H1 locs1 → W p l e R s m args below meth c H1 locs1 cells slots Q (F0 m (pc + 3) ls (.long r0 :: rest))) : W p l e R s m args below meth c H locs cells slots Q (F0 m pc ls st) := by
  have hF := va_free (wc := wc) hD hS hA isC hC
  refine va_calll hr hS (fun q _ h => hF q h) hF (fun r u t H1 locs1 ht hvm hw hB hz1 hk1 hS1 => ?_)
  subst hw
  rw [ht] at hB
  obtain ⟨a1, a2⟩ := q_join hP hD isC hC hn hk1 hB
  exact kk H1 locs1 a1 a2 hS1
theorem q_cv {a : Array Value} (hr : va_Run p l e R s m args below meth c H locs cells slots 0 0 (F0 m pc ls st) rest (q_Qv D w1 (va_A wc H.size) a) (va_A wc H.size)) (hP : va_P D vwCl ws H) (hD : va_D A ws) (hS : va_S A s.heap H locs) (hA : ∀ q, s.heap.size ≤ q → A q) (isC : List Nat) (hC : isC.map (fun i => ws[i]?) = wc.map some) (hn : w1.map Prod.fst = wc.map Prod.fst)
    (kk : ∀ (H1 : Heap) (locs1 : List Loc), va_P D vwCl (q_mrg ws isC w1) H1 → va_D A (q_mrg ws isC w1) → va_S A s.heap H1 locs1 → W p l e R s m args below meth c H1 locs1 cells slots Q (F0 m (pc + 3) ls rest)) : W p l e R s m args below meth c H locs cells slots Q (F0 m pc ls st) := by
  have hF := va_free (wc := wc) hD hS hA isC hC
  refine va_callv hr hS (fun q _ h => hF q h) hF (fun u t H1 locs1 ht hvm hw hB hz1 hk1 hS1 => ?_)
  rw [ht] at hB
  obtain ⟨a1, a2⟩ := q_join hP hD isC hC hn hk1 hB
  exact kk H1 locs1 a1 a2 hS1
theorem q_cr {a : Array Value} {r0 : Nat} (hr : va_Run p l e R s m args below meth c H locs cells slots 0 0 (F0 m pc ls st) rest (q_Qr D w1 r0 (va_A wc H.size) a) (va_A wc H.size)) (hP : va_P D vwCl ws H) (hD : va_D A ws) (hS : va_S A s.heap H locs) (hA : ∀ q, s.heap.size ≤ q → A q) (isC : List Nat) (hC : isC.map (fun i => ws[i]?) = wc.map some) (hn : w1.map Prod.fst = wc.map Prod.fst)
    (kk : ∀ (H1 : Heap) (locs1 : List Loc), va_P D vwCl (q_mrg ws isC w1) H1 → va_D A (q_mrg ws isC w1) → va_S A s.heap H1 locs1 → W p l e R s m args below meth c H1 locs1 cells slots Q (F0 m (pc + 3) ls (.ref r0 :: rest))) : W p l e R s m args below meth c H locs cells slots Q (F0 m pc ls st) := by
  have hF := va_free (wc := wc) hD hS hA isC hC
  refine va_callr hr hS (fun q _ h => hF q h) hF (fun u ra t H1 locs1 ht hvm hw hB hz1 hk1 hS1 => ?_)
  obtain ⟨rfl, hB⟩ := hB
  rw [ht] at hB
  obtain ⟨a1, a2⟩ := q_join hP hD isC hC hn hk1 hB
  exact kk H1 locs1 a1 a2 hS1
theorem q_iret {v : Int32} (hx : p.tables.exec = Jvm.exec) (hb : c.code = cc) (hr : meth.sig.returnType = some .int) (hlocks : meth.locks = false) (hP : va_P D vwCl w1 H) (hS : va_S A s.heap H locs) (hdg : decode cc pc = .ok (.ireturn, 1)) : W p l e R s m args below meth c H locs cells slots (MQ below (q_Qi D w1 v A) args s cells slots A) (F0 m pc ls [.int v]) :=
  W.iret hx hb hr (fun t ht hW => ⟨⟨v, (), rfl, rfl, (show va_P D vwCl w1 t.heap by rw [ht]; exact hP)⟩, hS.F ht⟩) hS.2.2 hdg hlocks
theorem q_zret {v : Int32} (hx : p.tables.exec = Jvm.exec) (hb : c.code = cc) (hr : meth.sig.returnType = some .boolean) (hlocks : meth.locks = false) (hz : narrow .boolean (.int v) = .int v) (hP : va_P D vwCl w1 H) (hS : va_S A s.heap H locs) (hdg : decode cc pc = .ok (.ireturn, 1)) : W p l e R s m args below meth c H locs cells slots (MQ below (q_Qi D w1 v A) args s cells slots A) (F0 m pc ls [.int v]) :=
  W.zret hx hb hr hz (fun t ht hW => ⟨⟨v, (), rfl, rfl, (show va_P D vwCl w1 t.heap by rw [ht]; exact hP)⟩, hS.F ht⟩) hS.2.2 hdg hlocks
theorem q_lret {v : Int64} (hx : p.tables.exec = Jvm.exec) (hb : c.code = cc) (hr : meth.sig.returnType = some .long) (hlocks : meth.locks = false) (hP : va_P D vwCl w1 H) (hS : va_S A s.heap H locs) (hdg : decode cc pc = .ok (.lreturn, 1)) : W p l e R s m args below meth c H locs cells slots (MQ below (q_Ql D w1 v A) args s cells slots A) (F0 m pc ls [.long v]) :=
  W.lret hx hb hr (fun t ht hW => ⟨⟨v, (), rfl, rfl, (show va_P D vwCl w1 t.heap by rw [ht]; exact hP)⟩, hS.F ht⟩) hS.2.2 hdg hlocks
theorem q_vret (hx : p.tables.exec = Jvm.exec) (hb : c.code = cc) (hr : meth.sig.returnType = none) (hlocks : meth.locks = false) (hP : va_P D vwCl w1 H) (hS : va_S A s.heap H locs) (hdg : decode cc pc = .ok (.return_, 1)) : W p l e R s m args below meth c H locs cells slots (MQ below (q_Qv D w1 A) args s cells slots A) (F0 m pc ls []) :=
  W.vret hx hb hr (fun t ht hW => ⟨⟨(), rfl, trivial, (show va_P D vwCl w1 t.heap by rw [ht]; exact hP)⟩, hS.F ht⟩) hS.2.2 hdg hlocks
end QC
/-- a place in a row; a divisor; a truth value: where they aren't, the mirror has no answer -/
def gd {α : Type} (i : Int32) (n : Nat) (x : Option α) : Option α := if i < 0 ∨ n ≤ i.toNatClampNeg then none else x
theorem gd_s {α : Type} {i : Int32} {n : Nat} {x : Option α} {o : α} (h : gd i n x = some o) : vp_in i n ∧ x = some o := by
  unfold gd at h
  split at h
  · cases h
  · rename_i q
    exact ⟨q, h⟩
theorem gd_in {α : Type} {i : Int32} {n : Nat} {x : Option α} (h : vp_in i n) : gd i n x = x := if_neg h
def nzl {α : Type} (y : Int64) (x : Option α) : Option α := if y = 0 then none else x
theorem nzl_s {α : Type} {y : Int64} {x : Option α} {o : α} (h : nzl y x = some o) : ¬ y = 0 ∧ x = some o := by
  unfold nzl at h
  split at h
  · cases h
  · rename_i q
    exact ⟨q, h⟩
theorem nzl_in {α : Type} {y : Int64} {x : Option α} (h : ¬ y = 0) : nzl y x = x := if_neg h
def bz {α : Type} (v : Int32) (x : Option α) : Option α := if v = 0 ∨ v = 1 then x else none
theorem bz_s {α : Type} {v : Int32} {x : Option α} {o : α} (h : bz v x = some o) : narrow .boolean (.int v) = .int v ∧ x = some o := by
  unfold bz at h
  split at h
  · rename_i q
    refine ⟨?_, h⟩
    rcases q with rfl | rfl <;> rfl
  · cases h
theorem bz_in {α : Type} {v : Int32} {x : Option α} (h : v = 0 ∨ v = 1) : bz v x = x := if_pos h
theorem ob_s {α β : Type} {x : Option α} {f : α → Option β} {o : β} (h : x.bind f = some o) : ∃ a, x = some a ∧ f a = some o := Option.bind_eq_some_iff.mp h
theorem it_s {α : Type} {c : Prop} [Decidable c] {x y : α} {o : α} (hc : c) (h : (if c then x else y) = o) : x = o := (if_pos hc).symm.trans h
theorem it_n {α : Type} {c : Prop} [Decidable c] {x y : α} {o : α} (hc : ¬ c) (h : (if c then x else y) = o) : y = o := (if_neg hc).symm.trans h
def FU : Nat := 1000000
