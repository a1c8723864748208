theorem ref_on : ∀ c ∈ (Cond.code x code maxLocals ret :: tables_1), (c.onTables || c.before start1.args0 (start1.aboutOf #[])) = true := by decide +kernel
theorem ref_words : ∀ c ∈ (Cond.code x code maxLocals ret :: tables_1), c.before start1.args0 (start1.aboutOf #[]) = true := fun c hc => by
  rcases Bool.or_eq_true _ _ ▸ ref_on c hc with h | h
  · exact va_tabs h (rfl : start1.about.vm = (start1.aboutOf #[]).vm) (start1.words c hc)
  · exact h
set_option maxRecDepth 16384 in
theorem ref_start : Jvm.D.AtStart classFile x code maxLocals ret World_1 tables_1 room_1 Calls_1 rest_1 Pre_1 launch0 start1.p0 start1.e0 (start1.aboutOf #[]) ⟨0, 0⟩ start1.args0 Lib.HandBits.below0 :=
  ⟨lists_1, trivial, launch0.admits_env _ _ _, launch0.least_env, fairChoices_fair.cas, fairChoices_fair.clock, rfl, by decide +kernel, by decide +kernel,
    (Spec.applies_iff rfl).mpr ⟨rfl, rfl, rfl, by decide +kernel, by decide +kernel, by decide +kernel, launch0.hasRoom_least _ room_1 (by decide +kernel) (by decide +kernel) (by decide +kernel) (by decide +kernel) (by decide +kernel) (by decide +kernel), atoms_intro ref_words⟩,
    trivial, (show rest_1_c.before start1.args0 (start1.aboutOf #[]) = true by decide +kernel), (show (Cond.and given_1 narrow_1).before start1.args0 (start1.aboutOf #[]) = true by decide +kernel)⟩
set_option maxRecDepth 16384 in
theorem ref_room : (headSpec (Jvm.Cond.code x code maxLocals ret :: tables_1) rq).applies x start1.e0.platform (start1.aboutOf #[]) = true :=
  (Spec.applies_iff rfl).mpr ⟨rfl, rfl, rfl, by decide +kernel, by decide +kernel, by decide +kernel, launch0.hasRoom_least _ rq (by decide +kernel) (by decide +kernel) (by decide +kernel) (by decide +kernel) (by decide +kernel) (by decide +kernel), atoms_intro ref_words⟩
theorem ref_script : lw_P 0 [] start1.args0 (start1.aboutOf #[]) := by
  refine ⟨rfl, ?_, Nat.zero_le _, (show (Cond.and given_1 narrow_1).before start1.args0 (start1.aboutOf #[]) = true by decide +kernel)⟩
  exact ⟨{ cls := 18, slots := #[], vm := .none }, rfl, rfl, ⟨fun k h => (by cases h), _, rfl, _, rfl⟩, by decide⟩
theorem ref_1_1 : RefutedClaimed_1_1 := by
  obtain ⟨a1, a2, a3, a4, a5, a6, a7, a8, a9, a10, a11⟩ := ref_start
  obtain ⟨k, o, h1, h2, h3, hQ⟩ := lq_walk launch0 0 start1.p0 start1.e0 a3 a5 a6 (start1.aboutOf #[]) ⟨0, 0⟩ start1.args0 Lib.HandBits.below0 a7 ((Spec.applies_iff_loose a7).mp ref_room).1 ref_script trivial
  exact ⟨launch0, start1.p0, start1.e0, start1.aboutOf #[], ⟨0, 0⟩, start1.args0, Lib.HandBits.below0, rfl, ref_start, k, o, h1, h2, h3, fun h => lq_not hQ h.2⟩
theorem ref_1_2 : RefutedClaimed_1_2 := by
  obtain ⟨a1, a2, a3, a4, a5, a6, a7, a8, a9, a10, a11⟩ := ref_start
  obtain ⟨k, o, h1, h2, h3, hQ⟩ := lq_walk launch0 0 start1.p0 start1.e0 a3 a5 a6 (start1.aboutOf #[]) ⟨0, 0⟩ start1.args0 Lib.HandBits.below0 a7 ((Spec.applies_iff_loose a7).mp ref_room).1 ref_script trivial
  exact ⟨launch0, start1.p0, start1.e0, start1.aboutOf #[], ⟨0, 0⟩, start1.args0, Lib.HandBits.below0, rfl, ref_start, k, o, h1, h2, h3, fun h => lq_not hQ h.2⟩
/-- what i_vc asks is false: its first half alone, at the empty script -/
theorem ref_claim_1 : ¬ Claimed_1_1 := by
  intro h
  obtain ⟨a1, a2, a3, a4, a5, a6, a7, a8, a9, a10, a11, a12, a13⟩ := ref_start
  obtain ⟨k, o, h1, h2, h3, hQ⟩ := lq_walk launch0 0 start1.p0 start1.e0 a3 a5 a6 (start1.aboutOf #[]) ⟨0, 0⟩ start1.args0 Lib.HandBits.below0 a7 ((Spec.applies_iff_loose a7).mp ref_room).1 ref_script trivial
  obtain ⟨n, o', g1, g2, g3, g4⟩ := h launch0 rfl a1 a2 start1.p0 start1.e0 a3 a5 a6 (start1.aboutOf #[]) ⟨0, 0⟩ start1.args0 Lib.HandBits.below0 a7 a8 a9 a10 ⟨a11, a12, a13⟩
  rcases Nat.lt_trichotomy n k with q | q | q
  · exact g3.not_within (h1 n q)
  · subst q
    cases g3.outcome_unique h3
    exact lq_not hQ g4.2
  · exact h3.not_within (g1 k q)
theorem ref_claim_2 : ¬ Claimed_1_2 := by
  intro h
  obtain ⟨a1, a2, a3, a4, a5, a6, a7, a8, a9, a10, a11, a12, a13⟩ := ref_start
  obtain ⟨k, o, h1, h2, h3, hQ⟩ := lq_walk launch0 0 start1.p0 start1.e0 a3 a5 a6 (start1.aboutOf #[]) ⟨0, 0⟩ start1.args0 Lib.HandBits.below0 a7 ((Spec.applies_iff_loose a7).mp ref_room).1 ref_script trivial
  obtain ⟨n, o', g1, g2, g3, g4⟩ := h launch0 rfl a1 a2 start1.p0 start1.e0 a3 a5 a6 (start1.aboutOf #[]) ⟨0, 0⟩ start1.args0 Lib.HandBits.below0 a7 a8 a9 a10 ⟨a11, a12, a13⟩
  rcases Nat.lt_trichotomy n k with q | q | q
  · exact g3.not_within (h1 n q)
  · subst q
    cases g3.outcome_unique h3
    exact lq_not hQ g4.2
  · exact h3.not_within (g1 k q)
