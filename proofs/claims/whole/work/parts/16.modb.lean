theorem gf_X8_33 {p : Program} {l : Launch} {e : Env} {R : Room} {s : State} {m : MethodId} {args : Array Value} {below : List Frame} {meth : Method} {c : Code} {H : Heap} {locs : List Loc} {cells slots : Nat} {Q : State → Prop} {pc : Nat} {ls : Array Slot} {cc : ByteArray} {D : va_G} {cI cZ : ClassId} {ws : va_W} {a : Nat} {rest fs : List Value} (hx : p.tables.exec = Jvm.exec) (hb : c.code = cc) (hts : ∀ w ∈ bg, w.before args s = true) (hown : s.vm.findClass RX8 = some m.cls) (hK : va_K D vwCl (q_tys cI cZ) s) (hN : q_N s) (hP : va_P D vwCl ws H) (q0 : Nat) (he : ws[q0]? = some (a, .inr (8, fs))) {v : Value} (hv : fs[8]? = some v) (hdg : decode cc pc = .ok (.getfield 33, 3)) (kk : W p l e R s m args below meth c H locs cells slots Q (F0 m (pc + 3) ls (v :: rest))) : W p l e R s m args below meth c H locs cells slots Q (F0 m pc ls (.ref a :: rest)) :=
  va_get (C := RX8) (T := TX8) (N := 19) hx hb hts wu_X8 hown hK hP q0 he rfl 8 (by decide) (hts _ wf_X8_33) (fun _ h9 => h9) hv hdg kk
theorem gf_X8_36 {p : Program} {l : Launch} {e : Env} {R : Room} {s : State} {m : MethodId} {args : Array Value} {below : List Frame} {meth : Method} {c : Code} {H : Heap} {locs : List Loc} {cells slots : Nat} {Q : State → Prop} {pc : Nat} {ls : Array Slot} {cc : ByteArray} {D : va_G} {cI cZ : ClassId} {ws : va_W} {a : Nat} {rest fs : List Value} (hx : p.tables.exec = Jvm.exec) (hb : c.code = cc) (hts : ∀ w ∈ bg, w.before args s = true) (hown : s.vm.findClass RX8 = some m.cls) (hK : va_K D vwCl (q_tys cI cZ) s) (hN : q_N s) (hP : va_P D vwCl ws H) (q0 : Nat) (he : ws[q0]? = some (a, .inr (8, fs))) {v : Value} (hv : fs[9]? = some v) (hdg : decode cc pc = .ok (.getfield 36, 3)) (kk : W p l e R s m args below meth c H locs cells slots Q (F0 m (pc + 3) ls (v :: rest))) : W p l e R s m args below meth c H locs cells slots Q (F0 m pc ls (.ref a :: rest)) :=
  va_get (C := RX8) (T := TX8) (N := 19) hx hb hts wu_X8 hown hK hP q0 he rfl 9 (by decide) (hts _ wf_X8_36) (fun _ h9 => h9) hv hdg kk
theorem mb_X8_tell : q_mb yX8_tell cX8_tell 10 (some .int) 1 := ⟨wc_X8_tell, wn_X8, by decide, by decide, by decide +kernel⟩
theorem mv_X8_tell : q_mv yX8_tell 8 := ⟨wi_X8_tell, ws_X8_tell, _, rfl, rfl⟩
def wd_X8_tell (cI cZ : ClassId) (AT AT_al AT_kp AT_ik AT_rf AT_hd AT_bs AT_se AT_bf AT_te AT_by AT_an AT_vs : Nat) (vT_ab : Int64) (vT_be : Int64) (vT_byl : Int32) (vT_tka : Int32) (vT_tkl : Int32) (vT_tkn : Int32) (vT_val : Int32) (fT_al : Nat → Int32) (fT_rf : Nat → Int32) (fT_se : Nat → Int32) (fT_bf : Nat → Int32) : va_W := [(AT, .inr (8, [.ref AT_al, .ref AT_kp, .ref AT_ik, .ref AT_rf, .long vT_ab, .long vT_be, .ref AT_hd, .ref AT_bs, .ref AT_se, .ref AT_bf, .ref AT_te, .ref AT_by, .int vT_byl, .int vT_tka, .int vT_tkl, .int vT_tkn, .int vT_val, .ref AT_an, .ref AT_vs])), (AT_al, .inl (cI, 312, .inl fT_al)), (AT_rf, .inl (cI, 3, .inl fT_rf)), (AT_se, .inl (cI, 64, .inl fT_se)), (AT_bf, .inl (cI, 64, .inl fT_bf))]
def fL_X8_tell_130 (p1 : Int32) (fT_al : Nat → Int32) (k_65 : Int32 → Int32 → Int32 → Int32 → (Nat → Int32) → (Nat → Int32) → (Nat → Int32) → Option (Int32 × (Nat → Int32) × (Nat → Int32) × (Nat → Int32))) (k_118 : Int32 → Int32 → Int32 → Int32 → Int32 → Int32 → (Nat → Int32) → (Nat → Int32) → (Nat → Int32) → Option (Int32 × (Nat → Int32) × (Nat → Int32) × (Nat → Int32))) : Nat → Int32 → Int32 → Int32 → Int32 → Int32 → Int32 → Int32 → Int32 → (Nat → Int32) → (Nat → Int32) → (Nat → Int32) → Option (Int32 × (Nat → Int32) × (Nat → Int32) × (Nat → Int32))
  | 0, _, _, _, _, _, _, _, _, _, _, _ => none
  | fu + 1, x9, x8, x7, x6, x5, x4, x3, x2, fT_rf, fT_se, fT_bf => if x2 ≤ x9 then (if x8 ≤ x6 then (k_118 (x7 + 1) x6 x5 x4 x3 x2 fT_rf fT_se fT_bf) else (k_118 (x7 + 1) x8 x5 x4 x3 x2 fT_rf fT_se fT_bf)) else (gd x7 64 (gd x9 64 (if (fT_bf (Int32.toNatClampNeg x7)) = (fT_bf (Int32.toNatClampNeg x9)) then (fL_X8_tell_130 p1 fT_al k_65 k_118 fu (x9 + 1) (x8 + 1) x7 x6 x5 x4 x3 x2 fT_rf fT_se fT_bf) else (fL_X8_tell_130 p1 fT_al k_65 k_118 fu (x9 + 1) (x8 + 0) x7 x6 x5 x4 x3 x2 fT_rf fT_se fT_bf))))
def fL_X8_tell_118 (p1 : Int32) (fT_al : Nat → Int32) (k_65 : Int32 → Int32 → Int32 → Int32 → (Nat → Int32) → (Nat → Int32) → (Nat → Int32) → Option (Int32 × (Nat → Int32) × (Nat → Int32) × (Nat → Int32))) : Nat → Int32 → Int32 → Int32 → Int32 → Int32 → Int32 → (Nat → Int32) → (Nat → Int32) → (Nat → Int32) → Option (Int32 × (Nat → Int32) × (Nat → Int32) × (Nat → Int32))
  | 0, _, _, _, _, _, _, _, _, _ => none
  | fu + 1, x7, x6, x5, x4, x3, x2, fT_rf, fT_se, fT_bf => if x2 ≤ x7 then (if x4 ≤ x6 then (k_65 (x5 + 1) x4 x3 x2 fT_rf fT_se fT_bf) else (k_65 (x5 + 1) x6 x5 x2 fT_rf fT_se fT_bf)) else (fL_X8_tell_130 p1 fT_al k_65 (fun x7 x6 x5 x4 x3 x2 fT_rf fT_se fT_bf => fL_X8_tell_118 p1 fT_al k_65 fu x7 x6 x5 x4 x3 x2 fT_rf fT_se fT_bf) FU 0 0 x7 x6 x5 x4 x3 x2 fT_rf fT_se fT_bf)
def fL_X8_tell_82 (p1 : Int32) (fT_al : Nat → Int32) (k_65 : Int32 → Int32 → Int32 → Int32 → (Nat → Int32) → (Nat → Int32) → (Nat → Int32) → Option (Int32 × (Nat → Int32) × (Nat → Int32) × (Nat → Int32))) : Nat → Int32 → Int32 → Int32 → Int32 → Int32 → Int32 → (Nat → Int32) → (Nat → Int32) → (Nat → Int32) → Option (Int32 × (Nat → Int32) × (Nat → Int32) × (Nat → Int32))
  | 0, _, _, _, _, _, _, _, _, _ => none
  | fu + 1, x7, x6, x5, x4, x3, x2, fT_rf, fT_se, fT_bf => if x2 ≤ x7 then (fL_X8_tell_118 p1 fT_al k_65 FU 0 x6 x5 x4 x3 x2 fT_rf fT_se fT_bf) else (gd x7 64 (Option.bind (fm_X8_believedOf p1 (fT_se (Int32.toNatClampNeg x7)) x5 fT_al) (fun r_105 => fL_X8_tell_82 p1 fT_al k_65 fu (x7 + 1) x6 x5 x4 x3 x2 fT_rf fT_se (upd fT_bf (Int32.toNatClampNeg x7) r_105))))
def fL_X8_tell_65 (p1 : Int32) (fT_al : Nat → Int32) : Nat → Int32 → Int32 → Int32 → Int32 → (Nat → Int32) → (Nat → Int32) → (Nat → Int32) → Option (Int32 × (Nat → Int32) × (Nat → Int32) × (Nat → Int32))
  | 0, _, _, _, _, _, _, _ => none
  | fu + 1, x5, x4, x3, x2, fT_rf, fT_se, fT_bf => if 12 ≤ x5 then (some (x3, fT_rf, fT_se, fT_bf)) else (if x2 ≤ 0 then (some (x3, fT_rf, fT_se, fT_bf)) else (fL_X8_tell_82 p1 fT_al (fun x5 x4 x3 x2 fT_rf fT_se fT_bf => fL_X8_tell_65 p1 fT_al fu x5 x4 x3 x2 fT_rf fT_se fT_bf) FU 0 0 x5 x4 x3 x2 fT_rf fT_se fT_bf))
def fL_X8_tell_19 (p1 : Int32) (fT_al : Nat → Int32) : Nat → Int32 → Int32 → (Nat → Int32) → (Nat → Int32) → (Nat → Int32) → Option (Int32 × (Nat → Int32) × (Nat → Int32) × (Nat → Int32))
  | 0, _, _, _, _, _ => none
  | fu + 1, x3, x2, fT_rf, fT_se, fT_bf => if (1 <<< ((fT_al 1) &&& 31)) ≤ x3 then (fL_X8_tell_65 p1 fT_al FU 0 1000000 (-1) x2 fT_rf fT_se fT_bf) else (Option.bind (fm_X8_isSentSo p1 x3 fT_al) (fun r_34 => if r_34 = 0 then (fL_X8_tell_19 p1 fT_al fu (x3 + 1) x2 fT_rf fT_se fT_bf) else (gd x2 64 (fL_X8_tell_19 p1 fT_al fu (x3 + 1) (x2 + 1) fT_rf (upd fT_se (Int32.toNatClampNeg x2) x3) fT_bf))))
def fm_X8_tell (p1 : Int32) (fT_al : Nat → Int32) (fT_rf : Nat → Int32) (fT_se : Nat → Int32) (fT_bf : Nat → Int32) : Option (Int32 × (Nat → Int32) × (Nat → Int32) × (Nat → Int32)) := Option.bind (fm_X8_isSleeper p1 fT_al) (fun r_2 => if r_2 = 0 then (Option.bind (fm_X8_bad (-2) fT_rf) (fun r_11 => some (r_11.1, r_11.2, fT_se, fT_bf))) else (fL_X8_tell_19 p1 fT_al FU 0 0 fT_rf fT_se fT_bf))
set_option maxHeartbeats 4000000 in
set_option maxRecDepth 100000 in
theorem c_X8_tell (l : Launch) (D : va_G) (cI cZ : ClassId) (sz : Nat) (AT AT_al AT_kp AT_ik AT_rf AT_hd AT_bs AT_se AT_bf AT_te AT_by AT_an AT_vs : Nat) (vT_ab : Int64) (vT_be : Int64) (vT_byl : Int32) (vT_tka : Int32) (vT_tkl : Int32) (vT_tkn : Int32) (vT_val : Int32) (fT_al : Nat → Int32) (fT_rf : Nat → Int32) (fT_se : Nat → Int32) (fT_bf : Nat → Int32) (p1 : Int32) (out : (Int32 × (Nat → Int32) × (Nat → Int32) × (Nat → Int32))) (hm : fm_X8_tell p1 fT_al fT_rf fT_se fT_bf = some out) : Met l yX8_tell (Cond.code yX8_tell cX8_tell 10 (some .int) :: bg) { frames := 3, cells := 0, slots := 0, locals := 74 } (va_Pc [.ref AT, .int p1] (q_pre D cI cZ sz (wd_X8_tell cI cZ AT AT_al AT_kp AT_ik AT_rf AT_hd AT_bs AT_se AT_bf AT_te AT_by AT_an AT_vs vT_ab vT_be vT_byl vT_tka vT_tkl vT_tkn vT_val fT_al fT_rf fT_se fT_bf))) (q_Qi D (wd_X8_tell cI cZ AT AT_al AT_kp AT_ik AT_rf AT_hd AT_bs AT_se AT_bf AT_te AT_by AT_an AT_vs vT_ab vT_be vT_byl vT_tka vT_tkl vT_tkn vT_val fT_al out.2.1 out.2.2.1 out.2.2.2) out.1 (va_A (wd_X8_tell cI cZ AT AT_al AT_kp AT_ik AT_rf AT_hd AT_bs AT_se AT_bf AT_te AT_by AT_an AT_vs vT_ab vT_be vT_byl vT_tka vT_tkl vT_tkn vT_val fT_al fT_rf fT_se fT_bf) sz)) 0 0 (va_A (wd_X8_tell cI cZ AT AT_al AT_kp AT_ik AT_rf AT_hd AT_bs AT_se AT_bf AT_te AT_by AT_an AT_vs vT_ab vT_be vT_byl vT_tka vT_tkl vT_tkn vT_val fT_al fT_rf fT_se fT_bf) sz) := by
  refine q_met (fun A => q_Qi D (wd_X8_tell cI cZ AT AT_al AT_kp AT_ik AT_rf AT_hd AT_bs AT_se AT_bf AT_te AT_by AT_an AT_vs vT_ab vT_be vT_byl vT_tka vT_tkl vT_tkn vT_val fT_al out.2.1 out.2.2.1 out.2.2.2) out.1 A) (by decide) (Nat.le_of_ble_eq_true rfl) ?_
  intro p e s m below meth c ls A hx hb hr hml hown hts hlocks _ hA hS hP hD hK hN hl
  have hown : s.vm.findClass RX8 = some m.cls := hown
  have hl : lv_has ls 10 [(0, .ref AT), (1, .int p1)] := hl
  have hL_65 : ∀ (fu_65 : Nat) (x5 : Int32) (x4 : Int32) (x3 : Int32) (x2 : Int32) (fT_rf : Nat → Int32) (fT_se : Nat → Int32) (fT_bf : Nat → Int32) (H : Heap) (locs : List Loc) (ls : Array Slot), fL_X8_tell_65 p1 fT_al fu_65 x5 x4 x3 x2 fT_rf fT_se fT_bf = some out → va_P D vwCl (wd_X8_tell cI cZ AT AT_al AT_kp AT_ik AT_rf AT_hd AT_bs AT_se AT_bf AT_te AT_by AT_an AT_vs vT_ab vT_be vT_byl vT_tka vT_tkl vT_tkn vT_val fT_al fT_rf fT_se fT_bf) H → va_D A (wd_X8_tell cI cZ AT AT_al AT_kp AT_ik AT_rf AT_hd AT_bs AT_se AT_bf AT_te AT_by AT_an AT_vs vT_ab vT_be vT_byl vT_tka vT_tkl vT_tkn vT_val fT_al fT_rf fT_se fT_bf) → va_S A s.heap H locs → lv_has ls 10 [(5, .int x5), (4, .int x4), (3, .int x3), (2, .int x2), (0, .ref AT), (1, .int p1)] → W p l e { frames := 3, cells := 0, slots := 0, locals := 74 } s m ([.ref AT, .int p1] : List Value).toArray below meth c H locs 0 0 (MQ below (q_Qi D (wd_X8_tell cI cZ AT AT_al AT_kp AT_ik AT_rf AT_hd AT_bs AT_se AT_bf AT_te AT_by AT_an AT_vs vT_ab vT_be vT_byl vT_tka vT_tkl vT_tkn vT_val fT_al out.2.1 out.2.2.1 out.2.2.2) out.1 A) ([.ref AT, .int p1] : List Value).toArray s 0 0 A) (F0 m 65 ls []) := by
    intro fu_65
    induction fu_65 with
    | zero => intro x5 x4 x3 x2 fT_rf fT_se fT_bf H locs ls hm hP hD hS hl; exact absurd (show (none : Option (Int32 × (Nat → Int32) × (Nat → Int32) × (Nat → Int32))) = some out from hm) (fun h => nomatch h)
    | succ fu_65 ih_65 =>
      have hL_118 : ∀ (fu_118 : Nat) (x7 : Int32) (x6 : Int32) (x5 : Int32) (x4 : Int32) (x3 : Int32) (x2 : Int32) (fT_rf : Nat → Int32) (fT_se : Nat → Int32) (fT_bf : Nat → Int32) (H : Heap) (locs : List Loc) (ls : Array Slot), fL_X8_tell_118 p1 fT_al (fun x5 x4 x3 x2 fT_rf fT_se fT_bf => fL_X8_tell_65 p1 fT_al fu_65 x5 x4 x3 x2 fT_rf fT_se fT_bf) fu_118 x7 x6 x5 x4 x3 x2 fT_rf fT_se fT_bf = some out → va_P D vwCl (wd_X8_tell cI cZ AT AT_al AT_kp AT_ik AT_rf AT_hd AT_bs AT_se AT_bf AT_te AT_by AT_an AT_vs vT_ab vT_be vT_byl vT_tka vT_tkl vT_tkn vT_val fT_al fT_rf fT_se fT_bf) H → va_D A (wd_X8_tell cI cZ AT AT_al AT_kp AT_ik AT_rf AT_hd AT_bs AT_se AT_bf AT_te AT_by AT_an AT_vs vT_ab vT_be vT_byl vT_tka vT_tkl vT_tkn vT_val fT_al fT_rf fT_se fT_bf) → va_S A s.heap H locs → lv_has ls 10 [(7, .int x7), (6, .int x6), (5, .int x5), (4, .int x4), (3, .int x3), (2, .int x2), (0, .ref AT), (1, .int p1)] → W p l e { frames := 3, cells := 0, slots := 0, locals := 74 } s m ([.ref AT, .int p1] : List Value).toArray below meth c H locs 0 0 (MQ below (q_Qi D (wd_X8_tell cI cZ AT AT_al AT_kp AT_ik AT_rf AT_hd AT_bs AT_se AT_bf AT_te AT_by AT_an AT_vs vT_ab vT_be vT_byl vT_tka vT_tkl vT_tkn vT_val fT_al out.2.1 out.2.2.1 out.2.2.2) out.1 A) ([.ref AT, .int p1] : List Value).toArray s 0 0 A) (F0 m 118 ls []) := by
        intro fu_118
        induction fu_118 with
        | zero => intro x7 x6 x5 x4 x3 x2 fT_rf fT_se fT_bf H locs ls hm hP hD hS hl; exact absurd (show (none : Option (Int32 × (Nat → Int32) × (Nat → Int32) × (Nat → Int32))) = some out from hm) (fun h => nomatch h)
        | succ fu_118 ih_118 =>
          have hL_130 : ∀ (fu_130 : Nat) (x9 : Int32) (x8 : Int32) (x7 : Int32) (x6 : Int32) (x5 : Int32) (x4 : Int32) (x3 : Int32) (x2 : Int32) (fT_rf : Nat → Int32) (fT_se : Nat → Int32) (fT_bf : Nat → Int32) (H : Heap) (locs : List Loc) (ls : Array Slot), fL_X8_tell_130 p1 fT_al (fun x5 x4 x3 x2 fT_rf fT_se fT_bf => fL_X8_tell_65 p1 fT_al fu_65 x5 x4 x3 x2 fT_rf fT_se fT_bf) (fun x7 x6 x5 x4 x3 x2 fT_rf fT_se fT_bf => fL_X8_tell_118 p1 fT_al (fun x5 x4 x3 x2 fT_rf fT_se fT_bf => fL_X8_tell_65 p1 fT_al fu_65 x5 x4 x3 x2 fT_rf fT_se fT_bf) fu_118 x7 x6 x5 x4 x3 x2 fT_rf fT_se fT_bf) fu_130 x9 x8 x7 x6 x5 x4 x3 x2 fT_rf fT_se fT_bf = some out → va_P D vwCl (wd_X8_tell cI cZ AT AT_al AT_kp AT_ik AT_rf AT_hd AT_bs AT_se AT_bf AT_te AT_by AT_an AT_vs vT_ab vT_be vT_byl vT_tka vT_tkl vT_tkn vT_val fT_al fT_rf fT_se fT_bf) H → va_D A (wd_X8_tell cI cZ AT AT_al AT_kp AT_ik AT_rf AT_hd AT_bs AT_se AT_bf AT_te AT_by AT_an AT_vs vT_ab vT_be vT_byl vT_tka vT_tkl vT_tkn vT_val fT_al fT_rf fT_se fT_bf) → va_S A s.heap H locs → lv_has ls 10 [(9, .int x9), (8, .int x8), (7, .int x7), (6, .int x6), (5, .int x5), (4, .int x4), (3, .int x3), (2, .int x2), (0, .ref AT), (1, .int p1)] → W p l e { frames := 3, cells := 0, slots := 0, locals := 74 } s m ([.ref AT, .int p1] : List Value).toArray below meth c H locs 0 0 (MQ below (q_Qi D (wd_X8_tell cI cZ AT AT_al AT_kp AT_ik AT_rf AT_hd AT_bs AT_se AT_bf AT_te AT_by AT_an AT_vs vT_ab vT_be vT_byl vT_tka vT_tkl vT_tkn vT_val fT_al out.2.1 out.2.2.1 out.2.2.2) out.1 A) ([.ref AT, .int p1] : List Value).toArray s 0 0 A) (F0 m 130 ls []) := by
            intro fu_130
            induction fu_130 with
            | zero => intro x9 x8 x7 x6 x5 x4 x3 x2 fT_rf fT_se fT_bf H locs ls hm hP hD hS hl; exact absurd (show (none : Option (Int32 × (Nat → Int32) × (Nat → Int32) × (Nat → Int32))) = some out from hm) (fun h => nomatch h)
            | succ fu_130 ih_130 =>
              intro x9 x8 x7 x6 x5 x4 x3 x2 fT_rf fT_se fT_bf H locs ls hm hP hD hS hl
              rw [fL_X8_tell_130] at hm
              refine lv_iload hx hb dX8_tell_130 (lv_at hl 0 rfl) ?_
              refine lv_iload_n hx hb dX8_tell_132 rfl (lv_at hl 7 rfl) ?_
              refine lv_icmp_ge (tgt := 169) hx hb dX8_tell_133 (by decide) (fun c_133 => ?_) (fun c_133 => ?_)
              · have hm := it_s c_133 hm
                refine lv_iload hx hb dX8_tell_169 (lv_at hl 1 rfl) ?_
                refine lv_iload hx hb dX8_tell_171 (lv_at hl 3 rfl) ?_
                refine lv_icmp_le (tgt := 181) hx hb dX8_tell_173 (by decide) (fun c_173 => ?_) (fun c_173 => ?_)
                · have hm := it_s c_173 hm
                  refine lv_iload hx hb dX8_tell_181 (lv_at hl 3 rfl) ?_
                  refine lv_istore (lv' := [(6, .int x6), (9, .int x9), (8, .int x8), (7, .int x7), (5, .int x5), (4, .int x4), (3, .int x3), (2, .int x2), (0, .ref AT), (1, .int p1)]) hx hb dX8_tell_183 hl (by decide) rfl (fun ls hl => ?_)
                  refine lv_iinc (v := (x7 + 1)) (lv' := [(7, .int (x7 + 1)), (6, .int x6), (9, .int x9), (8, .int x8), (5, .int x5), (4, .int x4), (3, .int x3), (2, .int x2), (0, .ref AT), (1, .int p1)]) hx hb dX8_tell_185 hl (k := 3) rfl rfl (by decide) rfl (fun ls hl => ?_)
                  refine lv_goto (tgt := 118) hx hb dX8_tell_188 (by decide) ?_
                  exact ih_118 (x7 + 1) x6 x5 x4 x3 x2 fT_rf fT_se fT_bf H locs ls hm hP hD hS (lv_sub hl [0, 1, 4, 5, 6, 7, 8, 9] rfl)
                · have hm := it_n c_173 hm
                  refine lv_iload hx hb dX8_tell_176 (lv_at hl 1 rfl) ?_
                  refine lv_goto (tgt := 183) hx hb dX8_tell_178 (by decide) ?_
                  refine lv_istore (lv' := [(6, .int x8), (9, .int x9), (8, .int x8), (7, .int x7), (5, .int x5), (4, .int x4), (3, .int x3), (2, .int x2), (0, .ref AT), (1, .int p1)]) hx hb dX8_tell_183 hl (by decide) rfl (fun ls hl => ?_)
                  refine lv_iinc (v := (x7 + 1)) (lv' := [(7, .int (x7 + 1)), (6, .int x8), (9, .int x9), (8, .int x8), (5, .int x5), (4, .int x4), (3, .int x3), (2, .int x2), (0, .ref AT), (1, .int p1)]) hx hb dX8_tell_185 hl (k := 3) rfl rfl (by decide) rfl (fun ls hl => ?_)
                  refine lv_goto (tgt := 118) hx hb dX8_tell_188 (by decide) ?_
                  exact ih_118 (x7 + 1) x8 x5 x4 x3 x2 fT_rf fT_se fT_bf H locs ls hm hP hD hS (lv_sub hl [0, 1, 4, 5, 6, 7, 8, 9] rfl)
              · have hm := it_n c_133 hm
                refine lv_iload hx hb dX8_tell_136 (lv_at hl 1 rfl) ?_
                refine lv_aload_n hx hb dX8_tell_138 rfl (lv_at hl 8 rfl) ?_
                refine gf_X8_36 (v := .ref AT_bf) hx hb hts hown hK hN hP 0 rfl rfl dX8_tell_139 ?_
                refine lv_iload hx hb dX8_tell_142 (lv_at hl 2 rfl) ?_
                obtain ⟨hi_144, hm⟩ := gd_s hm
                refine q_iald (j := (Int32.toNatClampNeg x7)) hx hb hK hP 4 rfl hi_144 rfl dX8_tell_144 ?_
                refine lv_aload_n hx hb dX8_tell_145 rfl (lv_at hl 8 rfl) ?_
                refine gf_X8_36 (v := .ref AT_bf) hx hb hts hown hK hN hP 0 rfl rfl dX8_tell_146 ?_
                refine lv_iload hx hb dX8_tell_149 (lv_at hl 0 rfl) ?_
                obtain ⟨hi_151, hm⟩ := gd_s hm
                refine q_iald (j := (Int32.toNatClampNeg x9)) hx hb hK hP 4 rfl hi_151 rfl dX8_tell_151 ?_
                refine lv_icmp_ne (tgt := 159) hx hb dX8_tell_152 (by decide) (fun c_152 => ?_) (fun c_152 => ?_)
                · have hm := it_n c_152 hm
                  refine lv_iconst (v := 0) hx hb dX8_tell_159 (by decide) ?_
                  refine lv_iadd hx hb dX8_tell_160 ?_
                  refine lv_istore (lv' := [(8, .int (x8 + 0)), (9, .int x9), (7, .int x7), (6, .int x6), (5, .int x5), (4, .int x4), (3, .int x3), (2, .int x2), (0, .ref AT), (1, .int p1)]) hx hb dX8_tell_161 hl (by decide) rfl (fun ls hl => ?_)
                  refine lv_iinc (v := (x9 + 1)) (lv' := [(9, .int (x9 + 1)), (8, .int (x8 + 0)), (7, .int x7), (6, .int x6), (5, .int x5), (4, .int x4), (3, .int x3), (2, .int x2), (0, .ref AT), (1, .int p1)]) hx hb dX8_tell_163 hl (k := 1) rfl rfl (by decide) rfl (fun ls hl => ?_)
                  refine lv_goto (tgt := 130) hx hb dX8_tell_166 (by decide) ?_
                  exact ih_130 (x9 + 1) (x8 + 0) x7 x6 x5 x4 x3 x2 fT_rf fT_se fT_bf H locs ls hm hP hD hS (lv_sub hl [0, 1, 2, 3, 4, 5, 6, 7, 8, 9] rfl)
                · have hm := it_s c_152 hm
                  refine lv_iconst (v := 1) hx hb dX8_tell_155 (by decide) ?_
                  refine lv_goto (tgt := 160) hx hb dX8_tell_156 (by decide) ?_
                  refine lv_iadd hx hb dX8_tell_160 ?_
                  refine lv_istore (lv' := [(8, .int (x8 + 1)), (9, .int x9), (7, .int x7), (6, .int x6), (5, .int x5), (4, .int x4), (3, .int x3), (2, .int x2), (0, .ref AT), (1, .int p1)]) hx hb dX8_tell_161 hl (by decide) rfl (fun ls hl => ?_)
                  refine lv_iinc (v := (x9 + 1)) (lv' := [(9, .int (x9 + 1)), (8, .int (x8 + 1)), (7, .int x7), (6, .int x6), (5, .int x5), (4, .int x4), (3, .int x3), (2, .int x2), (0, .ref AT), (1, .int p1)]) hx hb dX8_tell_163 hl (k := 1) rfl rfl (by decide) rfl (fun ls hl => ?_)
                  refine lv_goto (tgt := 130) hx hb dX8_tell_166 (by decide) ?_
                  exact ih_130 (x9 + 1) (x8 + 1) x7 x6 x5 x4 x3 x2 fT_rf fT_se fT_bf H locs ls hm hP hD hS (lv_sub hl [0, 1, 2, 3, 4, 5, 6, 7, 8, 9] rfl)
          intro x7 x6 x5 x4 x3 x2 fT_rf fT_se fT_bf H locs ls hm hP hD hS hl
          rw [fL_X8_tell_118] at hm
          refine lv_iload hx hb dX8_tell_118 (lv_at hl 0 rfl) ?_
          refine lv_iload_n hx hb dX8_tell_120 rfl (lv_at hl 5 rfl) ?_
          refine lv_icmp_ge (tgt := 191) hx hb dX8_tell_121 (by decide) (fun c_121 => ?_) (fun c_121 => ?_)
          · have hm := it_s c_121 hm
            refine lv_iload hx hb dX8_tell_191 (lv_at hl 1 rfl) ?_
            refine lv_iload hx hb dX8_tell_193 (lv_at hl 3 rfl) ?_
            refine lv_icmp_ge (tgt := 203) hx hb dX8_tell_195 (by decide) (fun c_195 => ?_) (fun c_195 => ?_)
            · have hm := it_s c_195 hm
              refine lv_iload_n hx hb dX8_tell_203 rfl (lv_at hl 4 rfl) ?_
              refine lv_istore_n (lv' := [(3, .int x3), (7, .int x7), (6, .int x6), (5, .int x5), (4, .int x4), (2, .int x2), (0, .ref AT), (1, .int p1)]) hx hb dX8_tell_204 rfl hl (by decide) rfl (fun ls hl => ?_)
              refine lv_iload hx hb dX8_tell_205 (lv_at hl 2 rfl) ?_
              refine lv_iload hx hb dX8_tell_207 (lv_at hl 4 rfl) ?_
              refine lv_icmp_ge (tgt := 217) hx hb dX8_tell_209 (by decide) (fun _ => ?_) (fun c => absurd c_195 c)
              refine lv_iload hx hb dX8_tell_217 (lv_at hl 4 rfl) ?_
              refine lv_istore (lv' := [(4, .int x4), (3, .int x3), (7, .int x7), (6, .int x6), (5, .int x5), (2, .int x2), (0, .ref AT), (1, .int p1)]) hx hb dX8_tell_219 hl (by decide) rfl (fun ls hl => ?_)
              refine lv_iinc (v := (x5 + 1)) (lv' := [(5, .int (x5 + 1)), (4, .int x4), (3, .int x3), (7, .int x7), (6, .int x6), (2, .int x2), (0, .ref AT), (1, .int p1)]) hx hb dX8_tell_221 hl (k := 4) rfl rfl (by decide) rfl (fun ls hl => ?_)
              refine lv_goto (tgt := 65) hx hb dX8_tell_224 (by decide) ?_
              exact ih_65 (x5 + 1) x4 x3 x2 fT_rf fT_se fT_bf H locs ls hm hP hD hS (lv_sub hl [0, 1, 2, 5, 6, 7] rfl)
            · have hm := it_n c_195 hm
              refine lv_iload hx hb dX8_tell_198 (lv_at hl 2 rfl) ?_
              refine lv_goto (tgt := 204) hx hb dX8_tell_200 (by decide) ?_
              refine lv_istore_n (lv' := [(3, .int x5), (7, .int x7), (6, .int x6), (5, .int x5), (4, .int x4), (2, .int x2), (0, .ref AT), (1, .int p1)]) hx hb dX8_tell_204 rfl hl (by decide) rfl (fun ls hl => ?_)
              refine lv_iload hx hb dX8_tell_205 (lv_at hl 2 rfl) ?_
              refine lv_iload hx hb dX8_tell_207 (lv_at hl 4 rfl) ?_
              refine lv_icmp_ge (tgt := 217) hx hb dX8_tell_209 (by decide) (fun c => absurd c c_195) (fun _ => ?_)
              refine lv_iload hx hb dX8_tell_212 (lv_at hl 2 rfl) ?_
              refine lv_goto (tgt := 219) hx hb dX8_tell_214 (by decide) ?_
              refine lv_istore (lv' := [(4, .int x6), (3, .int x5), (7, .int x7), (6, .int x6), (5, .int x5), (2, .int x2), (0, .ref AT), (1, .int p1)]) hx hb dX8_tell_219 hl (by decide) rfl (fun ls hl => ?_)
              refine lv_iinc (v := (x5 + 1)) (lv' := [(5, .int (x5 + 1)), (4, .int x6), (3, .int x5), (7, .int x7), (6, .int x6), (2, .int x2), (0, .ref AT), (1, .int p1)]) hx hb dX8_tell_221 hl (k := 4) rfl rfl (by decide) rfl (fun ls hl => ?_)
              refine lv_goto (tgt := 65) hx hb dX8_tell_224 (by decide) ?_
              exact ih_65 (x5 + 1) x6 x5 x2 fT_rf fT_se fT_bf H locs ls hm hP hD hS (lv_sub hl [0, 1, 2, 5, 6, 7] rfl)
          · have hm := it_n c_121 hm
            refine lv_iconst (v := 0) hx hb dX8_tell_124 (by decide) ?_
            refine lv_istore (lv' := [(8, .int 0), (7, .int x7), (6, .int x6), (5, .int x5), (4, .int x4), (3, .int x3), (2, .int x2), (0, .ref AT), (1, .int p1)]) hx hb dX8_tell_125 hl (by decide) rfl (fun ls hl => ?_)
            refine lv_iconst (v := 0) hx hb dX8_tell_127 (by decide) ?_
            refine lv_istore (lv' := [(9, .int 0), (8, .int 0), (7, .int x7), (6, .int x6), (5, .int x5), (4, .int x4), (3, .int x3), (2, .int x2), (0, .ref AT), (1, .int p1)]) hx hb dX8_tell_128 hl (by decide) rfl (fun ls hl => ?_)
            exact hL_130 FU 0 0 x7 x6 x5 x4 x3 x2 fT_rf fT_se fT_bf H locs ls hm hP hD hS (lv_sub hl [0, 1, 2, 3, 4, 5, 6, 7, 8, 9] rfl)
      have hL_82 : ∀ (fu_82 : Nat) (x7 : Int32) (x6 : Int32) (x5 : Int32) (x4 : Int32) (x3 : Int32) (x2 : Int32) (fT_rf : Nat → Int32) (fT_se : Nat → Int32) (fT_bf : Nat → Int32) (H : Heap) (locs : List Loc) (ls : Array Slot), fL_X8_tell_82 p1 fT_al (fun x5 x4 x3 x2 fT_rf fT_se fT_bf => fL_X8_tell_65 p1 fT_al fu_65 x5 x4 x3 x2 fT_rf fT_se fT_bf) fu_82 x7 x6 x5 x4 x3 x2 fT_rf fT_se fT_bf = some out → va_P D vwCl (wd_X8_tell cI cZ AT AT_al AT_kp AT_ik AT_rf AT_hd AT_bs AT_se AT_bf AT_te AT_by AT_an AT_vs vT_ab vT_be vT_byl vT_tka vT_tkl vT_tkn vT_val fT_al fT_rf fT_se fT_bf) H → va_D A (wd_X8_tell cI cZ AT AT_al AT_kp AT_ik AT_rf AT_hd AT_bs AT_se AT_bf AT_te AT_by AT_an AT_vs vT_ab vT_be vT_byl vT_tka vT_tkl vT_tkn vT_val fT_al fT_rf fT_se fT_bf) → va_S A s.heap H locs → lv_has ls 10 [(7, .int x7), (6, .int x6), (5, .int x5), (4, .int x4), (3, .int x3), (2, .int x2), (0, .ref AT), (1, .int p1)] → W p l e { frames := 3, cells := 0, slots := 0, locals := 74 } s m ([.ref AT, .int p1] : List Value).toArray below meth c H locs 0 0 (MQ below (q_Qi D (wd_X8_tell cI cZ AT AT_al AT_kp AT_ik AT_rf AT_hd AT_bs AT_se AT_bf AT_te AT_by AT_an AT_vs vT_ab vT_be vT_byl vT_tka vT_tkl vT_tkn vT_val fT_al out.2.1 out.2.2.1 out.2.2.2) out.1 A) ([.ref AT, .int p1] : List Value).toArray s 0 0 A) (F0 m 82 ls []) := by
        intro fu_82
        induction fu_82 with
        | zero => intro x7 x6 x5 x4 x3 x2 fT_rf fT_se fT_bf H locs ls hm hP hD hS hl; exact absurd (show (none : Option (Int32 × (Nat → Int32) × (Nat → Int32) × (Nat → Int32))) = some out from hm) (fun h => nomatch h)
        | succ fu_82 ih_82 =>
          intro x7 x6 x5 x4 x3 x2 fT_rf fT_se fT_bf H locs ls hm hP hD hS hl
          rw [fL_X8_tell_82] at hm
          refine lv_iload hx hb dX8_tell_82 (lv_at hl 0 rfl) ?_
          refine lv_iload_n hx hb dX8_tell_84 rfl (lv_at hl 5 rfl) ?_
          refine lv_icmp_ge (tgt := 115) hx hb dX8_tell_85 (by decide) (fun c_85 => ?_) (fun c_85 => ?_)
          · have hm := it_s c_85 hm
            refine lv_iconst (v := 0) hx hb dX8_tell_115 (by decide) ?_
            refine lv_istore (lv' := [(7, .int 0), (6, .int x6), (5, .int x5), (4, .int x4), (3, .int x3), (2, .int x2), (0, .ref AT), (1, .int p1)]) hx hb dX8_tell_116 hl (by decide) rfl (fun ls hl => ?_)
            exact hL_118 FU 0 x6 x5 x4 x3 x2 fT_rf fT_se fT_bf H locs ls hm hP hD hS (lv_sub hl [0, 1, 2, 3, 4, 5, 6, 7] rfl)
          · have hm := it_n c_85 hm
            refine lv_aload_n hx hb dX8_tell_88 rfl (lv_at hl 6 rfl) ?_
            refine gf_X8_36 (v := .ref AT_bf) hx hb hts hown hK hN hP 0 rfl rfl dX8_tell_89 ?_
            refine lv_iload hx hb dX8_tell_92 (lv_at hl 0 rfl) ?_
            refine lv_aload_n hx hb dX8_tell_94 rfl (lv_at hl 6 rfl) ?_
            refine lv_iload_n hx hb dX8_tell_95 rfl (lv_at hl 7 rfl) ?_
            refine lv_aload_n hx hb dX8_tell_96 rfl (lv_at hl 6 rfl) ?_
            refine gf_X8_33 (v := .ref AT_se) hx hb hts hown hK hN hP 0 rfl rfl dX8_tell_97 ?_
            refine lv_iload hx hb dX8_tell_100 (lv_at hl 0 rfl) ?_
            obtain ⟨hi_102, hm⟩ := gd_s hm
            refine q_iald (j := (Int32.toNatClampNeg x7)) hx hb hK hP 3 rfl hi_102 rfl dX8_tell_102 ?_
            refine lv_iload hx hb dX8_tell_103 (lv_at hl 2 rfl) ?_
            obtain ⟨r_105, hc_105, hm⟩ := ob_s hm
            refine q_ci (q_rv (rest := [.int x7, .ref AT_bf]) ⟨hx, hb, hml, hown, hts⟩ hK hN hP hD (c_X8_believedOf l D cI cZ H.size AT AT_al AT_kp AT_ik AT_rf AT_hd AT_bs AT_se AT_bf AT_te AT_by AT_an AT_vs vT_ab vT_be vT_byl vT_tka vT_tkl vT_tkn vT_val fT_al p1 (fT_se (Int32.toNatClampNeg x7)) x5 r_105 hc_105) mb_X8_believedOf mv_X8_believedOf wl_X8_163 [0, 1] rfl rfl rfl (Nat.le_of_ble_eq_true rfl) (Nat.le_of_ble_eq_true rfl) rfl hl.1 rfl (Nat.le_of_ble_eq_true rfl) ⟨Nat.le_refl 0, Nat.le_refl 0⟩ dX8_tell_105) hP hD hS hA [0, 1] rfl rfl (fun H locs hP hD hS => ?_)
            have hP : va_P D vwCl (wd_X8_tell cI cZ AT AT_al AT_kp AT_ik AT_rf AT_hd AT_bs AT_se AT_bf AT_te AT_by AT_an AT_vs vT_ab vT_be vT_byl vT_tka vT_tkl vT_tkn vT_val fT_al fT_rf fT_se fT_bf) H := hP
            have hD : va_D A (wd_X8_tell cI cZ AT AT_al AT_kp AT_ik AT_rf AT_hd AT_bs AT_se AT_bf AT_te AT_by AT_an AT_vs vT_ab vT_be vT_byl vT_tka vT_tkl vT_tkn vT_val fT_al fT_rf fT_se fT_bf) := hD
            refine q_iast (j := (Int32.toNatClampNeg x7)) hx hb hK hP hD hS 4 rfl hi_102 rfl dX8_tell_108 (fun H locs hP hD hS => ?_)
            have hP : va_P D vwCl (wd_X8_tell cI cZ AT AT_al AT_kp AT_ik AT_rf AT_hd AT_bs AT_se AT_bf AT_te AT_by AT_an AT_vs vT_ab vT_be vT_byl vT_tka vT_tkl vT_tkn vT_val fT_al fT_rf fT_se (upd fT_bf (Int32.toNatClampNeg x7) r_105)) H := hP
            have hD : va_D A (wd_X8_tell cI cZ AT AT_al AT_kp AT_ik AT_rf AT_hd AT_bs AT_se AT_bf AT_te AT_by AT_an AT_vs vT_ab vT_be vT_byl vT_tka vT_tkl vT_tkn vT_val fT_al fT_rf fT_se (upd fT_bf (Int32.toNatClampNeg x7) r_105)) := hD
            refine lv_iinc (v := (x7 + 1)) (lv' := [(7, .int (x7 + 1)), (6, .int x6), (5, .int x5), (4, .int x4), (3, .int x3), (2, .int x2), (0, .ref AT), (1, .int p1)]) hx hb dX8_tell_109 hl (k := 0) rfl rfl (by decide) rfl (fun ls hl => ?_)
            refine lv_goto (tgt := 82) hx hb dX8_tell_112 (by decide) ?_
            exact ih_82 (x7 + 1) x6 x5 x4 x3 x2 fT_rf fT_se (upd fT_bf (Int32.toNatClampNeg x7) r_105) H locs ls hm hP hD hS (lv_sub hl [0, 1, 2, 3, 4, 5, 6, 7] rfl)
      intro x5 x4 x3 x2 fT_rf fT_se fT_bf H locs ls hm hP hD hS hl
      rw [fL_X8_tell_65] at hm
      refine lv_iload hx hb dX8_tell_65 (lv_at hl 0 rfl) ?_
      refine lv_bipush (v := 12) hx hb dX8_tell_67 (by decide) ?_
      refine lv_icmp_ge (tgt := 227) hx hb dX8_tell_69 (by decide) (fun c_69 => ?_) (fun c_69 => ?_)
      · have hm := it_s c_69 hm
        refine lv_iload_n hx hb dX8_tell_227 rfl (lv_at hl 2 rfl) ?_
        have hm := Option.some.inj hm
        subst hm
        exact q_iret (v := x3) hx hb hr hlocks hP hS dX8_tell_228
      · have hm := it_n c_69 hm
        refine lv_iload_n hx hb dX8_tell_72 rfl (lv_at hl 3 rfl) ?_
        refine lv_if_le (tgt := 227) hx hb dX8_tell_73 (by decide) (fun c_73 => ?_) (fun c_73 => ?_)
        · have hm := it_s c_73 hm
          refine lv_iload_n hx hb dX8_tell_227 rfl (lv_at hl 2 rfl) ?_
          have hm := Option.some.inj hm
          subst hm
          exact q_iret (v := x3) hx hb hr hlocks hP hS dX8_tell_228
        · have hm := it_n c_73 hm
          refine lv_iconst (v := 0) hx hb dX8_tell_76 (by decide) ?_
          refine lv_istore (lv' := [(6, .int 0), (5, .int x5), (4, .int x4), (3, .int x3), (2, .int x2), (0, .ref AT), (1, .int p1)]) hx hb dX8_tell_77 hl (by decide) rfl (fun ls hl => ?_)
          refine lv_iconst (v := 0) hx hb dX8_tell_79 (by decide) ?_
          refine lv_istore (lv' := [(7, .int 0), (6, .int 0), (5, .int x5), (4, .int x4), (3, .int x3), (2, .int x2), (0, .ref AT), (1, .int p1)]) hx hb dX8_tell_80 hl (by decide) rfl (fun ls hl => ?_)
          exact hL_82 FU 0 0 x5 x4 x3 x2 fT_rf fT_se fT_bf H locs ls hm hP hD hS (lv_sub hl [0, 1, 2, 3, 4, 5, 6, 7] rfl)
  have hL_19 : ∀ (fu_19 : Nat) (x3 : Int32) (x2 : Int32) (fT_rf : Nat → Int32) (fT_se : Nat → Int32) (fT_bf : Nat → Int32) (H : Heap) (locs : List Loc) (ls : Array Slot), fL_X8_tell_19 p1 fT_al fu_19 x3 x2 fT_rf fT_se fT_bf = some out → va_P D vwCl (wd_X8_tell cI cZ AT AT_al AT_kp AT_ik AT_rf AT_hd AT_bs AT_se AT_bf AT_te AT_by AT_an AT_vs vT_ab vT_be vT_byl vT_tka vT_tkl vT_tkn vT_val fT_al fT_rf fT_se fT_bf) H → va_D A (wd_X8_tell cI cZ AT AT_al AT_kp AT_ik AT_rf AT_hd AT_bs AT_se AT_bf AT_te AT_by AT_an AT_vs vT_ab vT_be vT_byl vT_tka vT_tkl vT_tkn vT_val fT_al fT_rf fT_se fT_bf) → va_S A s.heap H locs → lv_has ls 10 [(3, .int x3), (2, .int x2), (0, .ref AT), (1, .int p1)] → W p l e { frames := 3, cells := 0, slots := 0, locals := 74 } s m ([.ref AT, .int p1] : List Value).toArray below meth c H locs 0 0 (MQ below (q_Qi D (wd_X8_tell cI cZ AT AT_al AT_kp AT_ik AT_rf AT_hd AT_bs AT_se AT_bf AT_te AT_by AT_an AT_vs vT_ab vT_be vT_byl vT_tka vT_tkl vT_tkn vT_val fT_al out.2.1 out.2.2.1 out.2.2.2) out.1 A) ([.ref AT, .int p1] : List Value).toArray s 0 0 A) (F0 m 19 ls []) := by
    intro fu_19
    induction fu_19 with
    | zero => intro x3 x2 fT_rf fT_se fT_bf H locs ls hm hP hD hS hl; exact absurd (show (none : Option (Int32 × (Nat → Int32) × (Nat → Int32) × (Nat → Int32))) = some out from hm) (fun h => nomatch h)
    | succ fu_19 ih_19 =>
      intro x3 x2 fT_rf fT_se fT_bf H locs ls hm hP hD hS hl
      rw [fL_X8_tell_19] at hm
      refine lv_iload_n hx hb dX8_tell_19 rfl (lv_at hl 0 rfl) ?_
      refine lv_iconst (v := 1) hx hb dX8_tell_20 (by decide) ?_
      refine lv_aload_n hx hb dX8_tell_21 rfl (lv_at hl 2 rfl) ?_
      refine gf_X8_7 (v := .ref AT_al) hx hb hts hown hK hN hP 0 rfl rfl dX8_tell_22 ?_
      refine lv_iconst (v := 1) hx hb dX8_tell_25 (by decide) ?_
      refine q_iald (j := 1) hx hb hK hP 1 rfl (q_inl (by decide)) (by decide) dX8_tell_26 ?_
      refine lv_ishl hx hb dX8_tell_27 ?_
      refine lv_icmp_ge (tgt := 56) hx hb dX8_tell_28 (by decide) (fun c_28 => ?_) (fun c_28 => ?_)
      · have hm := it_s c_28 hm
        refine lv_iconst (v := (-1)) hx hb dX8_tell_56 (by decide) ?_
        refine lv_istore_n (lv' := [(3, .int (-1)), (2, .int x2), (0, .ref AT), (1, .int p1)]) hx hb dX8_tell_57 rfl hl (by decide) rfl (fun ls hl => ?_)
        refine lv_ldc (v := 1000000) hx hb hown (hts _ wv_X8_158) dX8_tell_58 ?_
        refine lv_istore (lv' := [(4, .int 1000000), (3, .int (-1)), (2, .int x2), (0, .ref AT), (1, .int p1)]) hx hb dX8_tell_60 hl (by decide) rfl (fun ls hl => ?_)
        refine lv_iconst (v := 0) hx hb dX8_tell_62 (by decide) ?_
        refine lv_istore (lv' := [(5, .int 0), (4, .int 1000000), (3, .int (-1)), (2, .int x2), (0, .ref AT), (1, .int p1)]) hx hb dX8_tell_63 hl (by decide) rfl (fun ls hl => ?_)
        exact hL_65 FU 0 1000000 (-1) x2 fT_rf fT_se fT_bf H locs ls hm hP hD hS (lv_sub hl [0, 1, 2, 3, 4, 5] rfl)
      · have hm := it_n c_28 hm
        refine lv_aload_n hx hb dX8_tell_31 rfl (lv_at hl 2 rfl) ?_
        refine lv_iload_n hx hb dX8_tell_32 rfl (lv_at hl 3 rfl) ?_
        refine lv_iload_n hx hb dX8_tell_33 rfl (lv_at hl 0 rfl) ?_
        obtain ⟨r_34, hc_34, hm⟩ := ob_s hm
        refine q_ci (q_rv (rest := []) ⟨hx, hb, hml, hown, hts⟩ hK hN hP hD (c_X8_isSentSo l D cI cZ H.size AT AT_al AT_kp AT_ik AT_rf AT_hd AT_bs AT_se AT_bf AT_te AT_by AT_an AT_vs vT_ab vT_be vT_byl vT_tka vT_tkl vT_tkn vT_val fT_al p1 x3 r_34 hc_34) mb_X8_isSentSo mv_X8_isSentSo wl_X8_168 [0, 1] rfl rfl rfl (Nat.le_of_ble_eq_true rfl) (Nat.le_of_ble_eq_true rfl) rfl hl.1 rfl (Nat.le_of_ble_eq_true rfl) ⟨Nat.le_refl 0, Nat.le_refl 0⟩ dX8_tell_34) hP hD hS hA [0, 1] rfl rfl (fun H locs hP hD hS => ?_)
        have hP : va_P D vwCl (wd_X8_tell cI cZ AT AT_al AT_kp AT_ik AT_rf AT_hd AT_bs AT_se AT_bf AT_te AT_by AT_an AT_vs vT_ab vT_be vT_byl vT_tka vT_tkl vT_tkn vT_val fT_al fT_rf fT_se fT_bf) H := hP
        have hD : va_D A (wd_X8_tell cI cZ AT AT_al AT_kp AT_ik AT_rf AT_hd AT_bs AT_se AT_bf AT_te AT_by AT_an AT_vs vT_ab vT_be vT_byl vT_tka vT_tkl vT_tkn vT_val fT_al fT_rf fT_se fT_bf) := hD
        refine lv_if_eq (tgt := 50) hx hb dX8_tell_37 (by decide) (fun c_37 => ?_) (fun c_37 => ?_)
        · have hm := it_s c_37 hm
          refine lv_iinc (v := (x3 + 1)) (lv' := [(3, .int (x3 + 1)), (2, .int x2), (0, .ref AT), (1, .int p1)]) hx hb dX8_tell_50 hl (k := 0) rfl rfl (by decide) rfl (fun ls hl => ?_)
          refine lv_goto (tgt := 19) hx hb dX8_tell_53 (by decide) ?_
          exact ih_19 (x3 + 1) x2 fT_rf fT_se fT_bf H locs ls hm hP hD hS (lv_sub hl [0, 1, 2, 3] rfl)
        · have hm := it_n c_37 hm
          refine lv_aload_n hx hb dX8_tell_40 rfl (lv_at hl 2 rfl) ?_
          refine gf_X8_33 (v := .ref AT_se) hx hb hts hown hK hN hP 0 rfl rfl dX8_tell_41 ?_
          refine lv_iload_n hx hb dX8_tell_44 rfl (lv_at hl 1 rfl) ?_
          refine lv_iload_n hx hb dX8_tell_45 rfl (lv_at hl 0 rfl) ?_
          obtain ⟨hi_46, hm⟩ := gd_s hm
          refine q_iast (j := (Int32.toNatClampNeg x2)) hx hb hK hP hD hS 3 rfl hi_46 rfl dX8_tell_46 (fun H locs hP hD hS => ?_)
          have hP : va_P D vwCl (wd_X8_tell cI cZ AT AT_al AT_kp AT_ik AT_rf AT_hd AT_bs AT_se AT_bf AT_te AT_by AT_an AT_vs vT_ab vT_be vT_byl vT_tka vT_tkl vT_tkn vT_val fT_al fT_rf (upd fT_se (Int32.toNatClampNeg x2) x3) fT_bf) H := hP
          have hD : va_D A (wd_X8_tell cI cZ AT AT_al AT_kp AT_ik AT_rf AT_hd AT_bs AT_se AT_bf AT_te AT_by AT_an AT_vs vT_ab vT_be vT_byl vT_tka vT_tkl vT_tkn vT_val fT_al fT_rf (upd fT_se (Int32.toNatClampNeg x2) x3) fT_bf) := hD
          refine lv_iinc (v := (x2 + 1)) (lv' := [(2, .int (x2 + 1)), (3, .int x3), (0, .ref AT), (1, .int p1)]) hx hb dX8_tell_47 hl (k := 1) rfl rfl (by decide) rfl (fun ls hl => ?_)
          refine lv_iinc (v := (x3 + 1)) (lv' := [(3, .int (x3 + 1)), (2, .int (x2 + 1)), (0, .ref AT), (1, .int p1)]) hx hb dX8_tell_50 hl (k := 1) rfl rfl (by decide) rfl (fun ls hl => ?_)
          refine lv_goto (tgt := 19) hx hb dX8_tell_53 (by decide) ?_
          exact ih_19 (x3 + 1) (x2 + 1) fT_rf (upd fT_se (Int32.toNatClampNeg x2) x3) fT_bf H locs ls hm hP hD hS (lv_sub hl [0, 1, 2, 3] rfl)
  unfold fm_X8_tell at hm
  refine q_gen hS hP ?_
  intro H locs hP hS
  refine lv_aload_n hx hb dX8_tell_0 rfl (lv_at hl 0 rfl) ?_
  refine lv_iload_n hx hb dX8_tell_1 rfl (lv_at hl 1 rfl) ?_
  obtain ⟨r_2, hc_2, hm⟩ := ob_s hm
  refine q_ci (q_rv (rest := []) ⟨hx, hb, hml, hown, hts⟩ hK hN hP hD (c_X8_isSleeper l D cI cZ H.size AT AT_al AT_kp AT_ik AT_rf AT_hd AT_bs AT_se AT_bf AT_te AT_by AT_an AT_vs vT_ab vT_be vT_byl vT_tka vT_tkl vT_tkn vT_val fT_al p1 r_2 hc_2) mb_X8_isSleeper mv_X8_isSleeper wl_X8_132 [0, 1] rfl rfl rfl (Nat.le_of_ble_eq_true rfl) (Nat.le_of_ble_eq_true rfl) rfl hl.1 rfl (Nat.le_of_ble_eq_true rfl) ⟨Nat.le_refl 0, Nat.le_refl 0⟩ dX8_tell_2) hP hD hS hA [0, 1] rfl rfl (fun H locs hP hD hS => ?_)
  have hP : va_P D vwCl (wd_X8_tell cI cZ AT AT_al AT_kp AT_ik AT_rf AT_hd AT_bs AT_se AT_bf AT_te AT_by AT_an AT_vs vT_ab vT_be vT_byl vT_tka vT_tkl vT_tkn vT_val fT_al fT_rf fT_se fT_bf) H := hP
  have hD : va_D A (wd_X8_tell cI cZ AT AT_al AT_kp AT_ik AT_rf AT_hd AT_bs AT_se AT_bf AT_te AT_by AT_an AT_vs vT_ab vT_be vT_byl vT_tka vT_tkl vT_tkn vT_val fT_al fT_rf fT_se fT_bf) := hD
  refine lv_if_ne (tgt := 15) hx hb dX8_tell_5 (by decide) (fun c_5 => ?_) (fun c_5 => ?_)
  · have hm := it_n c_5 hm
    refine lv_iconst (v := 0) hx hb dX8_tell_15 (by decide) ?_
    refine lv_istore_n (lv' := [(2, .int 0), (0, .ref AT), (1, .int p1)]) hx hb dX8_tell_16 rfl hl (by decide) rfl (fun ls hl => ?_)
    refine lv_iconst (v := 0) hx hb dX8_tell_17 (by decide) ?_
    refine lv_istore_n (lv' := [(3, .int 0), (2, .int 0), (0, .ref AT), (1, .int p1)]) hx hb dX8_tell_18 rfl hl (by decide) rfl (fun ls hl => ?_)
    exact hL_19 FU 0 0 fT_rf fT_se fT_bf H locs ls hm hP hD hS (lv_sub hl [0, 1, 2, 3] rfl)
  · have hm := it_s c_5 hm
    refine lv_aload_n hx hb dX8_tell_8 rfl (lv_at hl 0 rfl) ?_
    refine lv_bipush (v := (-2)) hx hb dX8_tell_9 (by decide) ?_
    obtain ⟨r_11, hc_11, hm⟩ := ob_s hm
    refine q_ci (q_rv (rest := []) ⟨hx, hb, hml, hown, hts⟩ hK hN hP hD (c_X8_bad l D cI cZ H.size AT AT_al AT_kp AT_ik AT_rf AT_hd AT_bs AT_se AT_bf AT_te AT_by AT_an AT_vs vT_ab vT_be vT_byl vT_tka vT_tkl vT_tkn vT_val fT_rf (-2) r_11 hc_11) mb_X8_bad mv_X8_bad wl_X8_75 [0, 2] rfl rfl rfl (Nat.le_of_ble_eq_true rfl) (Nat.le_of_ble_eq_true rfl) rfl hl.1 rfl (Nat.le_of_ble_eq_true rfl) ⟨Nat.le_refl 0, Nat.le_refl 0⟩ dX8_tell_11) hP hD hS hA [0, 2] rfl rfl (fun H locs hP hD hS => ?_)
    have hP : va_P D vwCl (wd_X8_tell cI cZ AT AT_al AT_kp AT_ik AT_rf AT_hd AT_bs AT_se AT_bf AT_te AT_by AT_an AT_vs vT_ab vT_be vT_byl vT_tka vT_tkl vT_tkn vT_val fT_al r_11.2 fT_se fT_bf) H := hP
    have hD : va_D A (wd_X8_tell cI cZ AT AT_al AT_kp AT_ik AT_rf AT_hd AT_bs AT_se AT_bf AT_te AT_by AT_an AT_vs vT_ab vT_be vT_byl vT_tka vT_tkl vT_tkn vT_val fT_al r_11.2 fT_se fT_bf) := hD
    have hm := Option.some.inj hm
    subst hm
    exact q_iret (v := r_11.1) hx hb hr hlocks hP hS dX8_tell_14
theorem mb_X8_note : q_mb yX8_note cX8_note 6 (some .int) 4 := ⟨wc_X8_note, wn_X8, by decide, by decide, by decide +kernel⟩
theorem mv_X8_note : q_mv yX8_note 8 := ⟨wi_X8_note, ws_X8_note, _, rfl, rfl⟩
def wd_X8_note (cI cZ : ClassId) (AT AT_al AT_kp AT_ik AT_rf AT_hd AT_bs AT_se AT_bf AT_te AT_by AT_an AT_vs : Nat) (vT_ab : Int64) (vT_be : Int64) (vT_byl : Int32) (vT_tka : Int32) (vT_tkl : Int32) (vT_tkn : Int32) (vT_val : Int32) (fT_al : Nat → Int32) (fT_rf : Nat → Int32) : va_W := [(AT, .inr (8, [.ref AT_al, .ref AT_kp, .ref AT_ik, .ref AT_rf, .long vT_ab, .long vT_be, .ref AT_hd, .ref AT_bs, .ref AT_se, .ref AT_bf, .ref AT_te, .ref AT_by, .int vT_byl, .int vT_tka, .int vT_tkl, .int vT_tkn, .int vT_val, .ref AT_an, .ref AT_vs])), (AT_al, .inl (cI, 312, .inl fT_al)), (AT_rf, .inl (cI, 3, .inl fT_rf))]
def fm_X8_note (p1 : Int32) (p2 : Int32) (p3 : Int32) (p4 : Int32) (fT_al : Nat → Int32) (fT_rf : Nat → Int32) : Option (Int32 × (Nat → Int32) × (Nat → Int32)) := Option.bind (fm_X8_isFlower p1 fT_al) (fun r_2 => if r_2 = 0 then (Option.bind (fm_X8_bad (-2) fT_rf) (fun r_43 => some (r_43.1, fT_al, r_43.2))) else (Option.bind (fm_X8_isWord p2) (fun r_9 => if r_9 = 0 then (Option.bind (fm_X8_bad (-2) fT_rf) (fun r_43 => some (r_43.1, fT_al, r_43.2))) else (Option.bind (fm_X8_in (Int32.toInt64 p3) 0 99) (fun r_21 => if r_21 = 0 then (Option.bind (fm_X8_bad (-2) fT_rf) (fun r_43 => some (r_43.1, fT_al, r_43.2))) else (Option.bind (fm_X8_in (Int32.toInt64 p4) 0 20) (fun r_34 => if r_34 = 0 then (Option.bind (fm_X8_bad (-2) fT_rf) (fun r_43 => some (r_43.1, fT_al, r_43.2))) else (if (fT_al 3) = 6 then (Option.bind (fm_X8_full fT_rf) (fun r_59 => some (r_59.1, fT_al, r_59.2))) else (gd (64 + (4 * (fT_al 3))) 312 (gd ((64 + (4 * (fT_al 3))) + 1) 312 (gd ((64 + (4 * (fT_al 3))) + 2) 312 (gd ((64 + (4 * (fT_al 3))) + 3) 312 (some (((upd (upd (upd (upd (upd fT_al (Int32.toNatClampNeg (64 + (4 * (fT_al 3)))) p1) (Int32.toNatClampNeg ((64 + (4 * (fT_al 3))) + 1)) p2) (Int32.toNatClampNeg ((64 + (4 * (fT_al 3))) + 2)) p3) (Int32.toNatClampNeg ((64 + (4 * (fT_al 3))) + 3)) p4) 3 (((upd (upd (upd (upd fT_al (Int32.toNatClampNeg (64 + (4 * (fT_al 3)))) p1) (Int32.toNatClampNeg ((64 + (4 * (fT_al 3))) + 1)) p2) (Int32.toNatClampNeg ((64 + (4 * (fT_al 3))) + 2)) p3) (Int32.toNatClampNeg ((64 + (4 * (fT_al 3))) + 3)) p4) 3) + 1)) 3), (upd (upd (upd (upd (upd fT_al (Int32.toNatClampNeg (64 + (4 * (fT_al 3)))) p1) (Int32.toNatClampNeg ((64 + (4 * (fT_al 3))) + 1)) p2) (Int32.toNatClampNeg ((64 + (4 * (fT_al 3))) + 2)) p3) (Int32.toNatClampNeg ((64 + (4 * (fT_al 3))) + 3)) p4) 3 (((upd (upd (upd (upd fT_al (Int32.toNatClampNeg (64 + (4 * (fT_al 3)))) p1) (Int32.toNatClampNeg ((64 + (4 * (fT_al 3))) + 1)) p2) (Int32.toNatClampNeg ((64 + (4 * (fT_al 3))) + 2)) p3) (Int32.toNatClampNeg ((64 + (4 * (fT_al 3))) + 3)) p4) 3) + 1)), fT_rf))))))))))))))
set_option maxHeartbeats 4000000 in
set_option maxRecDepth 100000 in
theorem c_X8_note (l : Launch) (D : va_G) (cI cZ : ClassId) (sz : Nat) (AT AT_al AT_kp AT_ik AT_rf AT_hd AT_bs AT_se AT_bf AT_te AT_by AT_an AT_vs : Nat) (vT_ab : Int64) (vT_be : Int64) (vT_byl : Int32) (vT_tka : Int32) (vT_tkl : Int32) (vT_tkn : Int32) (vT_val : Int32) (fT_al : Nat → Int32) (fT_rf : Nat → Int32) (p1 : Int32) (p2 : Int32) (p3 : Int32) (p4 : Int32) (out : (Int32 × (Nat → Int32) × (Nat → Int32))) (hm : fm_X8_note p1 p2 p3 p4 fT_al fT_rf = some out) : Met l yX8_note (Cond.code yX8_note cX8_note 6 (some .int) :: bg) { frames := 2, cells := 0, slots := 0, locals := 46 } (va_Pc [.ref AT, .int p1, .int p2, .int p3, .int p4] (q_pre D cI cZ sz (wd_X8_note cI cZ AT AT_al AT_kp AT_ik AT_rf AT_hd AT_bs AT_se AT_bf AT_te AT_by AT_an AT_vs vT_ab vT_be vT_byl vT_tka vT_tkl vT_tkn vT_val fT_al fT_rf))) (q_Qi D (wd_X8_note cI cZ AT AT_al AT_kp AT_ik AT_rf AT_hd AT_bs AT_se AT_bf AT_te AT_by AT_an AT_vs vT_ab vT_be vT_byl vT_tka vT_tkl vT_tkn vT_val out.2.1 out.2.2) out.1 (va_A (wd_X8_note cI cZ AT AT_al AT_kp AT_ik AT_rf AT_hd AT_bs AT_se AT_bf AT_te AT_by AT_an AT_vs vT_ab vT_be vT_byl vT_tka vT_tkl vT_tkn vT_val fT_al fT_rf) sz)) 0 0 (va_A (wd_X8_note cI cZ AT AT_al AT_kp AT_ik AT_rf AT_hd AT_bs AT_se AT_bf AT_te AT_by AT_an AT_vs vT_ab vT_be vT_byl vT_tka vT_tkl vT_tkn vT_val fT_al fT_rf) sz) := by
  refine q_met (fun A => q_Qi D (wd_X8_note cI cZ AT AT_al AT_kp AT_ik AT_rf AT_hd AT_bs AT_se AT_bf AT_te AT_by AT_an AT_vs vT_ab vT_be vT_byl vT_tka vT_tkl vT_tkn vT_val out.2.1 out.2.2) out.1 A) (by decide) (Nat.le_of_ble_eq_true rfl) ?_
  intro p e s m below meth c ls A hx hb hr hml hown hts hlocks _ hA hS hP hD hK hN hl
  have hown : s.vm.findClass RX8 = some m.cls := hown
  have hl : lv_has ls 6 [(0, .ref AT), (1, .int p1), (2, .int p2), (3, .int p3), (4, .int p4)] := hl
  unfold fm_X8_note at hm
  refine q_gen hS hP ?_
  intro H locs hP hS
  refine lv_aload_n hx hb dX8_note_0 rfl (lv_at hl 0 rfl) ?_
  refine lv_iload_n hx hb dX8_note_1 rfl (lv_at hl 1 rfl) ?_
  obtain ⟨r_2, hc_2, hm⟩ := ob_s hm
  refine q_ci (q_rv (rest := []) ⟨hx, hb, hml, hown, hts⟩ hK hN hP hD (c_X8_isFlower l D cI cZ H.size AT AT_al AT_kp AT_ik AT_rf AT_hd AT_bs AT_se AT_bf AT_te AT_by AT_an AT_vs vT_ab vT_be vT_byl vT_tka vT_tkl vT_tkn vT_val fT_al p1 r_2 hc_2) mb_X8_isFlower mv_X8_isFlower wl_X8_138 [0, 1] rfl rfl rfl (Nat.le_of_ble_eq_true rfl) (Nat.le_of_ble_eq_true rfl) rfl hl.1 rfl (Nat.le_of_ble_eq_true rfl) ⟨Nat.le_refl 0, Nat.le_refl 0⟩ dX8_note_2) hP hD hS hA [0, 1] rfl rfl (fun H locs hP hD hS => ?_)
  have hP : va_P D vwCl (wd_X8_note cI cZ AT AT_al AT_kp AT_ik AT_rf AT_hd AT_bs AT_se AT_bf AT_te AT_by AT_an AT_vs vT_ab vT_be vT_byl vT_tka vT_tkl vT_tkn vT_val fT_al fT_rf) H := hP
  have hD : va_D A (wd_X8_note cI cZ AT AT_al AT_kp AT_ik AT_rf AT_hd AT_bs AT_se AT_bf AT_te AT_by AT_an AT_vs vT_ab vT_be vT_byl vT_tka vT_tkl vT_tkn vT_val fT_al fT_rf) := hD
  refine lv_if_eq (tgt := 40) hx hb dX8_note_5 (by decide) (fun c_5 => ?_) (fun c_5 => ?_)
  · have hm := it_s c_5 hm
    refine lv_aload_n hx hb dX8_note_40 rfl (lv_at hl 0 rfl) ?_
    refine lv_bipush (v := (-2)) hx hb dX8_note_41 (by decide) ?_
    obtain ⟨r_43, hc_43, hm⟩ := ob_s hm
    refine q_ci (q_rv (rest := []) ⟨hx, hb, hml, hown, hts⟩ hK hN hP hD (c_X8_bad l D cI cZ H.size AT AT_al AT_kp AT_ik AT_rf AT_hd AT_bs AT_se AT_bf AT_te AT_by AT_an AT_vs vT_ab vT_be vT_byl vT_tka vT_tkl vT_tkn vT_val fT_rf (-2) r_43 hc_43) mb_X8_bad mv_X8_bad wl_X8_75 [0, 2] rfl rfl rfl (Nat.le_of_ble_eq_true rfl) (Nat.le_of_ble_eq_true rfl) rfl hl.1 rfl (Nat.le_of_ble_eq_true rfl) ⟨Nat.le_refl 0, Nat.le_refl 0⟩ dX8_note_43) hP hD hS hA [0, 2] rfl rfl (fun H locs hP hD hS => ?_)
    have hP : va_P D vwCl (wd_X8_note cI cZ AT AT_al AT_kp AT_ik AT_rf AT_hd AT_bs AT_se AT_bf AT_te AT_by AT_an AT_vs vT_ab vT_be vT_byl vT_tka vT_tkl vT_tkn vT_val fT_al r_43.2) H := hP
    have hD : va_D A (wd_X8_note cI cZ AT AT_al AT_kp AT_ik AT_rf AT_hd AT_bs AT_se AT_bf AT_te AT_by AT_an AT_vs vT_ab vT_be vT_byl vT_tka vT_tkl vT_tkn vT_val fT_al r_43.2) := hD
    have hm := Option.some.inj hm
    subst hm
    exact q_iret (v := r_43.1) hx hb hr hlocks hP hS dX8_note_46
  · have hm := it_n c_5 hm
    refine lv_iload_n hx hb dX8_note_8 rfl (lv_at hl 2 rfl) ?_
    obtain ⟨r_9, hc_9, hm⟩ := ob_s hm
    refine q_ci (q_rs (rest := []) ⟨hx, hb, hml, hown, hts⟩ hK hN hP hD (c_X8_isWord l D cI cZ H.size p2 r_9 hc_9) mb_X8_isWord wt_X8_isWord wl_X8_86 [] rfl rfl (Nat.le_of_ble_eq_true rfl) (Nat.le_of_ble_eq_true rfl) rfl hl.1 rfl (Nat.le_of_ble_eq_true rfl) ⟨Nat.le_refl 0, Nat.le_refl 0⟩ dX8_note_9) hP hD hS hA [] rfl rfl (fun H locs hP hD hS => ?_)
    have hP : va_P D vwCl (wd_X8_note cI cZ AT AT_al AT_kp AT_ik AT_rf AT_hd AT_bs AT_se AT_bf AT_te AT_by AT_an AT_vs vT_ab vT_be vT_byl vT_tka vT_tkl vT_tkn vT_val fT_al fT_rf) H := hP
    have hD : va_D A (wd_X8_note cI cZ AT AT_al AT_kp AT_ik AT_rf AT_hd AT_bs AT_se AT_bf AT_te AT_by AT_an AT_vs vT_ab vT_be vT_byl vT_tka vT_tkl vT_tkn vT_val fT_al fT_rf) := hD
    refine lv_if_eq (tgt := 40) hx hb dX8_note_12 (by decide) (fun c_12 => ?_) (fun c_12 => ?_)
    · have hm := it_s c_12 hm
      refine lv_aload_n hx hb dX8_note_40 rfl (lv_at hl 0 rfl) ?_
      refine lv_bipush (v := (-2)) hx hb dX8_note_41 (by decide) ?_
      obtain ⟨r_43, hc_43, hm⟩ := ob_s hm
      refine q_ci (q_rv (rest := []) ⟨hx, hb, hml, hown, hts⟩ hK hN hP hD (c_X8_bad l D cI cZ H.size AT AT_al AT_kp AT_ik AT_rf AT_hd AT_bs AT_se AT_bf AT_te AT_by AT_an AT_vs vT_ab vT_be vT_byl vT_tka vT_tkl vT_tkn vT_val fT_rf (-2) r_43 hc_43) mb_X8_bad mv_X8_bad wl_X8_75 [0, 2] rfl rfl rfl (Nat.le_of_ble_eq_true rfl) (Nat.le_of_ble_eq_true rfl) rfl hl.1 rfl (Nat.le_of_ble_eq_true rfl) ⟨Nat.le_refl 0, Nat.le_refl 0⟩ dX8_note_43) hP hD hS hA [0, 2] rfl rfl (fun H locs hP hD hS => ?_)
      have hP : va_P D vwCl (wd_X8_note cI cZ AT AT_al AT_kp AT_ik AT_rf AT_hd AT_bs AT_se AT_bf AT_te AT_by AT_an AT_vs vT_ab vT_be vT_byl vT_tka vT_tkl vT_tkn vT_val fT_al r_43.2) H := hP
      have hD : va_D A (wd_X8_note cI cZ AT AT_al AT_kp AT_ik AT_rf AT_hd AT_bs AT_se AT_bf AT_te AT_by AT_an AT_vs vT_ab vT_be vT_byl vT_tka vT_tkl vT_tkn vT_val fT_al r_43.2) := hD
      have hm := Option.some.inj hm
      subst hm
      exact q_iret (v := r_43.1) hx hb hr hlocks hP hS dX8_note_46
    · have hm := it_n c_12 hm
      refine lv_iload_n hx hb dX8_note_15 rfl (lv_at hl 3 rfl) ?_
      refine lv_i2l (v := (Int32.toInt64 p3)) hx hb dX8_note_16 rfl ?_
      refine lv_lconst (v := 0) hx hb dX8_note_17 (by decide) ?_
      refine lv_ldc2 (v := 99) hx hb hown (hts _ wv_X8_159) dX8_note_18 ?_
      obtain ⟨r_21, hc_21, hm⟩ := ob_s hm
      refine q_ci (q_rs (rest := []) ⟨hx, hb, hml, hown, hts⟩ hK hN hP hD (c_X8_in l D cI cZ H.size (Int32.toInt64 p3) 0 99 r_21 hc_21) mb_X8_in wt_X8_in wl_X8_59 [] rfl rfl (Nat.le_of_ble_eq_true rfl) (Nat.le_of_ble_eq_true rfl) rfl hl.1 rfl (Nat.le_of_ble_eq_true rfl) ⟨Nat.le_refl 0, Nat.le_refl 0⟩ dX8_note_21) hP hD hS hA [] rfl rfl (fun H locs hP hD hS => ?_)
      have hP : va_P D vwCl (wd_X8_note cI cZ AT AT_al AT_kp AT_ik AT_rf AT_hd AT_bs AT_se AT_bf AT_te AT_by AT_an AT_vs vT_ab vT_be vT_byl vT_tka vT_tkl vT_tkn vT_val fT_al fT_rf) H := hP
      have hD : va_D A (wd_X8_note cI cZ AT AT_al AT_kp AT_ik AT_rf AT_hd AT_bs AT_se AT_bf AT_te AT_by AT_an AT_vs vT_ab vT_be vT_byl vT_tka vT_tkl vT_tkn vT_val fT_al fT_rf) := hD
      refine lv_if_eq (tgt := 40) hx hb dX8_note_24 (by decide) (fun c_24 => ?_) (fun c_24 => ?_)
      · have hm := it_s c_24 hm
        refine lv_aload_n hx hb dX8_note_40 rfl (lv_at hl 0 rfl) ?_
        refine lv_bipush (v := (-2)) hx hb dX8_note_41 (by decide) ?_
        obtain ⟨r_43, hc_43, hm⟩ := ob_s hm
        refine q_ci (q_rv (rest := []) ⟨hx, hb, hml, hown, hts⟩ hK hN hP hD (c_X8_bad l D cI cZ H.size AT AT_al AT_kp AT_ik AT_rf AT_hd AT_bs AT_se AT_bf AT_te AT_by AT_an AT_vs vT_ab vT_be vT_byl vT_tka vT_tkl vT_tkn vT_val fT_rf (-2) r_43 hc_43) mb_X8_bad mv_X8_bad wl_X8_75 [0, 2] rfl rfl rfl (Nat.le_of_ble_eq_true rfl) (Nat.le_of_ble_eq_true rfl) rfl hl.1 rfl (Nat.le_of_ble_eq_true rfl) ⟨Nat.le_refl 0, Nat.le_refl 0⟩ dX8_note_43) hP hD hS hA [0, 2] rfl rfl (fun H locs hP hD hS => ?_)
        have hP : va_P D vwCl (wd_X8_note cI cZ AT AT_al AT_kp AT_ik AT_rf AT_hd AT_bs AT_se AT_bf AT_te AT_by AT_an AT_vs vT_ab vT_be vT_byl vT_tka vT_tkl vT_tkn vT_val fT_al r_43.2) H := hP
        have hD : va_D A (wd_X8_note cI cZ AT AT_al AT_kp AT_ik AT_rf AT_hd AT_bs AT_se AT_bf AT_te AT_by AT_an AT_vs vT_ab vT_be vT_byl vT_tka vT_tkl vT_tkn vT_val fT_al r_43.2) := hD
        have hm := Option.some.inj hm
        subst hm
        exact q_iret (v := r_43.1) hx hb hr hlocks hP hS dX8_note_46
      · have hm := it_n c_24 hm
        refine lv_iload hx hb dX8_note_27 (lv_at hl 4 rfl) ?_
        refine lv_i2l (v := (Int32.toInt64 p4)) hx hb dX8_note_29 rfl ?_
        refine lv_lconst (v := 0) hx hb dX8_note_30 (by decide) ?_
        refine lv_ldc2 (v := 20) hx hb hown (hts _ wv_X8_171) dX8_note_31 ?_
        obtain ⟨r_34, hc_34, hm⟩ := ob_s hm
        refine q_ci (q_rs (rest := []) ⟨hx, hb, hml, hown, hts⟩ hK hN hP hD (c_X8_in l D cI cZ H.size (Int32.toInt64 p4) 0 20 r_34 hc_34) mb_X8_in wt_X8_in wl_X8_59 [] rfl rfl (Nat.le_of_ble_eq_true rfl) (Nat.le_of_ble_eq_true rfl) rfl hl.1 rfl (Nat.le_of_ble_eq_true rfl) ⟨Nat.le_refl 0, Nat.le_refl 0⟩ dX8_note_34) hP hD hS hA [] rfl rfl (fun H locs hP hD hS => ?_)
        have hP : va_P D vwCl (wd_X8_note cI cZ AT AT_al AT_kp AT_ik AT_rf AT_hd AT_bs AT_se AT_bf AT_te AT_by AT_an AT_vs vT_ab vT_be vT_byl vT_tka vT_tkl vT_tkn vT_val fT_al fT_rf) H := hP
        have hD : va_D A (wd_X8_note cI cZ AT AT_al AT_kp AT_ik AT_rf AT_hd AT_bs AT_se AT_bf AT_te AT_by AT_an AT_vs vT_ab vT_be vT_byl vT_tka vT_tkl vT_tkn vT_val fT_al fT_rf) := hD
        refine lv_if_ne (tgt := 47) hx hb dX8_note_37 (by decide) (fun c_37 => ?_) (fun c_37 => ?_)
        · have hm := it_n c_37 hm
          refine lv_aload_n hx hb dX8_note_47 rfl (lv_at hl 0 rfl) ?_
          refine gf_X8_7 (v := .ref AT_al) hx hb hts hown hK hN hP 0 rfl rfl dX8_note_48 ?_
          refine lv_iconst (v := 3) hx hb dX8_note_51 (by decide) ?_
          refine q_iald (j := 3) hx hb hK hP 1 rfl (q_inl (by decide)) (by decide) dX8_note_52 ?_
          refine lv_bipush (v := 6) hx hb dX8_note_53 (by decide) ?_
          refine lv_icmp_ne (tgt := 63) hx hb dX8_note_55 (by decide) (fun c_55 => ?_) (fun c_55 => ?_)
          · have hm := it_n c_55 hm
            refine lv_bipush (v := 64) hx hb dX8_note_63 (by decide) ?_
            refine lv_iconst (v := 4) hx hb dX8_note_65 (by decide) ?_
            refine lv_aload_n hx hb dX8_note_66 rfl (lv_at hl 0 rfl) ?_
            refine gf_X8_7 (v := .ref AT_al) hx hb hts hown hK hN hP 0 rfl rfl dX8_note_67 ?_
            refine lv_iconst (v := 3) hx hb dX8_note_70 (by decide) ?_
            refine q_iald (j := 3) hx hb hK hP 1 rfl (q_inl (by decide)) (by decide) dX8_note_71 ?_
            refine lv_imul hx hb dX8_note_72 ?_
            refine lv_iadd hx hb dX8_note_73 ?_
            refine lv_istore (lv' := [(5, .int (64 + (4 * (fT_al 3)))), (0, .ref AT), (1, .int p1), (2, .int p2), (3, .int p3), (4, .int p4)]) hx hb dX8_note_74 hl (by decide) rfl (fun ls hl => ?_)
            refine lv_aload_n hx hb dX8_note_76 rfl (lv_at hl 1 rfl) ?_
            refine gf_X8_7 (v := .ref AT_al) hx hb hts hown hK hN hP 0 rfl rfl dX8_note_77 ?_
            refine lv_iload hx hb dX8_note_80 (lv_at hl 0 rfl) ?_
            refine lv_iload_n hx hb dX8_note_82 rfl (lv_at hl 2 rfl) ?_
            obtain ⟨hi_83, hm⟩ := gd_s hm
            refine q_iast (j := (Int32.toNatClampNeg (64 + (4 * (fT_al 3))))) hx hb hK hP hD hS 1 rfl hi_83 rfl dX8_note_83 (fun H locs hP hD hS => ?_)
            have hP : va_P D vwCl (wd_X8_note cI cZ AT AT_al AT_kp AT_ik AT_rf AT_hd AT_bs AT_se AT_bf AT_te AT_by AT_an AT_vs vT_ab vT_be vT_byl vT_tka vT_tkl vT_tkn vT_val (upd fT_al (Int32.toNatClampNeg (64 + (4 * (fT_al 3)))) p1) fT_rf) H := hP
            have hD : va_D A (wd_X8_note cI cZ AT AT_al AT_kp AT_ik AT_rf AT_hd AT_bs AT_se AT_bf AT_te AT_by AT_an AT_vs vT_ab vT_be vT_byl vT_tka vT_tkl vT_tkn vT_val (upd fT_al (Int32.toNatClampNeg (64 + (4 * (fT_al 3)))) p1) fT_rf) := hD
            refine lv_aload_n hx hb dX8_note_84 rfl (lv_at hl 1 rfl) ?_
            refine gf_X8_7 (v := .ref AT_al) hx hb hts hown hK hN hP 0 rfl rfl dX8_note_85 ?_
            refine lv_iload hx hb dX8_note_88 (lv_at hl 0 rfl) ?_
            refine lv_iconst (v := 1) hx hb dX8_note_90 (by decide) ?_
            refine lv_iadd hx hb dX8_note_91 ?_
            refine lv_iload_n hx hb dX8_note_92 rfl (lv_at hl 3 rfl) ?_
            obtain ⟨hi_93, hm⟩ := gd_s hm
            refine q_iast (j := (Int32.toNatClampNeg ((64 + (4 * (fT_al 3))) + 1))) hx hb hK hP hD hS 1 rfl hi_93 rfl dX8_note_93 (fun H locs hP hD hS => ?_)
            have hP : va_P D vwCl (wd_X8_note cI cZ AT AT_al AT_kp AT_ik AT_rf AT_hd AT_bs AT_se AT_bf AT_te AT_by AT_an AT_vs vT_ab vT_be vT_byl vT_tka vT_tkl vT_tkn vT_val (upd (upd fT_al (Int32.toNatClampNeg (64 + (4 * (fT_al 3)))) p1) (Int32.toNatClampNeg ((64 + (4 * (fT_al 3))) + 1)) p2) fT_rf) H := hP
            have hD : va_D A (wd_X8_note cI cZ AT AT_al AT_kp AT_ik AT_rf AT_hd AT_bs AT_se AT_bf AT_te AT_by AT_an AT_vs vT_ab vT_be vT_byl vT_tka vT_tkl vT_tkn vT_val (upd (upd fT_al (Int32.toNatClampNeg (64 + (4 * (fT_al 3)))) p1) (Int32.toNatClampNeg ((64 + (4 * (fT_al 3))) + 1)) p2) fT_rf) := hD
            refine lv_aload_n hx hb dX8_note_94 rfl (lv_at hl 1 rfl) ?_
            refine gf_X8_7 (v := .ref AT_al) hx hb hts hown hK hN hP 0 rfl rfl dX8_note_95 ?_
            refine lv_iload hx hb dX8_note_98 (lv_at hl 0 rfl) ?_
            refine lv_iconst (v := 2) hx hb dX8_note_100 (by decide) ?_
            refine lv_iadd hx hb dX8_note_101 ?_
            refine lv_iload_n hx hb dX8_note_102 rfl (lv_at hl 4 rfl) ?_
            obtain ⟨hi_103, hm⟩ := gd_s hm
            refine q_iast (j := (Int32.toNatClampNeg ((64 + (4 * (fT_al 3))) + 2))) hx hb hK hP hD hS 1 rfl hi_103 rfl dX8_note_103 (fun H locs hP hD hS => ?_)
            have hP : va_P D vwCl (wd_X8_note cI cZ AT AT_al AT_kp AT_ik AT_rf AT_hd AT_bs AT_se AT_bf AT_te AT_by AT_an AT_vs vT_ab vT_be vT_byl vT_tka vT_tkl vT_tkn vT_val (upd (upd (upd fT_al (Int32.toNatClampNeg (64 + (4 * (fT_al 3)))) p1) (Int32.toNatClampNeg ((64 + (4 * (fT_al 3))) + 1)) p2) (Int32.toNatClampNeg ((64 + (4 * (fT_al 3))) + 2)) p3) fT_rf) H := hP
            have hD : va_D A (wd_X8_note cI cZ AT AT_al AT_kp AT_ik AT_rf AT_hd AT_bs AT_se AT_bf AT_te AT_by AT_an AT_vs vT_ab vT_be vT_byl vT_tka vT_tkl vT_tkn vT_val (upd (upd (upd fT_al (Int32.toNatClampNeg (64 + (4 * (fT_al 3)))) p1) (Int32.toNatClampNeg ((64 + (4 * (fT_al 3))) + 1)) p2) (Int32.toNatClampNeg ((64 + (4 * (fT_al 3))) + 2)) p3) fT_rf) := hD
            refine lv_aload_n hx hb dX8_note_104 rfl (lv_at hl 1 rfl) ?_
            refine gf_X8_7 (v := .ref AT_al) hx hb hts hown hK hN hP 0 rfl rfl dX8_note_105 ?_
            refine lv_iload hx hb dX8_note_108 (lv_at hl 0 rfl) ?_
            refine lv_iconst (v := 3) hx hb dX8_note_110 (by decide) ?_
            refine lv_iadd hx hb dX8_note_111 ?_
            refine lv_iload hx hb dX8_note_112 (lv_at hl 5 rfl) ?_
            obtain ⟨hi_114, hm⟩ := gd_s hm
            refine q_iast (j := (Int32.toNatClampNeg ((64 + (4 * (fT_al 3))) + 3))) hx hb hK hP hD hS 1 rfl hi_114 rfl dX8_note_114 (fun H locs hP hD hS => ?_)
            have hP : va_P D vwCl (wd_X8_note cI cZ AT AT_al AT_kp AT_ik AT_rf AT_hd AT_bs AT_se AT_bf AT_te AT_by AT_an AT_vs vT_ab vT_be vT_byl vT_tka vT_tkl vT_tkn vT_val (upd (upd (upd (upd fT_al (Int32.toNatClampNeg (64 + (4 * (fT_al 3)))) p1) (Int32.toNatClampNeg ((64 + (4 * (fT_al 3))) + 1)) p2) (Int32.toNatClampNeg ((64 + (4 * (fT_al 3))) + 2)) p3) (Int32.toNatClampNeg ((64 + (4 * (fT_al 3))) + 3)) p4) fT_rf) H := hP
            have hD : va_D A (wd_X8_note cI cZ AT AT_al AT_kp AT_ik AT_rf AT_hd AT_bs AT_se AT_bf AT_te AT_by AT_an AT_vs vT_ab vT_be vT_byl vT_tka vT_tkl vT_tkn vT_val (upd (upd (upd (upd fT_al (Int32.toNatClampNeg (64 + (4 * (fT_al 3)))) p1) (Int32.toNatClampNeg ((64 + (4 * (fT_al 3))) + 1)) p2) (Int32.toNatClampNeg ((64 + (4 * (fT_al 3))) + 2)) p3) (Int32.toNatClampNeg ((64 + (4 * (fT_al 3))) + 3)) p4) fT_rf) := hD
            refine lv_aload_n hx hb dX8_note_115 rfl (lv_at hl 1 rfl) ?_
            refine gf_X8_7 (v := .ref AT_al) hx hb hts hown hK hN hP 0 rfl rfl dX8_note_116 ?_
            refine lv_iconst (v := 3) hx hb dX8_note_119 (by decide) ?_
            refine lv_dup2_11 hx hb dX8_note_120 rfl rfl ?_
            refine q_iald (j := 3) hx hb hK hP 1 rfl (q_inl (by decide)) (by decide) dX8_note_121 ?_
            refine lv_iconst (v := 1) hx hb dX8_note_122 (by decide) ?_
            refine lv_iadd hx hb dX8_note_123 ?_
            refine q_iast (j := 3) hx hb hK hP hD hS 1 rfl (q_inl (by decide)) (by decide) dX8_note_124 (fun H locs hP hD hS => ?_)
            have hP : va_P D vwCl (wd_X8_note cI cZ AT AT_al AT_kp AT_ik AT_rf AT_hd AT_bs AT_se AT_bf AT_te AT_by AT_an AT_vs vT_ab vT_be vT_byl vT_tka vT_tkl vT_tkn vT_val (upd (upd (upd (upd (upd fT_al (Int32.toNatClampNeg (64 + (4 * (fT_al 3)))) p1) (Int32.toNatClampNeg ((64 + (4 * (fT_al 3))) + 1)) p2) (Int32.toNatClampNeg ((64 + (4 * (fT_al 3))) + 2)) p3) (Int32.toNatClampNeg ((64 + (4 * (fT_al 3))) + 3)) p4) 3 (((upd (upd (upd (upd fT_al (Int32.toNatClampNeg (64 + (4 * (fT_al 3)))) p1) (Int32.toNatClampNeg ((64 + (4 * (fT_al 3))) + 1)) p2) (Int32.toNatClampNeg ((64 + (4 * (fT_al 3))) + 2)) p3) (Int32.toNatClampNeg ((64 + (4 * (fT_al 3))) + 3)) p4) 3) + 1)) fT_rf) H := hP
            have hD : va_D A (wd_X8_note cI cZ AT AT_al AT_kp AT_ik AT_rf AT_hd AT_bs AT_se AT_bf AT_te AT_by AT_an AT_vs vT_ab vT_be vT_byl vT_tka vT_tkl vT_tkn vT_val (upd (upd (upd (upd (upd fT_al (Int32.toNatClampNeg (64 + (4 * (fT_al 3)))) p1) (Int32.toNatClampNeg ((64 + (4 * (fT_al 3))) + 1)) p2) (Int32.toNatClampNeg ((64 + (4 * (fT_al 3))) + 2)) p3) (Int32.toNatClampNeg ((64 + (4 * (fT_al 3))) + 3)) p4) 3 (((upd (upd (upd (upd fT_al (Int32.toNatClampNeg (64 + (4 * (fT_al 3)))) p1) (Int32.toNatClampNeg ((64 + (4 * (fT_al 3))) + 1)) p2) (Int32.toNatClampNeg ((64 + (4 * (fT_al 3))) + 2)) p3) (Int32.toNatClampNeg ((64 + (4 * (fT_al 3))) + 3)) p4) 3) + 1)) fT_rf) := hD
            refine lv_aload_n hx hb dX8_note_125 rfl (lv_at hl 1 rfl) ?_
            refine gf_X8_7 (v := .ref AT_al) hx hb hts hown hK hN hP 0 rfl rfl dX8_note_126 ?_
            refine lv_iconst (v := 3) hx hb dX8_note_129 (by decide) ?_
            refine q_iald (j := 3) hx hb hK hP 1 rfl (q_inl (by decide)) (by decide) dX8_note_130 ?_
            have hm := Option.some.inj hm
            subst hm
            exact q_iret (v := ((upd (upd (upd (upd (upd fT_al (Int32.toNatClampNeg (64 + (4 * (fT_al 3)))) p1) (Int32.toNatClampNeg ((64 + (4 * (fT_al 3))) + 1)) p2) (Int32.toNatClampNeg ((64 + (4 * (fT_al 3))) + 2)) p3) (Int32.toNatClampNeg ((64 + (4 * (fT_al 3))) + 3)) p4) 3 (((upd (upd (upd (upd fT_al (Int32.toNatClampNeg (64 + (4 * (fT_al 3)))) p1) (Int32.toNatClampNeg ((64 + (4 * (fT_al 3))) + 1)) p2) (Int32.toNatClampNeg ((64 + (4 * (fT_al 3))) + 2)) p3) (Int32.toNatClampNeg ((64 + (4 * (fT_al 3))) + 3)) p4) 3) + 1)) 3)) hx hb hr hlocks hP hS dX8_note_131
          · have hm := it_s c_55 hm
            refine lv_aload_n hx hb dX8_note_58 rfl (lv_at hl 0 rfl) ?_
            obtain ⟨r_59, hc_59, hm⟩ := ob_s hm
            refine q_ci (q_rv (rest := []) ⟨hx, hb, hml, hown, hts⟩ hK hN hP hD (c_X8_full l D cI cZ H.size AT AT_al AT_kp AT_ik AT_rf AT_hd AT_bs AT_se AT_bf AT_te AT_by AT_an AT_vs vT_ab vT_be vT_byl vT_tka vT_tkl vT_tkn vT_val fT_rf r_59 hc_59) mb_X8_full mv_X8_full wl_X8_79 [0, 2] rfl rfl rfl (Nat.le_of_ble_eq_true rfl) (Nat.le_of_ble_eq_true rfl) rfl hl.1 rfl (Nat.le_of_ble_eq_true rfl) ⟨Nat.le_refl 0, Nat.le_refl 0⟩ dX8_note_59) hP hD hS hA [0, 2] rfl rfl (fun H locs hP hD hS => ?_)
            have hP : va_P D vwCl (wd_X8_note cI cZ AT AT_al AT_kp AT_ik AT_rf AT_hd AT_bs AT_se AT_bf AT_te AT_by AT_an AT_vs vT_ab vT_be vT_byl vT_tka vT_tkl vT_tkn vT_val fT_al r_59.2) H := hP
            have hD : va_D A (wd_X8_note cI cZ AT AT_al AT_kp AT_ik AT_rf AT_hd AT_bs AT_se AT_bf AT_te AT_by AT_an AT_vs vT_ab vT_be vT_byl vT_tka vT_tkl vT_tkn vT_val fT_al r_59.2) := hD
            have hm := Option.some.inj hm
            subst hm
            exact q_iret (v := r_59.1) hx hb hr hlocks hP hS dX8_note_62
        · have hm := it_s c_37 hm
          refine lv_aload_n hx hb dX8_note_40 rfl (lv_at hl 0 rfl) ?_
          refine lv_bipush (v := (-2)) hx hb dX8_note_41 (by decide) ?_
          obtain ⟨r_43, hc_43, hm⟩ := ob_s hm
          refine q_ci (q_rv (rest := []) ⟨hx, hb, hml, hown, hts⟩ hK hN hP hD (c_X8_bad l D cI cZ H.size AT AT_al AT_kp AT_ik AT_rf AT_hd AT_bs AT_se AT_bf AT_te AT_by AT_an AT_vs vT_ab vT_be vT_byl vT_tka vT_tkl vT_tkn vT_val fT_rf (-2) r_43 hc_43) mb_X8_bad mv_X8_bad wl_X8_75 [0, 2] rfl rfl rfl (Nat.le_of_ble_eq_true rfl) (Nat.le_of_ble_eq_true rfl) rfl hl.1 rfl (Nat.le_of_ble_eq_true rfl) ⟨Nat.le_refl 0, Nat.le_refl 0⟩ dX8_note_43) hP hD hS hA [0, 2] rfl rfl (fun H locs hP hD hS => ?_)
          have hP : va_P D vwCl (wd_X8_note cI cZ AT AT_al AT_kp AT_ik AT_rf AT_hd AT_bs AT_se AT_bf AT_te AT_by AT_an AT_vs vT_ab vT_be vT_byl vT_tka vT_tkl vT_tkn vT_val fT_al r_43.2) H := hP
          have hD : va_D A (wd_X8_note cI cZ AT AT_al AT_kp AT_ik AT_rf AT_hd AT_bs AT_se AT_bf AT_te AT_by AT_an AT_vs vT_ab vT_be vT_byl vT_tka vT_tkl vT_tkn vT_val fT_al r_43.2) := hD
          have hm := Option.some.inj hm
          subst hm
          exact q_iret (v := r_43.1) hx hb hr hlocks hP hS dX8_note_46
theorem mb_X8_mark : q_mb yX8_mark cX8_mark 6 (some .int) 4 := ⟨wc_X8_mark, wn_X8, by decide, by decide, by decide +kernel⟩
theorem mv_X8_mark : q_mv yX8_mark 8 := ⟨wi_X8_mark, ws_X8_mark, _, rfl, rfl⟩
def wd_X8_mark (cI cZ : ClassId) (AT AT_al AT_kp AT_ik AT_rf AT_hd AT_bs AT_se AT_bf AT_te AT_by AT_an AT_vs : Nat) (vT_ab : Int64) (vT_be : Int64) (vT_byl : Int32) (vT_tka : Int32) (vT_tkl : Int32) (vT_tkn : Int32) (vT_val : Int32) (fT_al : Nat → Int32) (fT_rf : Nat → Int32) : va_W := [(AT, .inr (8, [.ref AT_al, .ref AT_kp, .ref AT_ik, .ref AT_rf, .long vT_ab, .long vT_be, .ref AT_hd, .ref AT_bs, .ref AT_se, .ref AT_bf, .ref AT_te, .ref AT_by, .int vT_byl, .int vT_tka, .int vT_tkl, .int vT_tkn, .int vT_val, .ref AT_an, .ref AT_vs])), (AT_al, .inl (cI, 312, .inl fT_al)), (AT_rf, .inl (cI, 3, .inl fT_rf))]
def fm_X8_mark (p1 : Int32) (p2 : Int32) (p3 : Int32) (p4 : Int32) (fT_al : Nat → Int32) (fT_rf : Nat → Int32) : Option (Int32 × (Nat → Int32) × (Nat → Int32)) := Option.bind (fm_X8_isSleeper p1 fT_al) (fun r_2 => if r_2 = 0 then (Option.bind (fm_X8_bad (-2) fT_rf) (fun r_43 => some (r_43.1, fT_al, r_43.2))) else (Option.bind (fm_X8_in (Int32.toInt64 p2) 0 20) (fun r_14 => if r_14 = 0 then (Option.bind (fm_X8_bad (-2) fT_rf) (fun r_43 => some (r_43.1, fT_al, r_43.2))) else (Option.bind (fm_X8_isWool p3) (fun r_21 => if r_21 = 0 then (Option.bind (fm_X8_bad (-2) fT_rf) (fun r_43 => some (r_43.1, fT_al, r_43.2))) else (Option.bind (fm_X8_in (Int32.toInt64 p4) 0 50) (fun r_34 => if r_34 = 0 then (Option.bind (fm_X8_bad (-2) fT_rf) (fun r_43 => some (r_43.1, fT_al, r_43.2))) else (if (fT_al 4) = 6 then (Option.bind (fm_X8_full fT_rf) (fun r_59 => some (r_59.1, fT_al, r_59.2))) else (gd (88 + (4 * (fT_al 4))) 312 (gd ((88 + (4 * (fT_al 4))) + 1) 312 (gd ((88 + (4 * (fT_al 4))) + 2) 312 (gd ((88 + (4 * (fT_al 4))) + 3) 312 (some (((upd (upd (upd (upd (upd fT_al (Int32.toNatClampNeg (88 + (4 * (fT_al 4)))) p1) (Int32.toNatClampNeg ((88 + (4 * (fT_al 4))) + 1)) p2) (Int32.toNatClampNeg ((88 + (4 * (fT_al 4))) + 2)) p3) (Int32.toNatClampNeg ((88 + (4 * (fT_al 4))) + 3)) p4) 4 (((upd (upd (upd (upd fT_al (Int32.toNatClampNeg (88 + (4 * (fT_al 4)))) p1) (Int32.toNatClampNeg ((88 + (4 * (fT_al 4))) + 1)) p2) (Int32.toNatClampNeg ((88 + (4 * (fT_al 4))) + 2)) p3) (Int32.toNatClampNeg ((88 + (4 * (fT_al 4))) + 3)) p4) 4) + 1)) 4), (upd (upd (upd (upd (upd fT_al (Int32.toNatClampNeg (88 + (4 * (fT_al 4)))) p1) (Int32.toNatClampNeg ((88 + (4 * (fT_al 4))) + 1)) p2) (Int32.toNatClampNeg ((88 + (4 * (fT_al 4))) + 2)) p3) (Int32.toNatClampNeg ((88 + (4 * (fT_al 4))) + 3)) p4) 4 (((upd (upd (upd (upd fT_al (Int32.toNatClampNeg (88 + (4 * (fT_al 4)))) p1) (Int32.toNatClampNeg ((88 + (4 * (fT_al 4))) + 1)) p2) (Int32.toNatClampNeg ((88 + (4 * (fT_al 4))) + 2)) p3) (Int32.toNatClampNeg ((88 + (4 * (fT_al 4))) + 3)) p4) 4) + 1)), fT_rf))))))))))))))
set_option maxHeartbeats 4000000 in
set_option maxRecDepth 100000 in
theorem c_X8_mark (l : Launch) (D : va_G) (cI cZ : ClassId) (sz : Nat) (AT AT_al AT_kp AT_ik AT_rf AT_hd AT_bs AT_se AT_bf AT_te AT_by AT_an AT_vs : Nat) (vT_ab : Int64) (vT_be : Int64) (vT_byl : Int32) (vT_tka : Int32) (vT_tkl : Int32) (vT_tkn : Int32) (vT_val : Int32) (fT_al : Nat → Int32) (fT_rf : Nat → Int32) (p1 : Int32) (p2 : Int32) (p3 : Int32) (p4 : Int32) (out : (Int32 × (Nat → Int32) × (Nat → Int32))) (hm : fm_X8_mark p1 p2 p3 p4 fT_al fT_rf = some out) : Met l yX8_mark (Cond.code yX8_mark cX8_mark 6 (some .int) :: bg) { frames := 2, cells := 0, slots := 0, locals := 46 } (va_Pc [.ref AT, .int p1, .int p2, .int p3, .int p4] (q_pre D cI cZ sz (wd_X8_mark cI cZ AT AT_al AT_kp AT_ik AT_rf AT_hd AT_bs AT_se AT_bf AT_te AT_by AT_an AT_vs vT_ab vT_be vT_byl vT_tka vT_tkl vT_tkn vT_val fT_al fT_rf))) (q_Qi D (wd_X8_mark cI cZ AT AT_al AT_kp AT_ik AT_rf AT_hd AT_bs AT_se AT_bf AT_te AT_by AT_an AT_vs vT_ab vT_be vT_byl vT_tka vT_tkl vT_tkn vT_val out.2.1 out.2.2) out.1 (va_A (wd_X8_mark cI cZ AT AT_al AT_kp AT_ik AT_rf AT_hd AT_bs AT_se AT_bf AT_te AT_by AT_an AT_vs vT_ab vT_be vT_byl vT_tka vT_tkl vT_tkn vT_val fT_al fT_rf) sz)) 0 0 (va_A (wd_X8_mark cI cZ AT AT_al AT_kp AT_ik AT_rf AT_hd AT_bs AT_se AT_bf AT_te AT_by AT_an AT_vs vT_ab vT_be vT_byl vT_tka vT_tkl vT_tkn vT_val fT_al fT_rf) sz) := by
  refine q_met (fun A => q_Qi D (wd_X8_mark cI cZ AT AT_al AT_kp AT_ik AT_rf AT_hd AT_bs AT_se AT_bf AT_te AT_by AT_an AT_vs vT_ab vT_be vT_byl vT_tka vT_tkl vT_tkn vT_val out.2.1 out.2.2) out.1 A) (by decide) (Nat.le_of_ble_eq_true rfl) ?_
  intro p e s m below meth c ls A hx hb hr hml hown hts hlocks _ hA hS hP hD hK hN hl
  have hown : s.vm.findClass RX8 = some m.cls := hown
  have hl : lv_has ls 6 [(0, .ref AT), (1, .int p1), (2, .int p2), (3, .int p3), (4, .int p4)] := hl
  unfold fm_X8_mark at hm
  refine q_gen hS hP ?_
  intro H locs hP hS
  refine lv_aload_n hx hb dX8_mark_0 rfl (lv_at hl 0 rfl) ?_
  refine lv_iload_n hx hb dX8_mark_1 rfl (lv_at hl 1 rfl) ?_
  obtain ⟨r_2, hc_2, hm⟩ := ob_s hm
  refine q_ci (q_rv (rest := []) ⟨hx, hb, hml, hown, hts⟩ hK hN hP hD (c_X8_isSleeper l D cI cZ H.size AT AT_al AT_kp AT_ik AT_rf AT_hd AT_bs AT_se AT_bf AT_te AT_by AT_an AT_vs vT_ab vT_be vT_byl vT_tka vT_tkl vT_tkn vT_val fT_al p1 r_2 hc_2) mb_X8_isSleeper mv_X8_isSleeper wl_X8_132 [0, 1] rfl rfl rfl (Nat.le_of_ble_eq_true rfl) (Nat.le_of_ble_eq_true rfl) rfl hl.1 rfl (Nat.le_of_ble_eq_true rfl) ⟨Nat.le_refl 0, Nat.le_refl 0⟩ dX8_mark_2) hP hD hS hA [0, 1] rfl rfl (fun H locs hP hD hS => ?_)
  have hP : va_P D vwCl (wd_X8_mark cI cZ AT AT_al AT_kp AT_ik AT_rf AT_hd AT_bs AT_se AT_bf AT_te AT_by AT_an AT_vs vT_ab vT_be vT_byl vT_tka vT_tkl vT_tkn vT_val fT_al fT_rf) H := hP
  have hD : va_D A (wd_X8_mark cI cZ AT AT_al AT_kp AT_ik AT_rf AT_hd AT_bs AT_se AT_bf AT_te AT_by AT_an AT_vs vT_ab vT_be vT_byl vT_tka vT_tkl vT_tkn vT_val fT_al fT_rf) := hD
  refine lv_if_eq (tgt := 40) hx hb dX8_mark_5 (by decide) (fun c_5 => ?_) (fun c_5 => ?_)
  · have hm := it_s c_5 hm
    refine lv_aload_n hx hb dX8_mark_40 rfl (lv_at hl 0 rfl) ?_
    refine lv_bipush (v := (-2)) hx hb dX8_mark_41 (by decide) ?_
    obtain ⟨r_43, hc_43, hm⟩ := ob_s hm
    refine q_ci (q_rv (rest := []) ⟨hx, hb, hml, hown, hts⟩ hK hN hP hD (c_X8_bad l D cI cZ H.size AT AT_al AT_kp AT_ik AT_rf AT_hd AT_bs AT_se AT_bf AT_te AT_by AT_an AT_vs vT_ab vT_be vT_byl vT_tka vT_tkl vT_tkn vT_val fT_rf (-2) r_43 hc_43) mb_X8_bad mv_X8_bad wl_X8_75 [0, 2] rfl rfl rfl (Nat.le_of_ble_eq_true rfl) (Nat.le_of_ble_eq_true rfl) rfl hl.1 rfl (Nat.le_of_ble_eq_true rfl) ⟨Nat.le_refl 0, Nat.le_refl 0⟩ dX8_mark_43) hP hD hS hA [0, 2] rfl rfl (fun H locs hP hD hS => ?_)
    have hP : va_P D vwCl (wd_X8_mark cI cZ AT AT_al AT_kp AT_ik AT_rf AT_hd AT_bs AT_se AT_bf AT_te AT_by AT_an AT_vs vT_ab vT_be vT_byl vT_tka vT_tkl vT_tkn vT_val fT_al r_43.2) H := hP
    have hD : va_D A (wd_X8_mark cI cZ AT AT_al AT_kp AT_ik AT_rf AT_hd AT_bs AT_se AT_bf AT_te AT_by AT_an AT_vs vT_ab vT_be vT_byl vT_tka vT_tkl vT_tkn vT_val fT_al r_43.2) := hD
    have hm := Option.some.inj hm
    subst hm
    exact q_iret (v := r_43.1) hx hb hr hlocks hP hS dX8_mark_46
  · have hm := it_n c_5 hm
    refine lv_iload_n hx hb dX8_mark_8 rfl (lv_at hl 2 rfl) ?_
    refine lv_i2l (v := (Int32.toInt64 p2)) hx hb dX8_mark_9 rfl ?_
    refine lv_lconst (v := 0) hx hb dX8_mark_10 (by decide) ?_
    refine lv_ldc2 (v := 20) hx hb hown (hts _ wv_X8_171) dX8_mark_11 ?_
    obtain ⟨r_14, hc_14, hm⟩ := ob_s hm
    refine q_ci (q_rs (rest := []) ⟨hx, hb, hml, hown, hts⟩ hK hN hP hD (c_X8_in l D cI cZ H.size (Int32.toInt64 p2) 0 20 r_14 hc_14) mb_X8_in wt_X8_in wl_X8_59 [] rfl rfl (Nat.le_of_ble_eq_true rfl) (Nat.le_of_ble_eq_true rfl) rfl hl.1 rfl (Nat.le_of_ble_eq_true rfl) ⟨Nat.le_refl 0, Nat.le_refl 0⟩ dX8_mark_14) hP hD hS hA [] rfl rfl (fun H locs hP hD hS => ?_)
    have hP : va_P D vwCl (wd_X8_mark cI cZ AT AT_al AT_kp AT_ik AT_rf AT_hd AT_bs AT_se AT_bf AT_te AT_by AT_an AT_vs vT_ab vT_be vT_byl vT_tka vT_tkl vT_tkn vT_val fT_al fT_rf) H := hP
    have hD : va_D A (wd_X8_mark cI cZ AT AT_al AT_kp AT_ik AT_rf AT_hd AT_bs AT_se AT_bf AT_te AT_by AT_an AT_vs vT_ab vT_be vT_byl vT_tka vT_tkl vT_tkn vT_val fT_al fT_rf) := hD
    refine lv_if_eq (tgt := 40) hx hb dX8_mark_17 (by decide) (fun c_17 => ?_) (fun c_17 => ?_)
    · have hm := it_s c_17 hm
      refine lv_aload_n hx hb dX8_mark_40 rfl (lv_at hl 0 rfl) ?_
      refine lv_bipush (v := (-2)) hx hb dX8_mark_41 (by decide) ?_
      obtain ⟨r_43, hc_43, hm⟩ := ob_s hm
      refine q_ci (q_rv (rest := []) ⟨hx, hb, hml, hown, hts⟩ hK hN hP hD (c_X8_bad l D cI cZ H.size AT AT_al AT_kp AT_ik AT_rf AT_hd AT_bs AT_se AT_bf AT_te AT_by AT_an AT_vs vT_ab vT_be vT_byl vT_tka vT_tkl vT_tkn vT_val fT_rf (-2) r_43 hc_43) mb_X8_bad mv_X8_bad wl_X8_75 [0, 2] rfl rfl rfl (Nat.le_of_ble_eq_true rfl) (Nat.le_of_ble_eq_true rfl) rfl hl.1 rfl (Nat.le_of_ble_eq_true rfl) ⟨Nat.le_refl 0, Nat.le_refl 0⟩ dX8_mark_43) hP hD hS hA [0, 2] rfl rfl (fun H locs hP hD hS => ?_)
      have hP : va_P D vwCl (wd_X8_mark cI cZ AT AT_al AT_kp AT_ik AT_rf AT_hd AT_bs AT_se AT_bf AT_te AT_by AT_an AT_vs vT_ab vT_be vT_byl vT_tka vT_tkl vT_tkn vT_val fT_al r_43.2) H := hP
      have hD : va_D A (wd_X8_mark cI cZ AT AT_al AT_kp AT_ik AT_rf AT_hd AT_bs AT_se AT_bf AT_te AT_by AT_an AT_vs vT_ab vT_be vT_byl vT_tka vT_tkl vT_tkn vT_val fT_al r_43.2) := hD
      have hm := Option.some.inj hm
      subst hm
      exact q_iret (v := r_43.1) hx hb hr hlocks hP hS dX8_mark_46
    · have hm := it_n c_17 hm
      refine lv_iload_n hx hb dX8_mark_20 rfl (lv_at hl 3 rfl) ?_
      obtain ⟨r_21, hc_21, hm⟩ := ob_s hm
      refine q_ci (q_rs (rest := []) ⟨hx, hb, hml, hown, hts⟩ hK hN hP hD (c_X8_isWool l D cI cZ H.size p3 r_21 hc_21) mb_X8_isWool wt_X8_isWool wl_X8_135 [] rfl rfl (Nat.le_of_ble_eq_true rfl) (Nat.le_of_ble_eq_true rfl) rfl hl.1 rfl (Nat.le_of_ble_eq_true rfl) ⟨Nat.le_refl 0, Nat.le_refl 0⟩ dX8_mark_21) hP hD hS hA [] rfl rfl (fun H locs hP hD hS => ?_)
      have hP : va_P D vwCl (wd_X8_mark cI cZ AT AT_al AT_kp AT_ik AT_rf AT_hd AT_bs AT_se AT_bf AT_te AT_by AT_an AT_vs vT_ab vT_be vT_byl vT_tka vT_tkl vT_tkn vT_val fT_al fT_rf) H := hP
      have hD : va_D A (wd_X8_mark cI cZ AT AT_al AT_kp AT_ik AT_rf AT_hd AT_bs AT_se AT_bf AT_te AT_by AT_an AT_vs vT_ab vT_be vT_byl vT_tka vT_tkl vT_tkn vT_val fT_al fT_rf) := hD
      refine lv_if_eq (tgt := 40) hx hb dX8_mark_24 (by decide) (fun c_24 => ?_) (fun c_24 => ?_)
      · have hm := it_s c_24 hm
        refine lv_aload_n hx hb dX8_mark_40 rfl (lv_at hl 0 rfl) ?_
        refine lv_bipush (v := (-2)) hx hb dX8_mark_41 (by decide) ?_
        obtain ⟨r_43, hc_43, hm⟩ := ob_s hm
        refine q_ci (q_rv (rest := []) ⟨hx, hb, hml, hown, hts⟩ hK hN hP hD (c_X8_bad l D cI cZ H.size AT AT_al AT_kp AT_ik AT_rf AT_hd AT_bs AT_se AT_bf AT_te AT_by AT_an AT_vs vT_ab vT_be vT_byl vT_tka vT_tkl vT_tkn vT_val fT_rf (-2) r_43 hc_43) mb_X8_bad mv_X8_bad wl_X8_75 [0, 2] rfl rfl rfl (Nat.le_of_ble_eq_true rfl) (Nat.le_of_ble_eq_true rfl) rfl hl.1 rfl (Nat.le_of_ble_eq_true rfl) ⟨Nat.le_refl 0, Nat.le_refl 0⟩ dX8_mark_43) hP hD hS hA [0, 2] rfl rfl (fun H locs hP hD hS => ?_)
        have hP : va_P D vwCl (wd_X8_mark cI cZ AT AT_al AT_kp AT_ik AT_rf AT_hd AT_bs AT_se AT_bf AT_te AT_by AT_an AT_vs vT_ab vT_be vT_byl vT_tka vT_tkl vT_tkn vT_val fT_al r_43.2) H := hP
        have hD : va_D A (wd_X8_mark cI cZ AT AT_al AT_kp AT_ik AT_rf AT_hd AT_bs AT_se AT_bf AT_te AT_by AT_an AT_vs vT_ab vT_be vT_byl vT_tka vT_tkl vT_tkn vT_val fT_al r_43.2) := hD
        have hm := Option.some.inj hm
        subst hm
        exact q_iret (v := r_43.1) hx hb hr hlocks hP hS dX8_mark_46
      · have hm := it_n c_24 hm
        refine lv_iload hx hb dX8_mark_27 (lv_at hl 4 rfl) ?_
        refine lv_i2l (v := (Int32.toInt64 p4)) hx hb dX8_mark_29 rfl ?_
        refine lv_lconst (v := 0) hx hb dX8_mark_30 (by decide) ?_
        refine lv_ldc2 (v := 50) hx hb hown (hts _ wv_X8_173) dX8_mark_31 ?_
        obtain ⟨r_34, hc_34, hm⟩ := ob_s hm
        refine q_ci (q_rs (rest := []) ⟨hx, hb, hml, hown, hts⟩ hK hN hP hD (c_X8_in l D cI cZ H.size (Int32.toInt64 p4) 0 50 r_34 hc_34) mb_X8_in wt_X8_in wl_X8_59 [] rfl rfl (Nat.le_of_ble_eq_true rfl) (Nat.le_of_ble_eq_true rfl) rfl hl.1 rfl (Nat.le_of_ble_eq_true rfl) ⟨Nat.le_refl 0, Nat.le_refl 0⟩ dX8_mark_34) hP hD hS hA [] rfl rfl (fun H locs hP hD hS => ?_)
        have hP : va_P D vwCl (wd_X8_mark cI cZ AT AT_al AT_kp AT_ik AT_rf AT_hd AT_bs AT_se AT_bf AT_te AT_by AT_an AT_vs vT_ab vT_be vT_byl vT_tka vT_tkl vT_tkn vT_val fT_al fT_rf) H := hP
        have hD : va_D A (wd_X8_mark cI cZ AT AT_al AT_kp AT_ik AT_rf AT_hd AT_bs AT_se AT_bf AT_te AT_by AT_an AT_vs vT_ab vT_be vT_byl vT_tka vT_tkl vT_tkn vT_val fT_al fT_rf) := hD
        refine lv_if_ne (tgt := 47) hx hb dX8_mark_37 (by decide) (fun c_37 => ?_) (fun c_37 => ?_)
        · have hm := it_n c_37 hm
          refine lv_aload_n hx hb dX8_mark_47 rfl (lv_at hl 0 rfl) ?_
          refine gf_X8_7 (v := .ref AT_al) hx hb hts hown hK hN hP 0 rfl rfl dX8_mark_48 ?_
          refine lv_iconst (v := 4) hx hb dX8_mark_51 (by decide) ?_
          refine q_iald (j := 4) hx hb hK hP 1 rfl (q_inl (by decide)) (by decide) dX8_mark_52 ?_
          refine lv_bipush (v := 6) hx hb dX8_mark_53 (by decide) ?_
          refine lv_icmp_ne (tgt := 63) hx hb dX8_mark_55 (by decide) (fun c_55 => ?_) (fun c_55 => ?_)
          · have hm := it_n c_55 hm
            refine lv_bipush (v := 88) hx hb dX8_mark_63 (by decide) ?_
            refine lv_iconst (v := 4) hx hb dX8_mark_65 (by decide) ?_
            refine lv_aload_n hx hb dX8_mark_66 rfl (lv_at hl 0 rfl) ?_
            refine gf_X8_7 (v := .ref AT_al) hx hb hts hown hK hN hP 0 rfl rfl dX8_mark_67 ?_
            refine lv_iconst (v := 4) hx hb dX8_mark_70 (by decide) ?_
            refine q_iald (j := 4) hx hb hK hP 1 rfl (q_inl (by decide)) (by decide) dX8_mark_71 ?_
            refine lv_imul hx hb dX8_mark_72 ?_
            refine lv_iadd hx hb dX8_mark_73 ?_
            refine lv_istore (lv' := [(5, .int (88 + (4 * (fT_al 4)))), (0, .ref AT), (1, .int p1), (2, .int p2), (3, .int p3), (4, .int p4)]) hx hb dX8_mark_74 hl (by decide) rfl (fun ls hl => ?_)
            refine lv_aload_n hx hb dX8_mark_76 rfl (lv_at hl 1 rfl) ?_
            refine gf_X8_7 (v := .ref AT_al) hx hb hts hown hK hN hP 0 rfl rfl dX8_mark_77 ?_
            refine lv_iload hx hb dX8_mark_80 (lv_at hl 0 rfl) ?_
            refine lv_iload_n hx hb dX8_mark_82 rfl (lv_at hl 2 rfl) ?_
            obtain ⟨hi_83, hm⟩ := gd_s hm
            refine q_iast (j := (Int32.toNatClampNeg (88 + (4 * (fT_al 4))))) hx hb hK hP hD hS 1 rfl hi_83 rfl dX8_mark_83 (fun H locs hP hD hS => ?_)
            have hP : va_P D vwCl (wd_X8_mark cI cZ AT AT_al AT_kp AT_ik AT_rf AT_hd AT_bs AT_se AT_bf AT_te AT_by AT_an AT_vs vT_ab vT_be vT_byl vT_tka vT_tkl vT_tkn vT_val (upd fT_al (Int32.toNatClampNeg (88 + (4 * (fT_al 4)))) p1) fT_rf) H := hP
            have hD : va_D A (wd_X8_mark cI cZ AT AT_al AT_kp AT_ik AT_rf AT_hd AT_bs AT_se AT_bf AT_te AT_by AT_an AT_vs vT_ab vT_be vT_byl vT_tka vT_tkl vT_tkn vT_val (upd fT_al (Int32.toNatClampNeg (88 + (4 * (fT_al 4)))) p1) fT_rf) := hD
            refine lv_aload_n hx hb dX8_mark_84 rfl (lv_at hl 1 rfl) ?_
            refine gf_X8_7 (v := .ref AT_al) hx hb hts hown hK hN hP 0 rfl rfl dX8_mark_85 ?_
            refine lv_iload hx hb dX8_mark_88 (lv_at hl 0 rfl) ?_
            refine lv_iconst (v := 1) hx hb dX8_mark_90 (by decide) ?_
            refine lv_iadd hx hb dX8_mark_91 ?_
            refine lv_iload_n hx hb dX8_mark_92 rfl (lv_at hl 3 rfl) ?_
            obtain ⟨hi_93, hm⟩ := gd_s hm
            refine q_iast (j := (Int32.toNatClampNeg ((88 + (4 * (fT_al 4))) + 1))) hx hb hK hP hD hS 1 rfl hi_93 rfl dX8_mark_93 (fun H locs hP hD hS => ?_)
            have hP : va_P D vwCl (wd_X8_mark cI cZ AT AT_al AT_kp AT_ik AT_rf AT_hd AT_bs AT_se AT_bf AT_te AT_by AT_an AT_vs vT_ab vT_be vT_byl vT_tka vT_tkl vT_tkn vT_val (upd (upd fT_al (Int32.toNatClampNeg (88 + (4 * (fT_al 4)))) p1) (Int32.toNatClampNeg ((88 + (4 * (fT_al 4))) + 1)) p2) fT_rf) H := hP
            have hD : va_D A (wd_X8_mark cI cZ AT AT_al AT_kp AT_ik AT_rf AT_hd AT_bs AT_se AT_bf AT_te AT_by AT_an AT_vs vT_ab vT_be vT_byl vT_tka vT_tkl vT_tkn vT_val (upd (upd fT_al (Int32.toNatClampNeg (88 + (4 * (fT_al 4)))) p1) (Int32.toNatClampNeg ((88 + (4 * (fT_al 4))) + 1)) p2) fT_rf) := hD
            refine lv_aload_n hx hb dX8_mark_94 rfl (lv_at hl 1 rfl) ?_
            refine gf_X8_7 (v := .ref AT_al) hx hb hts hown hK hN hP 0 rfl rfl dX8_mark_95 ?_
            refine lv_iload hx hb dX8_mark_98 (lv_at hl 0 rfl) ?_
            refine lv_iconst (v := 2) hx hb dX8_mark_100 (by decide) ?_
            refine lv_iadd hx hb dX8_mark_101 ?_
            refine lv_iload_n hx hb dX8_mark_102 rfl (lv_at hl 4 rfl) ?_
            obtain ⟨hi_103, hm⟩ := gd_s hm
            refine q_iast (j := (Int32.toNatClampNeg ((88 + (4 * (fT_al 4))) + 2))) hx hb hK hP hD hS 1 rfl hi_103 rfl dX8_mark_103 (fun H locs hP hD hS => ?_)
            have hP : va_P D vwCl (wd_X8_mark cI cZ AT AT_al AT_kp AT_ik AT_rf AT_hd AT_bs AT_se AT_bf AT_te AT_by AT_an AT_vs vT_ab vT_be vT_byl vT_tka vT_tkl vT_tkn vT_val (upd (upd (upd fT_al (Int32.toNatClampNeg (88 + (4 * (fT_al 4)))) p1) (Int32.toNatClampNeg ((88 + (4 * (fT_al 4))) + 1)) p2) (Int32.toNatClampNeg ((88 + (4 * (fT_al 4))) + 2)) p3) fT_rf) H := hP
            have hD : va_D A (wd_X8_mark cI cZ AT AT_al AT_kp AT_ik AT_rf AT_hd AT_bs AT_se AT_bf AT_te AT_by AT_an AT_vs vT_ab vT_be vT_byl vT_tka vT_tkl vT_tkn vT_val (upd (upd (upd fT_al (Int32.toNatClampNeg (88 + (4 * (fT_al 4)))) p1) (Int32.toNatClampNeg ((88 + (4 * (fT_al 4))) + 1)) p2) (Int32.toNatClampNeg ((88 + (4 * (fT_al 4))) + 2)) p3) fT_rf) := hD
            refine lv_aload_n hx hb dX8_mark_104 rfl (lv_at hl 1 rfl) ?_
            refine gf_X8_7 (v := .ref AT_al) hx hb hts hown hK hN hP 0 rfl rfl dX8_mark_105 ?_
            refine lv_iload hx hb dX8_mark_108 (lv_at hl 0 rfl) ?_
            refine lv_iconst (v := 3) hx hb dX8_mark_110 (by decide) ?_
            refine lv_iadd hx hb dX8_mark_111 ?_
            refine lv_iload hx hb dX8_mark_112 (lv_at hl 5 rfl) ?_
            obtain ⟨hi_114, hm⟩ := gd_s hm
            refine q_iast (j := (Int32.toNatClampNeg ((88 + (4 * (fT_al 4))) + 3))) hx hb hK hP hD hS 1 rfl hi_114 rfl dX8_mark_114 (fun H locs hP hD hS => ?_)
            have hP : va_P D vwCl (wd_X8_mark cI cZ AT AT_al AT_kp AT_ik AT_rf AT_hd AT_bs AT_se AT_bf AT_te AT_by AT_an AT_vs vT_ab vT_be vT_byl vT_tka vT_tkl vT_tkn vT_val (upd (upd (upd (upd fT_al (Int32.toNatClampNeg (88 + (4 * (fT_al 4)))) p1) (Int32.toNatClampNeg ((88 + (4 * (fT_al 4))) + 1)) p2) (Int32.toNatClampNeg ((88 + (4 * (fT_al 4))) + 2)) p3) (Int32.toNatClampNeg ((88 + (4 * (fT_al 4))) + 3)) p4) fT_rf) H := hP
            have hD : va_D A (wd_X8_mark cI cZ AT AT_al AT_kp AT_ik AT_rf AT_hd AT_bs AT_se AT_bf AT_te AT_by AT_an AT_vs vT_ab vT_be vT_byl vT_tka vT_tkl vT_tkn vT_val (upd (upd (upd (upd fT_al (Int32.toNatClampNeg (88 + (4 * (fT_al 4)))) p1) (Int32.toNatClampNeg ((88 + (4 * (fT_al 4))) + 1)) p2) (Int32.toNatClampNeg ((88 + (4 * (fT_al 4))) + 2)) p3) (Int32.toNatClampNeg ((88 + (4 * (fT_al 4))) + 3)) p4) fT_rf) := hD
            refine lv_aload_n hx hb dX8_mark_115 rfl (lv_at hl 1 rfl) ?_
            refine gf_X8_7 (v := .ref AT_al) hx hb hts hown hK hN hP 0 rfl rfl dX8_mark_116 ?_
            refine lv_iconst (v := 4) hx hb dX8_mark_119 (by decide) ?_
            refine lv_dup2_11 hx hb dX8_mark_120 rfl rfl ?_
            refine q_iald (j := 4) hx hb hK hP 1 rfl (q_inl (by decide)) (by decide) dX8_mark_121 ?_
            refine lv_iconst (v := 1) hx hb dX8_mark_122 (by decide) ?_
            refine lv_iadd hx hb dX8_mark_123 ?_
            refine q_iast (j := 4) hx hb hK hP hD hS 1 rfl (q_inl (by decide)) (by decide) dX8_mark_124 (fun H locs hP hD hS => ?_)
            have hP : va_P D vwCl (wd_X8_mark cI cZ AT AT_al AT_kp AT_ik AT_rf AT_hd AT_bs AT_se AT_bf AT_te AT_by AT_an AT_vs vT_ab vT_be vT_byl vT_tka vT_tkl vT_tkn vT_val (upd (upd (upd (upd (upd fT_al (Int32.toNatClampNeg (88 + (4 * (fT_al 4)))) p1) (Int32.toNatClampNeg ((88 + (4 * (fT_al 4))) + 1)) p2) (Int32.toNatClampNeg ((88 + (4 * (fT_al 4))) + 2)) p3) (Int32.toNatClampNeg ((88 + (4 * (fT_al 4))) + 3)) p4) 4 (((upd (upd (upd (upd fT_al (Int32.toNatClampNeg (88 + (4 * (fT_al 4)))) p1) (Int32.toNatClampNeg ((88 + (4 * (fT_al 4))) + 1)) p2) (Int32.toNatClampNeg ((88 + (4 * (fT_al 4))) + 2)) p3) (Int32.toNatClampNeg ((88 + (4 * (fT_al 4))) + 3)) p4) 4) + 1)) fT_rf) H := hP
            have hD : va_D A (wd_X8_mark cI cZ AT AT_al AT_kp AT_ik AT_rf AT_hd AT_bs AT_se AT_bf AT_te AT_by AT_an AT_vs vT_ab vT_be vT_byl vT_tka vT_tkl vT_tkn vT_val (upd (upd (upd (upd (upd fT_al (Int32.toNatClampNeg (88 + (4 * (fT_al 4)))) p1) (Int32.toNatClampNeg ((88 + (4 * (fT_al 4))) + 1)) p2) (Int32.toNatClampNeg ((88 + (4 * (fT_al 4))) + 2)) p3) (Int32.toNatClampNeg ((88 + (4 * (fT_al 4))) + 3)) p4) 4 (((upd (upd (upd (upd fT_al (Int32.toNatClampNeg (88 + (4 * (fT_al 4)))) p1) (Int32.toNatClampNeg ((88 + (4 * (fT_al 4))) + 1)) p2) (Int32.toNatClampNeg ((88 + (4 * (fT_al 4))) + 2)) p3) (Int32.toNatClampNeg ((88 + (4 * (fT_al 4))) + 3)) p4) 4) + 1)) fT_rf) := hD
            refine lv_aload_n hx hb dX8_mark_125 rfl (lv_at hl 1 rfl) ?_
            refine gf_X8_7 (v := .ref AT_al) hx hb hts hown hK hN hP 0 rfl rfl dX8_mark_126 ?_
            refine lv_iconst (v := 4) hx hb dX8_mark_129 (by decide) ?_
            refine q_iald (j := 4) hx hb hK hP 1 rfl (q_inl (by decide)) (by decide) dX8_mark_130 ?_
            have hm := Option.some.inj hm
            subst hm
            exact q_iret (v := ((upd (upd (upd (upd (upd fT_al (Int32.toNatClampNeg (88 + (4 * (fT_al 4)))) p1) (Int32.toNatClampNeg ((88 + (4 * (fT_al 4))) + 1)) p2) (Int32.toNatClampNeg ((88 + (4 * (fT_al 4))) + 2)) p3) (Int32.toNatClampNeg ((88 + (4 * (fT_al 4))) + 3)) p4) 4 (((upd (upd (upd (upd fT_al (Int32.toNatClampNeg (88 + (4 * (fT_al 4)))) p1) (Int32.toNatClampNeg ((88 + (4 * (fT_al 4))) + 1)) p2) (Int32.toNatClampNeg ((88 + (4 * (fT_al 4))) + 2)) p3) (Int32.toNatClampNeg ((88 + (4 * (fT_al 4))) + 3)) p4) 4) + 1)) 4)) hx hb hr hlocks hP hS dX8_mark_131
          · have hm := it_s c_55 hm
            refine lv_aload_n hx hb dX8_mark_58 rfl (lv_at hl 0 rfl) ?_
            obtain ⟨r_59, hc_59, hm⟩ := ob_s hm
            refine q_ci (q_rv (rest := []) ⟨hx, hb, hml, hown, hts⟩ hK hN hP hD (c_X8_full l D cI cZ H.size AT AT_al AT_kp AT_ik AT_rf AT_hd AT_bs AT_se AT_bf AT_te AT_by AT_an AT_vs vT_ab vT_be vT_byl vT_tka vT_tkl vT_tkn vT_val fT_rf r_59 hc_59) mb_X8_full mv_X8_full wl_X8_79 [0, 2] rfl rfl rfl (Nat.le_of_ble_eq_true rfl) (Nat.le_of_ble_eq_true rfl) rfl hl.1 rfl (Nat.le_of_ble_eq_true rfl) ⟨Nat.le_refl 0, Nat.le_refl 0⟩ dX8_mark_59) hP hD hS hA [0, 2] rfl rfl (fun H locs hP hD hS => ?_)
            have hP : va_P D vwCl (wd_X8_mark cI cZ AT AT_al AT_kp AT_ik AT_rf AT_hd AT_bs AT_se AT_bf AT_te AT_by AT_an AT_vs vT_ab vT_be vT_byl vT_tka vT_tkl vT_tkn vT_val fT_al r_59.2) H := hP
            have hD : va_D A (wd_X8_mark cI cZ AT AT_al AT_kp AT_ik AT_rf AT_hd AT_bs AT_se AT_bf AT_te AT_by AT_an AT_vs vT_ab vT_be vT_byl vT_tka vT_tkl vT_tkn vT_val fT_al r_59.2) := hD
            have hm := Option.some.inj hm
            subst hm
            exact q_iret (v := r_59.1) hx hb hr hlocks hP hS dX8_mark_62
        · have hm := it_s c_37 hm
          refine lv_aload_n hx hb dX8_mark_40 rfl (lv_at hl 0 rfl) ?_
          refine lv_bipush (v := (-2)) hx hb dX8_mark_41 (by decide) ?_
          obtain ⟨r_43, hc_43, hm⟩ := ob_s hm
          refine q_ci (q_rv (rest := []) ⟨hx, hb, hml, hown, hts⟩ hK hN hP hD (c_X8_bad l D cI cZ H.size AT AT_al AT_kp AT_ik AT_rf AT_hd AT_bs AT_se AT_bf AT_te AT_by AT_an AT_vs vT_ab vT_be vT_byl vT_tka vT_tkl vT_tkn vT_val fT_rf (-2) r_43 hc_43) mb_X8_bad mv_X8_bad wl_X8_75 [0, 2] rfl rfl rfl (Nat.le_of_ble_eq_true rfl) (Nat.le_of_ble_eq_true rfl) rfl hl.1 rfl (Nat.le_of_ble_eq_true rfl) ⟨Nat.le_refl 0, Nat.le_refl 0⟩ dX8_mark_43) hP hD hS hA [0, 2] rfl rfl (fun H locs hP hD hS => ?_)
          have hP : va_P D vwCl (wd_X8_mark cI cZ AT AT_al AT_kp AT_ik AT_rf AT_hd AT_bs AT_se AT_bf AT_te AT_by AT_an AT_vs vT_ab vT_be vT_byl vT_tka vT_tkl vT_tkn vT_val fT_al r_43.2) H := hP
          have hD : va_D A (wd_X8_mark cI cZ AT AT_al AT_kp AT_ik AT_rf AT_hd AT_bs AT_se AT_bf AT_te AT_by AT_an AT_vs vT_ab vT_be vT_byl vT_tka vT_tkl vT_tkn vT_val fT_al r_43.2) := hD
          have hm := Option.some.inj hm
          subst hm
          exact q_iret (v := r_43.1) hx hb hr hlocks hP hS dX8_mark_46
theorem mb_X8_forget : q_mb yX8_forget cX8_forget 3 (some .int) 1 := ⟨wc_X8_forget, wn_X8, by decide, by decide, by decide +kernel⟩
theorem mv_X8_forget : q_mv yX8_forget 8 := ⟨wi_X8_forget, ws_X8_forget, _, rfl, rfl⟩
def wd_X8_forget (cI cZ : ClassId) (AT AT_al AT_kp AT_ik AT_rf AT_hd AT_bs AT_se AT_bf AT_te AT_by AT_an AT_vs : Nat) (vT_ab : Int64) (vT_be : Int64) (vT_byl : Int32) (vT_tka : Int32) (vT_tkl : Int32) (vT_tkn : Int32) (vT_val : Int32) (fT_al : Nat → Int32) (fT_rf : Nat → Int32) : va_W := [(AT, .inr (8, [.ref AT_al, .ref AT_kp, .ref AT_ik, .ref AT_rf, .long vT_ab, .long vT_be, .ref AT_hd, .ref AT_bs, .ref AT_se, .ref AT_bf, .ref AT_te, .ref AT_by, .int vT_byl, .int vT_tka, .int vT_tkl, .int vT_tkn, .int vT_val, .ref AT_an, .ref AT_vs])), (AT_al, .inl (cI, 312, .inl fT_al)), (AT_rf, .inl (cI, 3, .inl fT_rf))]
def fm_X8_forget (p1 : Int32) (fT_al : Nat → Int32) (fT_rf : Nat → Int32) : Option (Int32 × (Nat → Int32) × (Nat → Int32)) := Option.bind (fm_X8_in (Int32.toInt64 p1) 0 2) (fun r_6 => if r_6 = 0 then (Option.bind (fm_X8_bad (-2) fT_rf) (fun r_15 => some (r_15.1, fT_al, r_15.2))) else (gd (2 + p1) 312 (some ((fT_al (Int32.toNatClampNeg (2 + p1))), (upd fT_al (Int32.toNatClampNeg (2 + p1)) 0), fT_rf))))
set_option maxHeartbeats 4000000 in
set_option maxRecDepth 100000 in
theorem c_X8_forget (l : Launch) (D : va_G) (cI cZ : ClassId) (sz : Nat) (AT AT_al AT_kp AT_ik AT_rf AT_hd AT_bs AT_se AT_bf AT_te AT_by AT_an AT_vs : Nat) (vT_ab : Int64) (vT_be : Int64) (vT_byl : Int32) (vT_tka : Int32) (vT_tkl : Int32) (vT_tkn : Int32) (vT_val : Int32) (fT_al : Nat → Int32) (fT_rf : Nat → Int32) (p1 : Int32) (out : (Int32 × (Nat → Int32) × (Nat → Int32))) (hm : fm_X8_forget p1 fT_al fT_rf = some out) : Met l yX8_forget (Cond.code yX8_forget cX8_forget 3 (some .int) :: bg) { frames := 1, cells := 0, slots := 0, locals := 25 } (va_Pc [.ref AT, .int p1] (q_pre D cI cZ sz (wd_X8_forget cI cZ AT AT_al AT_kp AT_ik AT_rf AT_hd AT_bs AT_se AT_bf AT_te AT_by AT_an AT_vs vT_ab vT_be vT_byl vT_tka vT_tkl vT_tkn vT_val fT_al fT_rf))) (q_Qi D (wd_X8_forget cI cZ AT AT_al AT_kp AT_ik AT_rf AT_hd AT_bs AT_se AT_bf AT_te AT_by AT_an AT_vs vT_ab vT_be vT_byl vT_tka vT_tkl vT_tkn vT_val out.2.1 out.2.2) out.1 (va_A (wd_X8_forget cI cZ AT AT_al AT_kp AT_ik AT_rf AT_hd AT_bs AT_se AT_bf AT_te AT_by AT_an AT_vs vT_ab vT_be vT_byl vT_tka vT_tkl vT_tkn vT_val fT_al fT_rf) sz)) 0 0 (va_A (wd_X8_forget cI cZ AT AT_al AT_kp AT_ik AT_rf AT_hd AT_bs AT_se AT_bf AT_te AT_by AT_an AT_vs vT_ab vT_be vT_byl vT_tka vT_tkl vT_tkn vT_val fT_al fT_rf) sz) := by
  refine q_met (fun A => q_Qi D (wd_X8_forget cI cZ AT AT_al AT_kp AT_ik AT_rf AT_hd AT_bs AT_se AT_bf AT_te AT_by AT_an AT_vs vT_ab vT_be vT_byl vT_tka vT_tkl vT_tkn vT_val out.2.1 out.2.2) out.1 A) (by decide) (Nat.le_of_ble_eq_true rfl) ?_
  intro p e s m below meth c ls A hx hb hr hml hown hts hlocks _ hA hS hP hD hK hN hl
  have hown : s.vm.findClass RX8 = some m.cls := hown
  have hl : lv_has ls 3 [(0, .ref AT), (1, .int p1)] := hl
  unfold fm_X8_forget at hm
  refine q_gen hS hP ?_
  intro H locs hP hS
  refine lv_iload_n hx hb dX8_forget_0 rfl (lv_at hl 1 rfl) ?_
  refine lv_i2l (v := (Int32.toInt64 p1)) hx hb dX8_forget_1 rfl ?_
  refine lv_lconst (v := 0) hx hb dX8_forget_2 (by decide) ?_
  refine lv_ldc2 (v := 2) hx hb hown (hts _ wv_X8_166) dX8_forget_3 ?_
  obtain ⟨r_6, hc_6, hm⟩ := ob_s hm
  refine q_ci (q_rs (rest := []) ⟨hx, hb, hml, hown, hts⟩ hK hN hP hD (c_X8_in l D cI cZ H.size (Int32.toInt64 p1) 0 2 r_6 hc_6) mb_X8_in wt_X8_in wl_X8_59 [] rfl rfl (Nat.le_of_ble_eq_true rfl) (Nat.le_of_ble_eq_true rfl) rfl hl.1 rfl (Nat.le_of_ble_eq_true rfl) ⟨Nat.le_refl 0, Nat.le_refl 0⟩ dX8_forget_6) hP hD hS hA [] rfl rfl (fun H locs hP hD hS => ?_)
  have hP : va_P D vwCl (wd_X8_forget cI cZ AT AT_al AT_kp AT_ik AT_rf AT_hd AT_bs AT_se AT_bf AT_te AT_by AT_an AT_vs vT_ab vT_be vT_byl vT_tka vT_tkl vT_tkn vT_val fT_al fT_rf) H := hP
  have hD : va_D A (wd_X8_forget cI cZ AT AT_al AT_kp AT_ik AT_rf AT_hd AT_bs AT_se AT_bf AT_te AT_by AT_an AT_vs vT_ab vT_be vT_byl vT_tka vT_tkl vT_tkn vT_val fT_al fT_rf) := hD
  refine lv_if_ne (tgt := 19) hx hb dX8_forget_9 (by decide) (fun c_9 => ?_) (fun c_9 => ?_)
  · have hm := it_n c_9 hm
    refine lv_aload_n hx hb dX8_forget_19 rfl (lv_at hl 0 rfl) ?_
    refine gf_X8_7 (v := .ref AT_al) hx hb hts hown hK hN hP 0 rfl rfl dX8_forget_20 ?_
    refine lv_iconst (v := 2) hx hb dX8_forget_23 (by decide) ?_
    refine lv_iload_n hx hb dX8_forget_24 rfl (lv_at hl 1 rfl) ?_
    refine lv_iadd hx hb dX8_forget_25 ?_
    obtain ⟨hi_26, hm⟩ := gd_s hm
    refine q_iald (j := (Int32.toNatClampNeg (2 + p1))) hx hb hK hP 1 rfl hi_26 rfl dX8_forget_26 ?_
    refine lv_istore_n (lv' := [(2, .int (fT_al (Int32.toNatClampNeg (2 + p1)))), (0, .ref AT), (1, .int p1)]) hx hb dX8_forget_27 rfl hl (by decide) rfl (fun ls hl => ?_)
    refine lv_aload_n hx hb dX8_forget_28 rfl (lv_at hl 1 rfl) ?_
    refine gf_X8_7 (v := .ref AT_al) hx hb hts hown hK hN hP 0 rfl rfl dX8_forget_29 ?_
    refine lv_iconst (v := 2) hx hb dX8_forget_32 (by decide) ?_
    refine lv_iload_n hx hb dX8_forget_33 rfl (lv_at hl 2 rfl) ?_
    refine lv_iadd hx hb dX8_forget_34 ?_
    refine lv_iconst (v := 0) hx hb dX8_forget_35 (by decide) ?_
    refine q_iast (j := (Int32.toNatClampNeg (2 + p1))) hx hb hK hP hD hS 1 rfl hi_26 rfl dX8_forget_36 (fun H locs hP hD hS => ?_)
    have hP : va_P D vwCl (wd_X8_forget cI cZ AT AT_al AT_kp AT_ik AT_rf AT_hd AT_bs AT_se AT_bf AT_te AT_by AT_an AT_vs vT_ab vT_be vT_byl vT_tka vT_tkl vT_tkn vT_val (upd fT_al (Int32.toNatClampNeg (2 + p1)) 0) fT_rf) H := hP
    have hD : va_D A (wd_X8_forget cI cZ AT AT_al AT_kp AT_ik AT_rf AT_hd AT_bs AT_se AT_bf AT_te AT_by AT_an AT_vs vT_ab vT_be vT_byl vT_tka vT_tkl vT_tkn vT_val (upd fT_al (Int32.toNatClampNeg (2 + p1)) 0) fT_rf) := hD
    refine lv_iload_n hx hb dX8_forget_37 rfl (lv_at hl 0 rfl) ?_
    have hm := Option.some.inj hm
    subst hm
    exact q_iret (v := (fT_al (Int32.toNatClampNeg (2 + p1)))) hx hb hr hlocks hP hS dX8_forget_38
  · have hm := it_s c_9 hm
    refine lv_aload_n hx hb dX8_forget_12 rfl (lv_at hl 0 rfl) ?_
    refine lv_bipush (v := (-2)) hx hb dX8_forget_13 (by decide) ?_
    obtain ⟨r_15, hc_15, hm⟩ := ob_s hm
    refine q_ci (q_rv (rest := []) ⟨hx, hb, hml, hown, hts⟩ hK hN hP hD (c_X8_bad l D cI cZ H.size AT AT_al AT_kp AT_ik AT_rf AT_hd AT_bs AT_se AT_bf AT_te AT_by AT_an AT_vs vT_ab vT_be vT_byl vT_tka vT_tkl vT_tkn vT_val fT_rf (-2) r_15 hc_15) mb_X8_bad mv_X8_bad wl_X8_75 [0, 2] rfl rfl rfl (Nat.le_of_ble_eq_true rfl) (Nat.le_of_ble_eq_true rfl) rfl hl.1 rfl (Nat.le_of_ble_eq_true rfl) ⟨Nat.le_refl 0, Nat.le_refl 0⟩ dX8_forget_15) hP hD hS hA [0, 2] rfl rfl (fun H locs hP hD hS => ?_)
    have hP : va_P D vwCl (wd_X8_forget cI cZ AT AT_al AT_kp AT_ik AT_rf AT_hd AT_bs AT_se AT_bf AT_te AT_by AT_an AT_vs vT_ab vT_be vT_byl vT_tka vT_tkl vT_tkn vT_val fT_al r_15.2) H := hP
    have hD : va_D A (wd_X8_forget cI cZ AT AT_al AT_kp AT_ik AT_rf AT_hd AT_bs AT_se AT_bf AT_te AT_by AT_an AT_vs vT_ab vT_be vT_byl vT_tka vT_tkl vT_tkn vT_val fT_al r_15.2) := hD
    have hm := Option.some.inj hm
    subst hm
    exact q_iret (v := r_15.1) hx hb hr hlocks hP hS dX8_forget_18
theorem mb_X8_kindsBy : q_mb yX8_kindsBy cX8_kindsBy 11 (some .int) 4 := ⟨wc_X8_kindsBy, wn_X8, by decide, by decide, by decide +kernel⟩
theorem mv_X8_kindsBy : q_mv yX8_kindsBy 8 := ⟨wi_X8_kindsBy, ws_X8_kindsBy, _, rfl, rfl⟩
def wd_X8_kindsBy (cI cZ : ClassId) (AT AT_al AT_kp AT_ik AT_rf AT_hd AT_bs AT_se AT_bf AT_te AT_by AT_an AT_vs : Nat) (vT_ab : Int64) (vT_be : Int64) (vT_byl : Int32) (vT_tka : Int32) (vT_tkl : Int32) (vT_tkn : Int32) (vT_val : Int32) (fT_al : Nat → Int32) : va_W := [(AT, .inr (8, [.ref AT_al, .ref AT_kp, .ref AT_ik, .ref AT_rf, .long vT_ab, .long vT_be, .ref AT_hd, .ref AT_bs, .ref AT_se, .ref AT_bf, .ref AT_te, .ref AT_by, .int vT_byl, .int vT_tka, .int vT_tkl, .int vT_tkn, .int vT_val, .ref AT_an, .ref AT_vs])), (AT_al, .inl (cI, 312, .inl fT_al))]
def fL_X8_kindsBy_19 (p1 : Int32) (p2 : Int32) (p3 : Int32) (p4 : Int32) (fT_al : Nat → Int32) (k_6 : Int32 → Int32 → Option (Int32)) : Nat → Int32 → Int32 → Int32 → Int32 → Option (Int32)
  | 0, _, _, _, _ => none
  | fu + 1, x8, x7, x6, x5 => if p3 ≤ x8 then (if x7 = 0 then (k_6 (x6 + 1) (x5 ||| 0)) else (k_6 (x6 + 1) (x5 ||| (1 <<< (x6 &&& 31))))) else (if p4 = 0 then (gd ((p2 + (4 * x8)) + 1) 312 (gd ((p2 + (4 * x8)) + 2) 312 (Option.bind (fm_X8_believesAs x6 (fT_al (Int32.toNatClampNeg ((p2 + (4 * x8)) + 1))) (fT_al (Int32.toNatClampNeg ((p2 + (4 * x8)) + 2)))) (fun r_84 => if x7 = 0 then (fL_X8_kindsBy_19 p1 p2 p3 p4 fT_al k_6 fu (x8 + 1) 0 x6 x5) else (gd (p2 + (4 * x8)) 312 (if (fT_al (Int32.toNatClampNeg (p2 + (4 * x8)))) = p1 then (gd ((p2 + (4 * x8)) + 3) 312 (if r_84 = (fT_al (Int32.toNatClampNeg ((p2 + (4 * x8)) + 3))) then (fL_X8_kindsBy_19 p1 p2 p3 p4 fT_al k_6 fu (x8 + 1) 1 x6 x5) else (fL_X8_kindsBy_19 p1 p2 p3 p4 fT_al k_6 fu (x8 + 1) 0 x6 x5))) else (fL_X8_kindsBy_19 p1 p2 p3 p4 fT_al k_6 fu (x8 + 1) 1 x6 x5))))))) else (gd ((p2 + (4 * x8)) + 1) 312 (gd ((p2 + (4 * x8)) + 2) 312 (Option.bind (fm_X8_tellsAs x6 (fT_al (Int32.toNatClampNeg ((p2 + (4 * x8)) + 1))) (fT_al (Int32.toNatClampNeg ((p2 + (4 * x8)) + 2)))) (fun r_58 => if x7 = 0 then (fL_X8_kindsBy_19 p1 p2 p3 p4 fT_al k_6 fu (x8 + 1) 0 x6 x5) else (gd (p2 + (4 * x8)) 312 (if (fT_al (Int32.toNatClampNeg (p2 + (4 * x8)))) = p1 then (gd ((p2 + (4 * x8)) + 3) 312 (if r_58 = (fT_al (Int32.toNatClampNeg ((p2 + (4 * x8)) + 3))) then (fL_X8_kindsBy_19 p1 p2 p3 p4 fT_al k_6 fu (x8 + 1) 1 x6 x5) else (fL_X8_kindsBy_19 p1 p2 p3 p4 fT_al k_6 fu (x8 + 1) 0 x6 x5))) else (fL_X8_kindsBy_19 p1 p2 p3 p4 fT_al k_6 fu (x8 + 1) 1 x6 x5))))))))
def fL_X8_kindsBy_6 (p1 : Int32) (p2 : Int32) (p3 : Int32) (p4 : Int32) (fT_al : Nat → Int32) : Nat → Int32 → Int32 → Option (Int32)
  | 0, _, _ => none
  | fu + 1, x6, x5 => if 6 ≤ x6 then (some (x5)) else (fL_X8_kindsBy_19 p1 p2 p3 p4 fT_al (fun x6 x5 => fL_X8_kindsBy_6 p1 p2 p3 p4 fT_al fu x6 x5) FU 0 1 x6 x5)
def fm_X8_kindsBy (p1 : Int32) (p2 : Int32) (p3 : Int32) (p4 : Int32) (fT_al : Nat → Int32) : Option (Int32) := fL_X8_kindsBy_6 p1 p2 p3 p4 fT_al FU 0 0
set_option maxHeartbeats 4000000 in
set_option maxRecDepth 100000 in
theorem c_X8_kindsBy (l : Launch) (D : va_G) (cI cZ : ClassId) (sz : Nat) (AT AT_al AT_kp AT_ik AT_rf AT_hd AT_bs AT_se AT_bf AT_te AT_by AT_an AT_vs : Nat) (vT_ab : Int64) (vT_be : Int64) (vT_byl : Int32) (vT_tka : Int32) (vT_tkl : Int32) (vT_tkn : Int32) (vT_val : Int32) (fT_al : Nat → Int32) (p1 : Int32) (p2 : Int32) (p3 : Int32) (p4 : Int32) (out : (Int32)) (hm : fm_X8_kindsBy p1 p2 p3 p4 fT_al = some out) : Met l yX8_kindsBy (Cond.code yX8_kindsBy cX8_kindsBy 11 (some .int) :: bg) { frames := 1, cells := 0, slots := 0, locals := 24 } (va_Pc [.ref AT, .int p1, .int p2, .int p3, .int p4] (q_pre D cI cZ sz (wd_X8_kindsBy cI cZ AT AT_al AT_kp AT_ik AT_rf AT_hd AT_bs AT_se AT_bf AT_te AT_by AT_an AT_vs vT_ab vT_be vT_byl vT_tka vT_tkl vT_tkn vT_val fT_al))) (q_Qi D (wd_X8_kindsBy cI cZ AT AT_al AT_kp AT_ik AT_rf AT_hd AT_bs AT_se AT_bf AT_te AT_by AT_an AT_vs vT_ab vT_be vT_byl vT_tka vT_tkl vT_tkn vT_val fT_al) out (va_A (wd_X8_kindsBy cI cZ AT AT_al AT_kp AT_ik AT_rf AT_hd AT_bs AT_se AT_bf AT_te AT_by AT_an AT_vs vT_ab vT_be vT_byl vT_tka vT_tkl vT_tkn vT_val fT_al) sz)) 0 0 (va_A (wd_X8_kindsBy cI cZ AT AT_al AT_kp AT_ik AT_rf AT_hd AT_bs AT_se AT_bf AT_te AT_by AT_an AT_vs vT_ab vT_be vT_byl vT_tka vT_tkl vT_tkn vT_val fT_al) sz) := by
  refine q_met (fun A => q_Qi D (wd_X8_kindsBy cI cZ AT AT_al AT_kp AT_ik AT_rf AT_hd AT_bs AT_se AT_bf AT_te AT_by AT_an AT_vs vT_ab vT_be vT_byl vT_tka vT_tkl vT_tkn vT_val fT_al) out A) (by decide) (Nat.le_of_ble_eq_true rfl) ?_
  intro p e s m below meth c ls A hx hb hr hml hown hts hlocks _ hA hS hP hD hK hN hl
  have hown : s.vm.findClass RX8 = some m.cls := hown
  have hl : lv_has ls 11 [(0, .ref AT), (1, .int p1), (2, .int p2), (3, .int p3), (4, .int p4)] := hl
  have hL_6 : ∀ (fu_6 : Nat) (x6 : Int32) (x5 : Int32) (H : Heap) (locs : List Loc) (ls : Array Slot), fL_X8_kindsBy_6 p1 p2 p3 p4 fT_al fu_6 x6 x5 = some out → va_P D vwCl (wd_X8_kindsBy cI cZ AT AT_al AT_kp AT_ik AT_rf AT_hd AT_bs AT_se AT_bf AT_te AT_by AT_an AT_vs vT_ab vT_be vT_byl vT_tka vT_tkl vT_tkn vT_val fT_al) H → va_D A (wd_X8_kindsBy cI cZ AT AT_al AT_kp AT_ik AT_rf AT_hd AT_bs AT_se AT_bf AT_te AT_by AT_an AT_vs vT_ab vT_be vT_byl vT_tka vT_tkl vT_tkn vT_val fT_al) → va_S A s.heap H locs → lv_has ls 11 [(6, .int x6), (5, .int x5), (0, .ref AT), (1, .int p1), (2, .int p2), (3, .int p3), (4, .int p4)] → W p l e { frames := 1, cells := 0, slots := 0, locals := 24 } s m ([.ref AT, .int p1, .int p2, .int p3, .int p4] : List Value).toArray below meth c H locs 0 0 (MQ below (q_Qi D (wd_X8_kindsBy cI cZ AT AT_al AT_kp AT_ik AT_rf AT_hd AT_bs AT_se AT_bf AT_te AT_by AT_an AT_vs vT_ab vT_be vT_byl vT_tka vT_tkl vT_tkn vT_val fT_al) out A) ([.ref AT, .int p1, .int p2, .int p3, .int p4] : List Value).toArray s 0 0 A) (F0 m 6 ls []) := by
    intro fu_6
    induction fu_6 with
    | zero => intro x6 x5 H locs ls hm hP hD hS hl; exact absurd (show (none : Option (Int32)) = some out from hm) (fun h => nomatch h)
    | succ fu_6 ih_6 =>
      have hL_19 : ∀ (fu_19 : Nat) (x8 : Int32) (x7 : Int32) (x6 : Int32) (x5 : Int32) (H : Heap) (locs : List Loc) (ls : Array Slot), fL_X8_kindsBy_19 p1 p2 p3 p4 fT_al (fun x6 x5 => fL_X8_kindsBy_6 p1 p2 p3 p4 fT_al fu_6 x6 x5) fu_19 x8 x7 x6 x5 = some out → va_P D vwCl (wd_X8_kindsBy cI cZ AT AT_al AT_kp AT_ik AT_rf AT_hd AT_bs AT_se AT_bf AT_te AT_by AT_an AT_vs vT_ab vT_be vT_byl vT_tka vT_tkl vT_tkn vT_val fT_al) H → va_D A (wd_X8_kindsBy cI cZ AT AT_al AT_kp AT_ik AT_rf AT_hd AT_bs AT_se AT_bf AT_te AT_by AT_an AT_vs vT_ab vT_be vT_byl vT_tka vT_tkl vT_tkn vT_val fT_al) → va_S A s.heap H locs → lv_has ls 11 [(8, .int x8), (7, .int x7), (6, .int x6), (5, .int x5), (0, .ref AT), (1, .int p1), (2, .int p2), (3, .int p3), (4, .int p4)] → W p l e { frames := 1, cells := 0, slots := 0, locals := 24 } s m ([.ref AT, .int p1, .int p2, .int p3, .int p4] : List Value).toArray below meth c H locs 0 0 (MQ below (q_Qi D (wd_X8_kindsBy cI cZ AT AT_al AT_kp AT_ik AT_rf AT_hd AT_bs AT_se AT_bf AT_te AT_by AT_an AT_vs vT_ab vT_be vT_byl vT_tka vT_tkl vT_tkn vT_val fT_al) out A) ([.ref AT, .int p1, .int p2, .int p3, .int p4] : List Value).toArray s 0 0 A) (F0 m 19 ls []) := by
        intro fu_19
        induction fu_19 with
        | zero => intro x8 x7 x6 x5 H locs ls hm hP hD hS hl; exact absurd (show (none : Option (Int32)) = some out from hm) (fun h => nomatch h)
        | succ fu_19 ih_19 =>
          intro x8 x7 x6 x5 H locs ls hm hP hD hS hl
          rw [fL_X8_kindsBy_19] at hm
          refine lv_iload hx hb dX8_kindsBy_19 (lv_at hl 0 rfl) ?_
          refine lv_iload_n hx hb dX8_kindsBy_21 rfl (lv_at hl 7 rfl) ?_
          refine lv_icmp_ge (tgt := 132) hx hb dX8_kindsBy_22 (by decide) (fun c_22 => ?_) (fun c_22 => ?_)
          · have hm := it_s c_22 hm
            refine lv_iload hx hb dX8_kindsBy_132 (lv_at hl 3 rfl) ?_
            refine lv_iload hx hb dX8_kindsBy_134 (lv_at hl 1 rfl) ?_
            refine lv_if_eq (tgt := 146) hx hb dX8_kindsBy_136 (by decide) (fun c_136 => ?_) (fun c_136 => ?_)
            · have hm := it_s c_136 hm
              refine lv_iconst (v := 0) hx hb dX8_kindsBy_146 (by decide) ?_
              refine lv_ior hx hb dX8_kindsBy_147 ?_
              refine lv_istore (lv' := [(5, .int (x5 ||| 0)), (8, .int x8), (7, .int x7), (6, .int x6), (0, .ref AT), (1, .int p1), (2, .int p2), (3, .int p3), (4, .int p4)]) hx hb dX8_kindsBy_148 hl (by decide) rfl (fun ls hl => ?_)
              refine lv_iinc (v := (x6 + 1)) (lv' := [(6, .int (x6 + 1)), (5, .int (x5 ||| 0)), (8, .int x8), (7, .int x7), (0, .ref AT), (1, .int p1), (2, .int p2), (3, .int p3), (4, .int p4)]) hx hb dX8_kindsBy_150 hl (k := 3) rfl rfl (by decide) rfl (fun ls hl => ?_)
              refine lv_goto (tgt := 6) hx hb dX8_kindsBy_153 (by decide) ?_
              exact ih_6 (x6 + 1) (x5 ||| 0) H locs ls hm hP hD hS (lv_sub hl [0, 1, 4, 5, 6, 7, 8] rfl)
            · have hm := it_n c_136 hm
              refine lv_iconst (v := 1) hx hb dX8_kindsBy_139 (by decide) ?_
              refine lv_iload hx hb dX8_kindsBy_140 (lv_at hl 2 rfl) ?_
              refine lv_ishl hx hb dX8_kindsBy_142 ?_
              refine lv_goto (tgt := 147) hx hb dX8_kindsBy_143 (by decide) ?_
              refine lv_ior hx hb dX8_kindsBy_147 ?_
              refine lv_istore (lv' := [(5, .int (x5 ||| (1 <<< (x6 &&& 31)))), (8, .int x8), (7, .int x7), (6, .int x6), (0, .ref AT), (1, .int p1), (2, .int p2), (3, .int p3), (4, .int p4)]) hx hb dX8_kindsBy_148 hl (by decide) rfl (fun ls hl => ?_)
              refine lv_iinc (v := (x6 + 1)) (lv' := [(6, .int (x6 + 1)), (5, .int (x5 ||| (1 <<< (x6 &&& 31)))), (8, .int x8), (7, .int x7), (0, .ref AT), (1, .int p1), (2, .int p2), (3, .int p3), (4, .int p4)]) hx hb dX8_kindsBy_150 hl (k := 3) rfl rfl (by decide) rfl (fun ls hl => ?_)
              refine lv_goto (tgt := 6) hx hb dX8_kindsBy_153 (by decide) ?_
              exact ih_6 (x6 + 1) (x5 ||| (1 <<< (x6 &&& 31))) H locs ls hm hP hD hS (lv_sub hl [0, 1, 4, 5, 6, 7, 8] rfl)
          · have hm := it_n c_22 hm
            refine lv_iload_n hx hb dX8_kindsBy_25 rfl (lv_at hl 6 rfl) ?_
            refine lv_iconst (v := 4) hx hb dX8_kindsBy_26 (by decide) ?_
            refine lv_iload hx hb dX8_kindsBy_27 (lv_at hl 0 rfl) ?_
            refine lv_imul hx hb dX8_kindsBy_29 ?_
            refine lv_iadd hx hb dX8_kindsBy_30 ?_
            refine lv_istore (lv' := [(9, .int (p2 + (4 * x8))), (8, .int x8), (7, .int x7), (6, .int x6), (5, .int x5), (0, .ref AT), (1, .int p1), (2, .int p2), (3, .int p3), (4, .int p4)]) hx hb dX8_kindsBy_31 hl (by decide) rfl (fun ls hl => ?_)
            refine lv_iload hx hb dX8_kindsBy_33 (lv_at hl 9 rfl) ?_
            refine lv_if_eq (tgt := 64) hx hb dX8_kindsBy_35 (by decide) (fun c_35 => ?_) (fun c_35 => ?_)
            · have hm := it_s c_35 hm
              refine lv_iload hx hb dX8_kindsBy_64 (lv_at hl 3 rfl) ?_
              refine lv_aload_n hx hb dX8_kindsBy_66 rfl (lv_at hl 5 rfl) ?_
              refine gf_X8_7 (v := .ref AT_al) hx hb hts hown hK hN hP 0 rfl rfl dX8_kindsBy_67 ?_
              refine lv_iload hx hb dX8_kindsBy_70 (lv_at hl 0 rfl) ?_
              refine lv_iconst (v := 1) hx hb dX8_kindsBy_72 (by decide) ?_
              refine lv_iadd hx hb dX8_kindsBy_73 ?_
              obtain ⟨hi_74, hm⟩ := gd_s hm
              refine q_iald (j := (Int32.toNatClampNeg ((p2 + (4 * x8)) + 1))) hx hb hK hP 1 rfl hi_74 rfl dX8_kindsBy_74 ?_
              refine lv_aload_n hx hb dX8_kindsBy_75 rfl (lv_at hl 5 rfl) ?_
              refine gf_X8_7 (v := .ref AT_al) hx hb hts hown hK hN hP 0 rfl rfl dX8_kindsBy_76 ?_
              refine lv_iload hx hb dX8_kindsBy_79 (lv_at hl 0 rfl) ?_
              refine lv_iconst (v := 2) hx hb dX8_kindsBy_81 (by decide) ?_
              refine lv_iadd hx hb dX8_kindsBy_82 ?_
              obtain ⟨hi_83, hm⟩ := gd_s hm
              refine q_iald (j := (Int32.toNatClampNeg ((p2 + (4 * x8)) + 2))) hx hb hK hP 1 rfl hi_83 rfl dX8_kindsBy_83 ?_
              obtain ⟨r_84, hc_84, hm⟩ := ob_s hm
              refine q_ci (q_rs (rest := []) ⟨hx, hb, hml, hown, hts⟩ hK hN hP hD (c_X8_believesAs l D cI cZ H.size x6 (fT_al (Int32.toNatClampNeg ((p2 + (4 * x8)) + 1))) (fT_al (Int32.toNatClampNeg ((p2 + (4 * x8)) + 2))) r_84 hc_84) mb_X8_believesAs wt_X8_believesAs wl_X8_100 [] rfl rfl (Nat.le_of_ble_eq_true rfl) (Nat.le_of_ble_eq_true rfl) rfl hl.1 rfl (Nat.le_of_ble_eq_true rfl) ⟨Nat.le_refl 0, Nat.le_refl 0⟩ dX8_kindsBy_84) hP hD hS hA [] rfl rfl (fun H locs hP hD hS => ?_)
              have hP : va_P D vwCl (wd_X8_kindsBy cI cZ AT AT_al AT_kp AT_ik AT_rf AT_hd AT_bs AT_se AT_bf AT_te AT_by AT_an AT_vs vT_ab vT_be vT_byl vT_tka vT_tkl vT_tkn vT_val fT_al) H := hP
              have hD : va_D A (wd_X8_kindsBy cI cZ AT AT_al AT_kp AT_ik AT_rf AT_hd AT_bs AT_se AT_bf AT_te AT_by AT_an AT_vs vT_ab vT_be vT_byl vT_tka vT_tkl vT_tkn vT_val fT_al) := hD
              refine lv_istore (lv' := [(10, .int r_84), (9, .int (p2 + (4 * x8))), (8, .int x8), (7, .int x7), (6, .int x6), (5, .int x5), (0, .ref AT), (1, .int p1), (2, .int p2), (3, .int p3), (4, .int p4)]) hx hb dX8_kindsBy_87 hl (by decide) rfl (fun ls hl => ?_)
              refine lv_iload hx hb dX8_kindsBy_89 (lv_at hl 3 rfl) ?_
              refine lv_if_eq (tgt := 123) hx hb dX8_kindsBy_91 (by decide) (fun c_91 => ?_) (fun c_91 => ?_)
              · have hm := it_s c_91 hm
                refine lv_iconst (v := 0) hx hb dX8_kindsBy_123 (by decide) ?_
                refine lv_istore (lv' := [(7, .int 0), (10, .int r_84), (9, .int (p2 + (4 * x8))), (8, .int x8), (6, .int x6), (5, .int x5), (0, .ref AT), (1, .int p1), (2, .int p2), (3, .int p3), (4, .int p4)]) hx hb dX8_kindsBy_124 hl (by decide) rfl (fun ls hl => ?_)
                refine lv_iinc (v := (x8 + 1)) (lv' := [(8, .int (x8 + 1)), (7, .int 0), (10, .int r_84), (9, .int (p2 + (4 * x8))), (6, .int x6), (5, .int x5), (0, .ref AT), (1, .int p1), (2, .int p2), (3, .int p3), (4, .int p4)]) hx hb dX8_kindsBy_126 hl (k := 3) rfl rfl (by decide) rfl (fun ls hl => ?_)
                refine lv_goto (tgt := 19) hx hb dX8_kindsBy_129 (by decide) ?_
                exact ih_19 (x8 + 1) 0 x6 x5 H locs ls hm hP hD hS (lv_sub hl [0, 1, 4, 5, 6, 7, 8, 9, 10] rfl)
              · have hm := it_n c_91 hm
                refine lv_aload_n hx hb dX8_kindsBy_94 rfl (lv_at hl 6 rfl) ?_
                refine gf_X8_7 (v := .ref AT_al) hx hb hts hown hK hN hP 0 rfl rfl dX8_kindsBy_95 ?_
                refine lv_iload hx hb dX8_kindsBy_98 (lv_at hl 1 rfl) ?_
                obtain ⟨hi_100, hm⟩ := gd_s hm
                refine q_iald (j := (Int32.toNatClampNeg (p2 + (4 * x8)))) hx hb hK hP 1 rfl hi_100 rfl dX8_kindsBy_100 ?_
                refine lv_iload_n hx hb dX8_kindsBy_101 rfl (lv_at hl 7 rfl) ?_
                refine lv_icmp_ne (tgt := 119) hx hb dX8_kindsBy_102 (by decide) (fun c_102 => ?_) (fun c_102 => ?_)
                · have hm := it_n c_102 hm
                  refine lv_iconst (v := 1) hx hb dX8_kindsBy_119 (by decide) ?_
                  refine lv_goto (tgt := 124) hx hb dX8_kindsBy_120 (by decide) ?_
                  refine lv_istore (lv' := [(7, .int 1), (10, .int r_84), (9, .int (p2 + (4 * x8))), (8, .int x8), (6, .int x6), (5, .int x5), (0, .ref AT), (1, .int p1), (2, .int p2), (3, .int p3), (4, .int p4)]) hx hb dX8_kindsBy_124 hl (by decide) rfl (fun ls hl => ?_)
                  refine lv_iinc (v := (x8 + 1)) (lv' := [(8, .int (x8 + 1)), (7, .int 1), (10, .int r_84), (9, .int (p2 + (4 * x8))), (6, .int x6), (5, .int x5), (0, .ref AT), (1, .int p1), (2, .int p2), (3, .int p3), (4, .int p4)]) hx hb dX8_kindsBy_126 hl (k := 3) rfl rfl (by decide) rfl (fun ls hl => ?_)
                  refine lv_goto (tgt := 19) hx hb dX8_kindsBy_129 (by decide) ?_
                  exact ih_19 (x8 + 1) 1 x6 x5 H locs ls hm hP hD hS (lv_sub hl [0, 1, 4, 5, 6, 7, 8, 9, 10] rfl)
                · have hm := it_s c_102 hm
                  refine lv_iload hx hb dX8_kindsBy_105 (lv_at hl 0 rfl) ?_
                  refine lv_aload_n hx hb dX8_kindsBy_107 rfl (lv_at hl 6 rfl) ?_
                  refine gf_X8_7 (v := .ref AT_al) hx hb hts hown hK hN hP 0 rfl rfl dX8_kindsBy_108 ?_
                  refine lv_iload hx hb dX8_kindsBy_111 (lv_at hl 1 rfl) ?_
                  refine lv_iconst (v := 3) hx hb dX8_kindsBy_113 (by decide) ?_
                  refine lv_iadd hx hb dX8_kindsBy_114 ?_
                  obtain ⟨hi_115, hm⟩ := gd_s hm
                  refine q_iald (j := (Int32.toNatClampNeg ((p2 + (4 * x8)) + 3))) hx hb hK hP 1 rfl hi_115 rfl dX8_kindsBy_115 ?_
                  refine lv_icmp_ne (tgt := 123) hx hb dX8_kindsBy_116 (by decide) (fun c_116 => ?_) (fun c_116 => ?_)
                  · have hm := it_n c_116 hm
                    refine lv_iconst (v := 0) hx hb dX8_kindsBy_123 (by decide) ?_
                    refine lv_istore (lv' := [(7, .int 0), (10, .int r_84), (9, .int (p2 + (4 * x8))), (8, .int x8), (6, .int x6), (5, .int x5), (0, .ref AT), (1, .int p1), (2, .int p2), (3, .int p3), (4, .int p4)]) hx hb dX8_kindsBy_124 hl (by decide) rfl (fun ls hl => ?_)
                    refine lv_iinc (v := (x8 + 1)) (lv' := [(8, .int (x8 + 1)), (7, .int 0), (10, .int r_84), (9, .int (p2 + (4 * x8))), (6, .int x6), (5, .int x5), (0, .ref AT), (1, .int p1), (2, .int p2), (3, .int p3), (4, .int p4)]) hx hb dX8_kindsBy_126 hl (k := 3) rfl rfl (by decide) rfl (fun ls hl => ?_)
                    refine lv_goto (tgt := 19) hx hb dX8_kindsBy_129 (by decide) ?_
                    exact ih_19 (x8 + 1) 0 x6 x5 H locs ls hm hP hD hS (lv_sub hl [0, 1, 4, 5, 6, 7, 8, 9, 10] rfl)
                  · have hm := it_s c_116 hm
                    refine lv_iconst (v := 1) hx hb dX8_kindsBy_119 (by decide) ?_
                    refine lv_goto (tgt := 124) hx hb dX8_kindsBy_120 (by decide) ?_
                    refine lv_istore (lv' := [(7, .int 1), (10, .int r_84), (9, .int (p2 + (4 * x8))), (8, .int x8), (6, .int x6), (5, .int x5), (0, .ref AT), (1, .int p1), (2, .int p2), (3, .int p3), (4, .int p4)]) hx hb dX8_kindsBy_124 hl (by decide) rfl (fun ls hl => ?_)
                    refine lv_iinc (v := (x8 + 1)) (lv' := [(8, .int (x8 + 1)), (7, .int 1), (10, .int r_84), (9, .int (p2 + (4 * x8))), (6, .int x6), (5, .int x5), (0, .ref AT), (1, .int p1), (2, .int p2), (3, .int p3), (4, .int p4)]) hx hb dX8_kindsBy_126 hl (k := 3) rfl rfl (by decide) rfl (fun ls hl => ?_)
                    refine lv_goto (tgt := 19) hx hb dX8_kindsBy_129 (by decide) ?_
                    exact ih_19 (x8 + 1) 1 x6 x5 H locs ls hm hP hD hS (lv_sub hl [0, 1, 4, 5, 6, 7, 8, 9, 10] rfl)
            · have hm := it_n c_35 hm
              refine lv_iload hx hb dX8_kindsBy_38 (lv_at hl 3 rfl) ?_
              refine lv_aload_n hx hb dX8_kindsBy_40 rfl (lv_at hl 5 rfl) ?_
              refine gf_X8_7 (v := .ref AT_al) hx hb hts hown hK hN hP 0 rfl rfl dX8_kindsBy_41 ?_
              refine lv_iload hx hb dX8_kindsBy_44 (lv_at hl 0 rfl) ?_
              refine lv_iconst (v := 1) hx hb dX8_kindsBy_46 (by decide) ?_
              refine lv_iadd hx hb dX8_kindsBy_47 ?_
              obtain ⟨hi_48, hm⟩ := gd_s hm
              refine q_iald (j := (Int32.toNatClampNeg ((p2 + (4 * x8)) + 1))) hx hb hK hP 1 rfl hi_48 rfl dX8_kindsBy_48 ?_
              refine lv_aload_n hx hb dX8_kindsBy_49 rfl (lv_at hl 5 rfl) ?_
              refine gf_X8_7 (v := .ref AT_al) hx hb hts hown hK hN hP 0 rfl rfl dX8_kindsBy_50 ?_
              refine lv_iload hx hb dX8_kindsBy_53 (lv_at hl 0 rfl) ?_
              refine lv_iconst (v := 2) hx hb dX8_kindsBy_55 (by decide) ?_
              refine lv_iadd hx hb dX8_kindsBy_56 ?_
              obtain ⟨hi_57, hm⟩ := gd_s hm
              refine q_iald (j := (Int32.toNatClampNeg ((p2 + (4 * x8)) + 2))) hx hb hK hP 1 rfl hi_57 rfl dX8_kindsBy_57 ?_
              obtain ⟨r_58, hc_58, hm⟩ := ob_s hm
              refine q_ci (q_rs (rest := []) ⟨hx, hb, hml, hown, hts⟩ hK hN hP hD (c_X8_tellsAs l D cI cZ H.size x6 (fT_al (Int32.toNatClampNeg ((p2 + (4 * x8)) + 1))) (fT_al (Int32.toNatClampNeg ((p2 + (4 * x8)) + 2))) r_58 hc_58) mb_X8_tellsAs wt_X8_tellsAs wl_X8_96 [] rfl rfl (Nat.le_of_ble_eq_true rfl) (Nat.le_of_ble_eq_true rfl) rfl hl.1 rfl (Nat.le_of_ble_eq_true rfl) ⟨Nat.le_refl 0, Nat.le_refl 0⟩ dX8_kindsBy_58) hP hD hS hA [] rfl rfl (fun H locs hP hD hS => ?_)
              have hP : va_P D vwCl (wd_X8_kindsBy cI cZ AT AT_al AT_kp AT_ik AT_rf AT_hd AT_bs AT_se AT_bf AT_te AT_by AT_an AT_vs vT_ab vT_be vT_byl vT_tka vT_tkl vT_tkn vT_val fT_al) H := hP
              have hD : va_D A (wd_X8_kindsBy cI cZ AT AT_al AT_kp AT_ik AT_rf AT_hd AT_bs AT_se AT_bf AT_te AT_by AT_an AT_vs vT_ab vT_be vT_byl vT_tka vT_tkl vT_tkn vT_val fT_al) := hD
              refine lv_goto (tgt := 87) hx hb dX8_kindsBy_61 (by decide) ?_
              refine lv_istore (lv' := [(10, .int r_58), (9, .int (p2 + (4 * x8))), (8, .int x8), (7, .int x7), (6, .int x6), (5, .int x5), (0, .ref AT), (1, .int p1), (2, .int p2), (3, .int p3), (4, .int p4)]) hx hb dX8_kindsBy_87 hl (by decide) rfl (fun ls hl => ?_)
              refine lv_iload hx hb dX8_kindsBy_89 (lv_at hl 3 rfl) ?_
              refine lv_if_eq (tgt := 123) hx hb dX8_kindsBy_91 (by decide) (fun c_91 => ?_) (fun c_91 => ?_)
              · have hm := it_s c_91 hm
                refine lv_iconst (v := 0) hx hb dX8_kindsBy_123 (by decide) ?_
                refine lv_istore (lv' := [(7, .int 0), (10, .int r_58), (9, .int (p2 + (4 * x8))), (8, .int x8), (6, .int x6), (5, .int x5), (0, .ref AT), (1, .int p1), (2, .int p2), (3, .int p3), (4, .int p4)]) hx hb dX8_kindsBy_124 hl (by decide) rfl (fun ls hl => ?_)
                refine lv_iinc (v := (x8 + 1)) (lv' := [(8, .int (x8 + 1)), (7, .int 0), (10, .int r_58), (9, .int (p2 + (4 * x8))), (6, .int x6), (5, .int x5), (0, .ref AT), (1, .int p1), (2, .int p2), (3, .int p3), (4, .int p4)]) hx hb dX8_kindsBy_126 hl (k := 3) rfl rfl (by decide) rfl (fun ls hl => ?_)
                refine lv_goto (tgt := 19) hx hb dX8_kindsBy_129 (by decide) ?_
                exact ih_19 (x8 + 1) 0 x6 x5 H locs ls hm hP hD hS (lv_sub hl [0, 1, 4, 5, 6, 7, 8, 9, 10] rfl)
              · have hm := it_n c_91 hm
                refine lv_aload_n hx hb dX8_kindsBy_94 rfl (lv_at hl 6 rfl) ?_
                refine gf_X8_7 (v := .ref AT_al) hx hb hts hown hK hN hP 0 rfl rfl dX8_kindsBy_95 ?_
                refine lv_iload hx hb dX8_kindsBy_98 (lv_at hl 1 rfl) ?_
                obtain ⟨hi_100, hm⟩ := gd_s hm
                refine q_iald (j := (Int32.toNatClampNeg (p2 + (4 * x8)))) hx hb hK hP 1 rfl hi_100 rfl dX8_kindsBy_100 ?_
                refine lv_iload_n hx hb dX8_kindsBy_101 rfl (lv_at hl 7 rfl) ?_
                refine lv_icmp_ne (tgt := 119) hx hb dX8_kindsBy_102 (by decide) (fun c_102 => ?_) (fun c_102 => ?_)
                · have hm := it_n c_102 hm
                  refine lv_iconst (v := 1) hx hb dX8_kindsBy_119 (by decide) ?_
                  refine lv_goto (tgt := 124) hx hb dX8_kindsBy_120 (by decide) ?_
                  refine lv_istore (lv' := [(7, .int 1), (10, .int r_58), (9, .int (p2 + (4 * x8))), (8, .int x8), (6, .int x6), (5, .int x5), (0, .ref AT), (1, .int p1), (2, .int p2), (3, .int p3), (4, .int p4)]) hx hb dX8_kindsBy_124 hl (by decide) rfl (fun ls hl => ?_)
                  refine lv_iinc (v := (x8 + 1)) (lv' := [(8, .int (x8 + 1)), (7, .int 1), (10, .int r_58), (9, .int (p2 + (4 * x8))), (6, .int x6), (5, .int x5), (0, .ref AT), (1, .int p1), (2, .int p2), (3, .int p3), (4, .int p4)]) hx hb dX8_kindsBy_126 hl (k := 3) rfl rfl (by decide) rfl (fun ls hl => ?_)
                  refine lv_goto (tgt := 19) hx hb dX8_kindsBy_129 (by decide) ?_
                  exact ih_19 (x8 + 1) 1 x6 x5 H locs ls hm hP hD hS (lv_sub hl [0, 1, 4, 5, 6, 7, 8, 9, 10] rfl)
                · have hm := it_s c_102 hm
                  refine lv_iload hx hb dX8_kindsBy_105 (lv_at hl 0 rfl) ?_
                  refine lv_aload_n hx hb dX8_kindsBy_107 rfl (lv_at hl 6 rfl) ?_
                  refine gf_X8_7 (v := .ref AT_al) hx hb hts hown hK hN hP 0 rfl rfl dX8_kindsBy_108 ?_
                  refine lv_iload hx hb dX8_kindsBy_111 (lv_at hl 1 rfl) ?_
                  refine lv_iconst (v := 3) hx hb dX8_kindsBy_113 (by decide) ?_
                  refine lv_iadd hx hb dX8_kindsBy_114 ?_
                  obtain ⟨hi_115, hm⟩ := gd_s hm
                  refine q_iald (j := (Int32.toNatClampNeg ((p2 + (4 * x8)) + 3))) hx hb hK hP 1 rfl hi_115 rfl dX8_kindsBy_115 ?_
                  refine lv_icmp_ne (tgt := 123) hx hb dX8_kindsBy_116 (by decide) (fun c_116 => ?_) (fun c_116 => ?_)
                  · have hm := it_n c_116 hm
                    refine lv_iconst (v := 0) hx hb dX8_kindsBy_123 (by decide) ?_
                    refine lv_istore (lv' := [(7, .int 0), (10, .int r_58), (9, .int (p2 + (4 * x8))), (8, .int x8), (6, .int x6), (5, .int x5), (0, .ref AT), (1, .int p1), (2, .int p2), (3, .int p3), (4, .int p4)]) hx hb dX8_kindsBy_124 hl (by decide) rfl (fun ls hl => ?_)
                    refine lv_iinc (v := (x8 + 1)) (lv' := [(8, .int (x8 + 1)), (7, .int 0), (10, .int r_58), (9, .int (p2 + (4 * x8))), (6, .int x6), (5, .int x5), (0, .ref AT), (1, .int p1), (2, .int p2), (3, .int p3), (4, .int p4)]) hx hb dX8_kindsBy_126 hl (k := 3) rfl rfl (by decide) rfl (fun ls hl => ?_)
                    refine lv_goto (tgt := 19) hx hb dX8_kindsBy_129 (by decide) ?_
                    exact ih_19 (x8 + 1) 0 x6 x5 H locs ls hm hP hD hS (lv_sub hl [0, 1, 4, 5, 6, 7, 8, 9, 10] rfl)
                  · have hm := it_s c_116 hm
                    refine lv_iconst (v := 1) hx hb dX8_kindsBy_119 (by decide) ?_
                    refine lv_goto (tgt := 124) hx hb dX8_kindsBy_120 (by decide) ?_
                    refine lv_istore (lv' := [(7, .int 1), (10, .int r_58), (9, .int (p2 + (4 * x8))), (8, .int x8), (6, .int x6), (5, .int x5), (0, .ref AT), (1, .int p1), (2, .int p2), (3, .int p3), (4, .int p4)]) hx hb dX8_kindsBy_124 hl (by decide) rfl (fun ls hl => ?_)
                    refine lv_iinc (v := (x8 + 1)) (lv' := [(8, .int (x8 + 1)), (7, .int 1), (10, .int r_58), (9, .int (p2 + (4 * x8))), (6, .int x6), (5, .int x5), (0, .ref AT), (1, .int p1), (2, .int p2), (3, .int p3), (4, .int p4)]) hx hb dX8_kindsBy_126 hl (k := 3) rfl rfl (by decide) rfl (fun ls hl => ?_)
                    refine lv_goto (tgt := 19) hx hb dX8_kindsBy_129 (by decide) ?_
                    exact ih_19 (x8 + 1) 1 x6 x5 H locs ls hm hP hD hS (lv_sub hl [0, 1, 4, 5, 6, 7, 8, 9, 10] rfl)
      intro x6 x5 H locs ls hm hP hD hS hl
      rw [fL_X8_kindsBy_6] at hm
      refine lv_iload hx hb dX8_kindsBy_6 (lv_at hl 0 rfl) ?_
      refine lv_bipush (v := 6) hx hb dX8_kindsBy_8 (by decide) ?_
      refine lv_icmp_ge (tgt := 156) hx hb dX8_kindsBy_10 (by decide) (fun c_10 => ?_) (fun c_10 => ?_)
      · have hm := it_s c_10 hm
        refine lv_iload hx hb dX8_kindsBy_156 (lv_at hl 1 rfl) ?_
        have hm := Option.some.inj hm
        subst hm
        exact q_iret (v := x5) hx hb hr hlocks hP hS dX8_kindsBy_158
      · have hm := it_n c_10 hm
        refine lv_iconst (v := 1) hx hb dX8_kindsBy_13 (by decide) ?_
        refine lv_istore (lv' := [(7, .int 1), (6, .int x6), (5, .int x5), (0, .ref AT), (1, .int p1), (2, .int p2), (3, .int p3), (4, .int p4)]) hx hb dX8_kindsBy_14 hl (by decide) rfl (fun ls hl => ?_)
        refine lv_iconst (v := 0) hx hb dX8_kindsBy_16 (by decide) ?_
        refine lv_istore (lv' := [(8, .int 0), (7, .int 1), (6, .int x6), (5, .int x5), (0, .ref AT), (1, .int p1), (2, .int p2), (3, .int p3), (4, .int p4)]) hx hb dX8_kindsBy_17 hl (by decide) rfl (fun ls hl => ?_)
        exact hL_19 FU 0 1 x6 x5 H locs ls hm hP hD hS (lv_sub hl [0, 1, 2, 3, 4, 5, 6, 7, 8] rfl)
  unfold fm_X8_kindsBy at hm
  refine q_gen hS hP ?_
  intro H locs hP hS
  refine lv_iconst (v := 0) hx hb dX8_kindsBy_0 (by decide) ?_
  refine lv_istore (lv' := [(5, .int 0), (0, .ref AT), (1, .int p1), (2, .int p2), (3, .int p3), (4, .int p4)]) hx hb dX8_kindsBy_1 hl (by decide) rfl (fun ls hl => ?_)
  refine lv_iconst (v := 0) hx hb dX8_kindsBy_3 (by decide) ?_
  refine lv_istore (lv' := [(6, .int 0), (5, .int 0), (0, .ref AT), (1, .int p1), (2, .int p2), (3, .int p3), (4, .int p4)]) hx hb dX8_kindsBy_4 hl (by decide) rfl (fun ls hl => ?_)
  exact hL_6 FU 0 0 H locs ls hm hP hD hS (lv_sub hl [0, 1, 2, 3, 4, 5, 6] rfl)
theorem mb_X8_kindsOfFlower : q_mb yX8_kindsOfFlower cX8_kindsOfFlower 2 (some .int) 1 := ⟨wc_X8_kindsOfFlower, wn_X8, by decide, by decide, by decide +kernel⟩
theorem mv_X8_kindsOfFlower : q_mv yX8_kindsOfFlower 8 := ⟨wi_X8_kindsOfFlower, ws_X8_kindsOfFlower, _, rfl, rfl⟩
def wd_X8_kindsOfFlower (cI cZ : ClassId) (AT AT_al AT_kp AT_ik AT_rf AT_hd AT_bs AT_se AT_bf AT_te AT_by AT_an AT_vs : Nat) (vT_ab : Int64) (vT_be : Int64) (vT_byl : Int32) (vT_tka : Int32) (vT_tkl : Int32) (vT_tkn : Int32) (vT_val : Int32) (fT_al : Nat → Int32) : va_W := [(AT, .inr (8, [.ref AT_al, .ref AT_kp, .ref AT_ik, .ref AT_rf, .long vT_ab, .long vT_be, .ref AT_hd, .ref AT_bs, .ref AT_se, .ref AT_bf, .ref AT_te, .ref AT_by, .int vT_byl, .int vT_tka, .int vT_tkl, .int vT_tkn, .int vT_val, .ref AT_an, .ref AT_vs])), (AT_al, .inl (cI, 312, .inl fT_al))]
def fm_X8_kindsOfFlower (p1 : Int32) (fT_al : Nat → Int32) : Option (Int32) := Option.bind (fm_X8_kindsBy p1 64 (fT_al 3) 1 fT_al) (fun r_11 => some (r_11))
set_option maxHeartbeats 4000000 in
set_option maxRecDepth 100000 in
theorem c_X8_kindsOfFlower (l : Launch) (D : va_G) (cI cZ : ClassId) (sz : Nat) (AT AT_al AT_kp AT_ik AT_rf AT_hd AT_bs AT_se AT_bf AT_te AT_by AT_an AT_vs : Nat) (vT_ab : Int64) (vT_be : Int64) (vT_byl : Int32) (vT_tka : Int32) (vT_tkl : Int32) (vT_tkn : Int32) (vT_val : Int32) (fT_al : Nat → Int32) (p1 : Int32) (out : (Int32)) (hm : fm_X8_kindsOfFlower p1 fT_al = some out) : Met l yX8_kindsOfFlower (Cond.code yX8_kindsOfFlower cX8_kindsOfFlower 2 (some .int) :: bg) { frames := 2, cells := 0, slots := 0, locals := 54 } (va_Pc [.ref AT, .int p1] (q_pre D cI cZ sz (wd_X8_kindsOfFlower cI cZ AT AT_al AT_kp AT_ik AT_rf AT_hd AT_bs AT_se AT_bf AT_te AT_by AT_an AT_vs vT_ab vT_be vT_byl vT_tka vT_tkl vT_tkn vT_val fT_al))) (q_Qi D (wd_X8_kindsOfFlower cI cZ AT AT_al AT_kp AT_ik AT_rf AT_hd AT_bs AT_se AT_bf AT_te AT_by AT_an AT_vs vT_ab vT_be vT_byl vT_tka vT_tkl vT_tkn vT_val fT_al) out (va_A (wd_X8_kindsOfFlower cI cZ AT AT_al AT_kp AT_ik AT_rf AT_hd AT_bs AT_se AT_bf AT_te AT_by AT_an AT_vs vT_ab vT_be vT_byl vT_tka vT_tkl vT_tkn vT_val fT_al) sz)) 0 0 (va_A (wd_X8_kindsOfFlower cI cZ AT AT_al AT_kp AT_ik AT_rf AT_hd AT_bs AT_se AT_bf AT_te AT_by AT_an AT_vs vT_ab vT_be vT_byl vT_tka vT_tkl vT_tkn vT_val fT_al) sz) := by
  refine q_met (fun A => q_Qi D (wd_X8_kindsOfFlower cI cZ AT AT_al AT_kp AT_ik AT_rf AT_hd AT_bs AT_se AT_bf AT_te AT_by AT_an AT_vs vT_ab vT_be vT_byl vT_tka vT_tkl vT_tkn vT_val fT_al) out A) (by decide) (Nat.le_of_ble_eq_true rfl) ?_
  intro p e s m below meth c ls A hx hb hr hml hown hts hlocks _ hA hS hP hD hK hN hl
  have hown : s.vm.findClass RX8 = some m.cls := hown
  have hl : lv_has ls 2 [(0, .ref AT), (1, .int p1)] := hl
  unfold fm_X8_kindsOfFlower at hm
  refine q_gen hS hP ?_
  intro H locs hP hS
  refine lv_aload_n hx hb dX8_kindsOfFlower_0 rfl (lv_at hl 0 rfl) ?_
  refine lv_iload_n hx hb dX8_kindsOfFlower_1 rfl (lv_at hl 1 rfl) ?_
  refine lv_bipush (v := 64) hx hb dX8_kindsOfFlower_2 (by decide) ?_
  refine lv_aload_n hx hb dX8_kindsOfFlower_4 rfl (lv_at hl 0 rfl) ?_
  refine gf_X8_7 (v := .ref AT_al) hx hb hts hown hK hN hP 0 rfl rfl dX8_kindsOfFlower_5 ?_
  refine lv_iconst (v := 3) hx hb dX8_kindsOfFlower_8 (by decide) ?_
  refine q_iald (j := 3) hx hb hK hP 1 rfl (q_inl (by decide)) (by decide) dX8_kindsOfFlower_9 ?_
  refine lv_iconst (v := 1) hx hb dX8_kindsOfFlower_10 (by decide) ?_
  obtain ⟨r_11, hc_11, hm⟩ := ob_s hm
  refine q_ci (q_rv (rest := []) ⟨hx, hb, hml, hown, hts⟩ hK hN hP hD (c_X8_kindsBy l D cI cZ H.size AT AT_al AT_kp AT_ik AT_rf AT_hd AT_bs AT_se AT_bf AT_te AT_by AT_an AT_vs vT_ab vT_be vT_byl vT_tka vT_tkl vT_tkn vT_val fT_al p1 64 (fT_al 3) 1 r_11 hc_11) mb_X8_kindsBy mv_X8_kindsBy wl_X8_175 [0, 1] rfl rfl rfl (Nat.le_of_ble_eq_true rfl) (Nat.le_of_ble_eq_true rfl) rfl hl.1 rfl (Nat.le_of_ble_eq_true rfl) ⟨Nat.le_refl 0, Nat.le_refl 0⟩ dX8_kindsOfFlower_11) hP hD hS hA [0, 1] rfl rfl (fun H locs hP hD hS => ?_)
  have hP : va_P D vwCl (wd_X8_kindsOfFlower cI cZ AT AT_al AT_kp AT_ik AT_rf AT_hd AT_bs AT_se AT_bf AT_te AT_by AT_an AT_vs vT_ab vT_be vT_byl vT_tka vT_tkl vT_tkn vT_val fT_al) H := hP
  have hD : va_D A (wd_X8_kindsOfFlower cI cZ AT AT_al AT_kp AT_ik AT_rf AT_hd AT_bs AT_se AT_bf AT_te AT_by AT_an AT_vs vT_ab vT_be vT_byl vT_tka vT_tkl vT_tkn vT_val fT_al) := hD
  have hm := Option.some.inj hm
  subst hm
  exact q_iret (v := r_11) hx hb hr hlocks hP hS dX8_kindsOfFlower_14
theorem mb_X8_kindsOfSleeper : q_mb yX8_kindsOfSleeper cX8_kindsOfSleeper 2 (some .int) 1 := ⟨wc_X8_kindsOfSleeper, wn_X8, by decide, by decide, by decide +kernel⟩
theorem mv_X8_kindsOfSleeper : q_mv yX8_kindsOfSleeper 8 := ⟨wi_X8_kindsOfSleeper, ws_X8_kindsOfSleeper, _, rfl, rfl⟩
def wd_X8_kindsOfSleeper (cI cZ : ClassId) (AT AT_al AT_kp AT_ik AT_rf AT_hd AT_bs AT_se AT_bf AT_te AT_by AT_an AT_vs : Nat) (vT_ab : Int64) (vT_be : Int64) (vT_byl : Int32) (vT_tka : Int32) (vT_tkl : Int32) (vT_tkn : Int32) (vT_val : Int32) (fT_al : Nat → Int32) : va_W := [(AT, .inr (8, [.ref AT_al, .ref AT_kp, .ref AT_ik, .ref AT_rf, .long vT_ab, .long vT_be, .ref AT_hd, .ref AT_bs, .ref AT_se, .ref AT_bf, .ref AT_te, .ref AT_by, .int vT_byl, .int vT_tka, .int vT_tkl, .int vT_tkn, .int vT_val, .ref AT_an, .ref AT_vs])), (AT_al, .inl (cI, 312, .inl fT_al))]
def fm_X8_kindsOfSleeper (p1 : Int32) (fT_al : Nat → Int32) : Option (Int32) := Option.bind (fm_X8_kindsBy p1 88 (fT_al 4) 0 fT_al) (fun r_11 => some (r_11))
set_option maxHeartbeats 4000000 in
set_option maxRecDepth 100000 in
theorem c_X8_kindsOfSleeper (l : Launch) (D : va_G) (cI cZ : ClassId) (sz : Nat) (AT AT_al AT_kp AT_ik AT_rf AT_hd AT_bs AT_se AT_bf AT_te AT_by AT_an AT_vs : Nat) (vT_ab : Int64) (vT_be : Int64) (vT_byl : Int32) (vT_tka : Int32) (vT_tkl : Int32) (vT_tkn : Int32) (vT_val : Int32) (fT_al : Nat → Int32) (p1 : Int32) (out : (Int32)) (hm : fm_X8_kindsOfSleeper p1 fT_al = some out) : Met l yX8_kindsOfSleeper (Cond.code yX8_kindsOfSleeper cX8_kindsOfSleeper 2 (some .int) :: bg) { frames := 2, cells := 0, slots := 0, locals := 54 } (va_Pc [.ref AT, .int p1] (q_pre D cI cZ sz (wd_X8_kindsOfSleeper cI cZ AT AT_al AT_kp AT_ik AT_rf AT_hd AT_bs AT_se AT_bf AT_te AT_by AT_an AT_vs vT_ab vT_be vT_byl vT_tka vT_tkl vT_tkn vT_val fT_al))) (q_Qi D (wd_X8_kindsOfSleeper cI cZ AT AT_al AT_kp AT_ik AT_rf AT_hd AT_bs AT_se AT_bf AT_te AT_by AT_an AT_vs vT_ab vT_be vT_byl vT_tka vT_tkl vT_tkn vT_val fT_al) out (va_A (wd_X8_kindsOfSleeper cI cZ AT AT_al AT_kp AT_ik AT_rf AT_hd AT_bs AT_se AT_bf AT_te AT_by AT_an AT_vs vT_ab vT_be vT_byl vT_tka vT_tkl vT_tkn vT_val fT_al) sz)) 0 0 (va_A (wd_X8_kindsOfSleeper cI cZ AT AT_al AT_kp AT_ik AT_rf AT_hd AT_bs AT_se AT_bf AT_te AT_by AT_an AT_vs vT_ab vT_be vT_byl vT_tka vT_tkl vT_tkn vT_val fT_al) sz) := by
  refine q_met (fun A => q_Qi D (wd_X8_kindsOfSleeper cI cZ AT AT_al AT_kp AT_ik AT_rf AT_hd AT_bs AT_se AT_bf AT_te AT_by AT_an AT_vs vT_ab vT_be vT_byl vT_tka vT_tkl vT_tkn vT_val fT_al) out A) (by decide) (Nat.le_of_ble_eq_true rfl) ?_
  intro p e s m below meth c ls A hx hb hr hml hown hts hlocks _ hA hS hP hD hK hN hl
  have hown : s.vm.findClass RX8 = some m.cls := hown
  have hl : lv_has ls 2 [(0, .ref AT), (1, .int p1)] := hl
  unfold fm_X8_kindsOfSleeper at hm
  refine q_gen hS hP ?_
  intro H locs hP hS
  refine lv_aload_n hx hb dX8_kindsOfSleeper_0 rfl (lv_at hl 0 rfl) ?_
  refine lv_iload_n hx hb dX8_kindsOfSleeper_1 rfl (lv_at hl 1 rfl) ?_
  refine lv_bipush (v := 88) hx hb dX8_kindsOfSleeper_2 (by decide) ?_
  refine lv_aload_n hx hb dX8_kindsOfSleeper_4 rfl (lv_at hl 0 rfl) ?_
  refine gf_X8_7 (v := .ref AT_al) hx hb hts hown hK hN hP 0 rfl rfl dX8_kindsOfSleeper_5 ?_
  refine lv_iconst (v := 4) hx hb dX8_kindsOfSleeper_8 (by decide) ?_
  refine q_iald (j := 4) hx hb hK hP 1 rfl (q_inl (by decide)) (by decide) dX8_kindsOfSleeper_9 ?_
  refine lv_iconst (v := 0) hx hb dX8_kindsOfSleeper_10 (by decide) ?_
  obtain ⟨r_11, hc_11, hm⟩ := ob_s hm
  refine q_ci (q_rv (rest := []) ⟨hx, hb, hml, hown, hts⟩ hK hN hP hD (c_X8_kindsBy l D cI cZ H.size AT AT_al AT_kp AT_ik AT_rf AT_hd AT_bs AT_se AT_bf AT_te AT_by AT_an AT_vs vT_ab vT_be vT_byl vT_tka vT_tkl vT_tkn vT_val fT_al p1 88 (fT_al 4) 0 r_11 hc_11) mb_X8_kindsBy mv_X8_kindsBy wl_X8_175 [0, 1] rfl rfl rfl (Nat.le_of_ble_eq_true rfl) (Nat.le_of_ble_eq_true rfl) rfl hl.1 rfl (Nat.le_of_ble_eq_true rfl) ⟨Nat.le_refl 0, Nat.le_refl 0⟩ dX8_kindsOfSleeper_11) hP hD hS hA [0, 1] rfl rfl (fun H locs hP hD hS => ?_)
  have hP : va_P D vwCl (wd_X8_kindsOfSleeper cI cZ AT AT_al AT_kp AT_ik AT_rf AT_hd AT_bs AT_se AT_bf AT_te AT_by AT_an AT_vs vT_ab vT_be vT_byl vT_tka vT_tkl vT_tkn vT_val fT_al) H := hP
  have hD : va_D A (wd_X8_kindsOfSleeper cI cZ AT AT_al AT_kp AT_ik AT_rf AT_hd AT_bs AT_se AT_bf AT_te AT_by AT_an AT_vs vT_ab vT_be vT_byl vT_tka vT_tkl vT_tkn vT_val fT_al) := hD
  have hm := Option.some.inj hm
  subst hm
  exact q_iret (v := r_11) hx hb hr hlocks hP hS dX8_kindsOfSleeper_14
theorem gf_X8_39 {p : Program} {l : Launch} {e : Env} {R : Room} {s : State} {m : MethodId} {args : Array Value} {below : List Frame} {meth : Method} {c : Code} {H : Heap} {locs : List Loc} {cells slots : Nat} {Q : State → Prop} {pc : Nat} {ls : Array Slot} {cc : ByteArray} {D : va_G} {cI cZ : ClassId} {ws : va_W} {a : Nat} {rest fs : List Value} (hx : p.tables.exec = Jvm.exec) (hb : c.code = cc) (hts : ∀ w ∈ bg, w.before args s = true) (hown : s.vm.findClass RX8 = some m.cls) (hK : va_K D vwCl (q_tys cI cZ) s) (hN : q_N s) (hP : va_P D vwCl ws H) (q0 : Nat) (he : ws[q0]? = some (a, .inr (8, fs))) {v : Value} (hv : fs[10]? = some v) (hdg : decode cc pc = .ok (.getfield 39, 3)) (kk : W p l e R s m args below meth c H locs cells slots Q (F0 m (pc + 3) ls (v :: rest))) : W p l e R s m args below meth c H locs cells slots Q (F0 m pc ls (.ref a :: rest)) :=
  va_get (C := RX8) (T := TX8) (N := 19) hx hb hts wu_X8 hown hK hP q0 he rfl 10 (by decide) (hts _ wf_X8_39) (fun _ h9 => h9) hv hdg kk
theorem mb_X8_mostAlike : q_mb yX8_mostAlike cX8_mostAlike 6 (some .int) 1 := ⟨wc_X8_mostAlike, wn_X8, by decide, by decide, by decide +kernel⟩
theorem mv_X8_mostAlike : q_mv yX8_mostAlike 8 := ⟨wi_X8_mostAlike, ws_X8_mostAlike, _, rfl, rfl⟩
def wd_X8_mostAlike (cI cZ : ClassId) (AT AT_al AT_kp AT_ik AT_rf AT_hd AT_bs AT_se AT_bf AT_te AT_by AT_an AT_vs : Nat) (vT_ab : Int64) (vT_be : Int64) (vT_byl : Int32) (vT_tka : Int32) (vT_tkl : Int32) (vT_tkn : Int32) (vT_val : Int32) (fT_te : Nat → Int32) : va_W := [(AT, .inr (8, [.ref AT_al, .ref AT_kp, .ref AT_ik, .ref AT_rf, .long vT_ab, .long vT_be, .ref AT_hd, .ref AT_bs, .ref AT_se, .ref AT_bf, .ref AT_te, .ref AT_by, .int vT_byl, .int vT_tka, .int vT_tkl, .int vT_tkn, .int vT_val, .ref AT_an, .ref AT_vs])), (AT_te, .inl (cI, 6, .inl fT_te))]
def fL_X8_mostAlike_16 (p1 : Int32) (fT_te : Nat → Int32) (k_4 : Int32 → Int32 → Option (Int32)) : Nat → Int32 → Int32 → Int32 → Int32 → Option (Int32)
  | 0, _, _, _, _ => none
  | fu + 1, x5, x4, x3, x2 => if 6 ≤ x5 then (if x4 ≤ x2 then (k_4 (x3 + 1) x2) else (k_4 (x3 + 1) x4)) else (Option.bind (fm_X8_has p1 x3) (fun r_25 => if r_25 = 0 then (if x4 ≤ x2 then (k_4 (x3 + 1) x2) else (k_4 (x3 + 1) x4)) else (Option.bind (fm_X8_has p1 x5) (fun r_36 => if r_36 = 0 then (fL_X8_mostAlike_16 p1 fT_te k_4 fu (x5 + 1) (x4 + 0) x3 x2) else (gd x3 6 (gd x5 6 (if (fT_te (Int32.toNatClampNeg x3)) = (fT_te (Int32.toNatClampNeg x5)) then (fL_X8_mostAlike_16 p1 fT_te k_4 fu (x5 + 1) (x4 + 1) x3 x2) else (fL_X8_mostAlike_16 p1 fT_te k_4 fu (x5 + 1) (x4 + 0) x3 x2))))))))
def fL_X8_mostAlike_4 (p1 : Int32) (fT_te : Nat → Int32) : Nat → Int32 → Int32 → Option (Int32)
  | 0, _, _ => none
  | fu + 1, x3, x2 => if 6 ≤ x3 then (some (x2)) else (fL_X8_mostAlike_16 p1 fT_te (fun x3 x2 => fL_X8_mostAlike_4 p1 fT_te fu x3 x2) FU 0 0 x3 x2)
def fm_X8_mostAlike (p1 : Int32) (fT_te : Nat → Int32) : Option (Int32) := fL_X8_mostAlike_4 p1 fT_te FU 0 0
set_option maxHeartbeats 4000000 in
set_option maxRecDepth 100000 in
theorem c_X8_mostAlike (l : Launch) (D : va_G) (cI cZ : ClassId) (sz : Nat) (AT AT_al AT_kp AT_ik AT_rf AT_hd AT_bs AT_se AT_bf AT_te AT_by AT_an AT_vs : Nat) (vT_ab : Int64) (vT_be : Int64) (vT_byl : Int32) (vT_tka : Int32) (vT_tkl : Int32) (vT_tkn : Int32) (vT_val : Int32) (fT_te : Nat → Int32) (p1 : Int32) (out : (Int32)) (hm : fm_X8_mostAlike p1 fT_te = some out) : Met l yX8_mostAlike (Cond.code yX8_mostAlike cX8_mostAlike 6 (some .int) :: bg) { frames := 1, cells := 0, slots := 0, locals := 21 } (va_Pc [.ref AT, .int p1] (q_pre D cI cZ sz (wd_X8_mostAlike cI cZ AT AT_al AT_kp AT_ik AT_rf AT_hd AT_bs AT_se AT_bf AT_te AT_by AT_an AT_vs vT_ab vT_be vT_byl vT_tka vT_tkl vT_tkn vT_val fT_te))) (q_Qi D (wd_X8_mostAlike cI cZ AT AT_al AT_kp AT_ik AT_rf AT_hd AT_bs AT_se AT_bf AT_te AT_by AT_an AT_vs vT_ab vT_be vT_byl vT_tka vT_tkl vT_tkn vT_val fT_te) out (va_A (wd_X8_mostAlike cI cZ AT AT_al AT_kp AT_ik AT_rf AT_hd AT_bs AT_se AT_bf AT_te AT_by AT_an AT_vs vT_ab vT_be vT_byl vT_tka vT_tkl vT_tkn vT_val fT_te) sz)) 0 0 (va_A (wd_X8_mostAlike cI cZ AT AT_al AT_kp AT_ik AT_rf AT_hd AT_bs AT_se AT_bf AT_te AT_by AT_an AT_vs vT_ab vT_be vT_byl vT_tka vT_tkl vT_tkn vT_val fT_te) sz) := by
  refine q_met (fun A => q_Qi D (wd_X8_mostAlike cI cZ AT AT_al AT_kp AT_ik AT_rf AT_hd AT_bs AT_se AT_bf AT_te AT_by AT_an AT_vs vT_ab vT_be vT_byl vT_tka vT_tkl vT_tkn vT_val fT_te) out A) (by decide) (Nat.le_of_ble_eq_true rfl) ?_
  intro p e s m below meth c ls A hx hb hr hml hown hts hlocks _ hA hS hP hD hK hN hl
  have hown : s.vm.findClass RX8 = some m.cls := hown
  have hl : lv_has ls 6 [(0, .ref AT), (1, .int p1)] := hl
  have hL_4 : ∀ (fu_4 : Nat) (x3 : Int32) (x2 : Int32) (H : Heap) (locs : List Loc) (ls : Array Slot), fL_X8_mostAlike_4 p1 fT_te fu_4 x3 x2 = some out → va_P D vwCl (wd_X8_mostAlike cI cZ AT AT_al AT_kp AT_ik AT_rf AT_hd AT_bs AT_se AT_bf AT_te AT_by AT_an AT_vs vT_ab vT_be vT_byl vT_tka vT_tkl vT_tkn vT_val fT_te) H → va_D A (wd_X8_mostAlike cI cZ AT AT_al AT_kp AT_ik AT_rf AT_hd AT_bs AT_se AT_bf AT_te AT_by AT_an AT_vs vT_ab vT_be vT_byl vT_tka vT_tkl vT_tkn vT_val fT_te) → va_S A s.heap H locs → lv_has ls 6 [(3, .int x3), (2, .int x2), (0, .ref AT), (1, .int p1)] → W p l e { frames := 1, cells := 0, slots := 0, locals := 21 } s m ([.ref AT, .int p1] : List Value).toArray below meth c H locs 0 0 (MQ below (q_Qi D (wd_X8_mostAlike cI cZ AT AT_al AT_kp AT_ik AT_rf AT_hd AT_bs AT_se AT_bf AT_te AT_by AT_an AT_vs vT_ab vT_be vT_byl vT_tka vT_tkl vT_tkn vT_val fT_te) out A) ([.ref AT, .int p1] : List Value).toArray s 0 0 A) (F0 m 4 ls []) := by
    intro fu_4
    induction fu_4 with
    | zero => intro x3 x2 H locs ls hm hP hD hS hl; exact absurd (show (none : Option (Int32)) = some out from hm) (fun h => nomatch h)
    | succ fu_4 ih_4 =>
      have hL_16 : ∀ (fu_16 : Nat) (x5 : Int32) (x4 : Int32) (x3 : Int32) (x2 : Int32) (H : Heap) (locs : List Loc) (ls : Array Slot), fL_X8_mostAlike_16 p1 fT_te (fun x3 x2 => fL_X8_mostAlike_4 p1 fT_te fu_4 x3 x2) fu_16 x5 x4 x3 x2 = some out → va_P D vwCl (wd_X8_mostAlike cI cZ AT AT_al AT_kp AT_ik AT_rf AT_hd AT_bs AT_se AT_bf AT_te AT_by AT_an AT_vs vT_ab vT_be vT_byl vT_tka vT_tkl vT_tkn vT_val fT_te) H → va_D A (wd_X8_mostAlike cI cZ AT AT_al AT_kp AT_ik AT_rf AT_hd AT_bs AT_se AT_bf AT_te AT_by AT_an AT_vs vT_ab vT_be vT_byl vT_tka vT_tkl vT_tkn vT_val fT_te) → va_S A s.heap H locs → lv_has ls 6 [(5, .int x5), (4, .int x4), (3, .int x3), (2, .int x2), (0, .ref AT), (1, .int p1)] → W p l e { frames := 1, cells := 0, slots := 0, locals := 21 } s m ([.ref AT, .int p1] : List Value).toArray below meth c H locs 0 0 (MQ below (q_Qi D (wd_X8_mostAlike cI cZ AT AT_al AT_kp AT_ik AT_rf AT_hd AT_bs AT_se AT_bf AT_te AT_by AT_an AT_vs vT_ab vT_be vT_byl vT_tka vT_tkl vT_tkn vT_val fT_te) out A) ([.ref AT, .int p1] : List Value).toArray s 0 0 A) (F0 m 16 ls []) := by
        intro fu_16
        induction fu_16 with
        | zero => intro x5 x4 x3 x2 H locs ls hm hP hD hS hl; exact absurd (show (none : Option (Int32)) = some out from hm) (fun h => nomatch h)
        | succ fu_16 ih_16 =>
          intro x5 x4 x3 x2 H locs ls hm hP hD hS hl
          rw [fL_X8_mostAlike_16] at hm
          refine lv_iload hx hb dX8_mostAlike_16 (lv_at hl 0 rfl) ?_
          refine lv_bipush (v := 6) hx hb dX8_mostAlike_18 (by decide) ?_
          refine lv_icmp_ge (tgt := 72) hx hb dX8_mostAlike_20 (by decide) (fun c_20 => ?_) (fun c_20 => ?_)
          · have hm := it_s c_20 hm
            refine lv_iload hx hb dX8_mostAlike_72 (lv_at hl 1 rfl) ?_
            refine lv_iload_n hx hb dX8_mostAlike_74 rfl (lv_at hl 3 rfl) ?_
            refine lv_icmp_le (tgt := 83) hx hb dX8_mostAlike_75 (by decide) (fun c_75 => ?_) (fun c_75 => ?_)
            · have hm := it_s c_75 hm
              refine lv_iload_n hx hb dX8_mostAlike_83 rfl (lv_at hl 3 rfl) ?_
              refine lv_istore_n (lv' := [(2, .int x2), (5, .int x5), (4, .int x4), (3, .int x3), (0, .ref AT), (1, .int p1)]) hx hb dX8_mostAlike_84 rfl hl (by decide) rfl (fun ls hl => ?_)
              refine lv_iinc (v := (x3 + 1)) (lv' := [(3, .int (x3 + 1)), (2, .int x2), (5, .int x5), (4, .int x4), (0, .ref AT), (1, .int p1)]) hx hb dX8_mostAlike_85 hl (k := 3) rfl rfl (by decide) rfl (fun ls hl => ?_)
              refine lv_goto (tgt := 4) hx hb dX8_mostAlike_88 (by decide) ?_
              exact ih_4 (x3 + 1) x2 H locs ls hm hP hD hS (lv_sub hl [0, 1, 4, 5] rfl)
            · have hm := it_n c_75 hm
              refine lv_iload hx hb dX8_mostAlike_78 (lv_at hl 1 rfl) ?_
              refine lv_goto (tgt := 84) hx hb dX8_mostAlike_80 (by decide) ?_
              refine lv_istore_n (lv' := [(2, .int x4), (5, .int x5), (4, .int x4), (3, .int x3), (0, .ref AT), (1, .int p1)]) hx hb dX8_mostAlike_84 rfl hl (by decide) rfl (fun ls hl => ?_)
              refine lv_iinc (v := (x3 + 1)) (lv' := [(3, .int (x3 + 1)), (2, .int x4), (5, .int x5), (4, .int x4), (0, .ref AT), (1, .int p1)]) hx hb dX8_mostAlike_85 hl (k := 3) rfl rfl (by decide) rfl (fun ls hl => ?_)
              refine lv_goto (tgt := 4) hx hb dX8_mostAlike_88 (by decide) ?_
              exact ih_4 (x3 + 1) x4 H locs ls hm hP hD hS (lv_sub hl [0, 1, 4, 5] rfl)
          · have hm := it_n c_20 hm
            refine lv_iload_n hx hb dX8_mostAlike_23 rfl (lv_at hl 5 rfl) ?_
            refine lv_iload_n hx hb dX8_mostAlike_24 rfl (lv_at hl 2 rfl) ?_
            obtain ⟨r_25, hc_25, hm⟩ := ob_s hm
            refine q_ci (q_rs (rest := []) ⟨hx, hb, hml, hown, hts⟩ hK hN hP hD (c_X8_has l D cI cZ H.size p1 x3 r_25 hc_25) mb_X8_has wt_X8_has wl_X8_151 [] rfl rfl (Nat.le_of_ble_eq_true rfl) (Nat.le_of_ble_eq_true rfl) rfl hl.1 rfl (Nat.le_of_ble_eq_true rfl) ⟨Nat.le_refl 0, Nat.le_refl 0⟩ dX8_mostAlike_25) hP hD hS hA [] rfl rfl (fun H locs hP hD hS => ?_)
            have hP : va_P D vwCl (wd_X8_mostAlike cI cZ AT AT_al AT_kp AT_ik AT_rf AT_hd AT_bs AT_se AT_bf AT_te AT_by AT_an AT_vs vT_ab vT_be vT_byl vT_tka vT_tkl vT_tkn vT_val fT_te) H := hP
            have hD : va_D A (wd_X8_mostAlike cI cZ AT AT_al AT_kp AT_ik AT_rf AT_hd AT_bs AT_se AT_bf AT_te AT_by AT_an AT_vs vT_ab vT_be vT_byl vT_tka vT_tkl vT_tkn vT_val fT_te) := hD
            refine lv_if_eq (tgt := 72) hx hb dX8_mostAlike_28 (by decide) (fun c_28 => ?_) (fun c_28 => ?_)
            · have hm := it_s c_28 hm
              refine lv_iload hx hb dX8_mostAlike_72 (lv_at hl 1 rfl) ?_
              refine lv_iload_n hx hb dX8_mostAlike_74 rfl (lv_at hl 3 rfl) ?_
              refine lv_icmp_le (tgt := 83) hx hb dX8_mostAlike_75 (by decide) (fun c_75 => ?_) (fun c_75 => ?_)
              · have hm := it_s c_75 hm
                refine lv_iload_n hx hb dX8_mostAlike_83 rfl (lv_at hl 3 rfl) ?_
                refine lv_istore_n (lv' := [(2, .int x2), (5, .int x5), (4, .int x4), (3, .int x3), (0, .ref AT), (1, .int p1)]) hx hb dX8_mostAlike_84 rfl hl (by decide) rfl (fun ls hl => ?_)
                refine lv_iinc (v := (x3 + 1)) (lv' := [(3, .int (x3 + 1)), (2, .int x2), (5, .int x5), (4, .int x4), (0, .ref AT), (1, .int p1)]) hx hb dX8_mostAlike_85 hl (k := 3) rfl rfl (by decide) rfl (fun ls hl => ?_)
                refine lv_goto (tgt := 4) hx hb dX8_mostAlike_88 (by decide) ?_
                exact ih_4 (x3 + 1) x2 H locs ls hm hP hD hS (lv_sub hl [0, 1, 4, 5] rfl)
              · have hm := it_n c_75 hm
                refine lv_iload hx hb dX8_mostAlike_78 (lv_at hl 1 rfl) ?_
                refine lv_goto (tgt := 84) hx hb dX8_mostAlike_80 (by decide) ?_
                refine lv_istore_n (lv' := [(2, .int x4), (5, .int x5), (4, .int x4), (3, .int x3), (0, .ref AT), (1, .int p1)]) hx hb dX8_mostAlike_84 rfl hl (by decide) rfl (fun ls hl => ?_)
                refine lv_iinc (v := (x3 + 1)) (lv' := [(3, .int (x3 + 1)), (2, .int x4), (5, .int x5), (4, .int x4), (0, .ref AT), (1, .int p1)]) hx hb dX8_mostAlike_85 hl (k := 3) rfl rfl (by decide) rfl (fun ls hl => ?_)
                refine lv_goto (tgt := 4) hx hb dX8_mostAlike_88 (by decide) ?_
                exact ih_4 (x3 + 1) x4 H locs ls hm hP hD hS (lv_sub hl [0, 1, 4, 5] rfl)
            · have hm := it_n c_28 hm
              refine lv_iload hx hb dX8_mostAlike_31 (lv_at hl 1 rfl) ?_
              refine lv_iload_n hx hb dX8_mostAlike_33 rfl (lv_at hl 5 rfl) ?_
              refine lv_iload hx hb dX8_mostAlike_34 (lv_at hl 0 rfl) ?_
              obtain ⟨r_36, hc_36, hm⟩ := ob_s hm
              refine q_ci (q_rs (rest := [.int x4]) ⟨hx, hb, hml, hown, hts⟩ hK hN hP hD (c_X8_has l D cI cZ H.size p1 x5 r_36 hc_36) mb_X8_has wt_X8_has wl_X8_151 [] rfl rfl (Nat.le_of_ble_eq_true rfl) (Nat.le_of_ble_eq_true rfl) rfl hl.1 rfl (Nat.le_of_ble_eq_true rfl) ⟨Nat.le_refl 0, Nat.le_refl 0⟩ dX8_mostAlike_36) hP hD hS hA [] rfl rfl (fun H locs hP hD hS => ?_)
              have hP : va_P D vwCl (wd_X8_mostAlike cI cZ AT AT_al AT_kp AT_ik AT_rf AT_hd AT_bs AT_se AT_bf AT_te AT_by AT_an AT_vs vT_ab vT_be vT_byl vT_tka vT_tkl vT_tkn vT_val fT_te) H := hP
              have hD : va_D A (wd_X8_mostAlike cI cZ AT AT_al AT_kp AT_ik AT_rf AT_hd AT_bs AT_se AT_bf AT_te AT_by AT_an AT_vs vT_ab vT_be vT_byl vT_tka vT_tkl vT_tkn vT_val fT_te) := hD
              refine lv_if_eq (tgt := 62) hx hb dX8_mostAlike_39 (by decide) (fun c_39 => ?_) (fun c_39 => ?_)
              · have hm := it_s c_39 hm
                refine lv_iconst (v := 0) hx hb dX8_mostAlike_62 (by decide) ?_
                refine lv_iadd hx hb dX8_mostAlike_63 ?_
                refine lv_istore (lv' := [(4, .int (x4 + 0)), (5, .int x5), (3, .int x3), (2, .int x2), (0, .ref AT), (1, .int p1)]) hx hb dX8_mostAlike_64 hl (by decide) rfl (fun ls hl => ?_)
                refine lv_iinc (v := (x5 + 1)) (lv' := [(5, .int (x5 + 1)), (4, .int (x4 + 0)), (3, .int x3), (2, .int x2), (0, .ref AT), (1, .int p1)]) hx hb dX8_mostAlike_66 hl (k := 1) rfl rfl (by decide) rfl (fun ls hl => ?_)
                refine lv_goto (tgt := 16) hx hb dX8_mostAlike_69 (by decide) ?_
                exact ih_16 (x5 + 1) (x4 + 0) x3 x2 H locs ls hm hP hD hS (lv_sub hl [0, 1, 2, 3, 4, 5] rfl)
              · have hm := it_n c_39 hm
                refine lv_aload_n hx hb dX8_mostAlike_42 rfl (lv_at hl 4 rfl) ?_
                refine gf_X8_39 (v := .ref AT_te) hx hb hts hown hK hN hP 0 rfl rfl dX8_mostAlike_43 ?_
                refine lv_iload_n hx hb dX8_mostAlike_46 rfl (lv_at hl 2 rfl) ?_
                obtain ⟨hi_47, hm⟩ := gd_s hm
                refine q_iald (j := (Int32.toNatClampNeg x3)) hx hb hK hP 1 rfl hi_47 rfl dX8_mostAlike_47 ?_
                refine lv_aload_n hx hb dX8_mostAlike_48 rfl (lv_at hl 4 rfl) ?_
                refine gf_X8_39 (v := .ref AT_te) hx hb hts hown hK hN hP 0 rfl rfl dX8_mostAlike_49 ?_
                refine lv_iload hx hb dX8_mostAlike_52 (lv_at hl 0 rfl) ?_
                obtain ⟨hi_54, hm⟩ := gd_s hm
                refine q_iald (j := (Int32.toNatClampNeg x5)) hx hb hK hP 1 rfl hi_54 rfl dX8_mostAlike_54 ?_
                refine lv_icmp_ne (tgt := 62) hx hb dX8_mostAlike_55 (by decide) (fun c_55 => ?_) (fun c_55 => ?_)
                · have hm := it_n c_55 hm
                  refine lv_iconst (v := 0) hx hb dX8_mostAlike_62 (by decide) ?_
                  refine lv_iadd hx hb dX8_mostAlike_63 ?_
                  refine lv_istore (lv' := [(4, .int (x4 + 0)), (5, .int x5), (3, .int x3), (2, .int x2), (0, .ref AT), (1, .int p1)]) hx hb dX8_mostAlike_64 hl (by decide) rfl (fun ls hl => ?_)
                  refine lv_iinc (v := (x5 + 1)) (lv' := [(5, .int (x5 + 1)), (4, .int (x4 + 0)), (3, .int x3), (2, .int x2), (0, .ref AT), (1, .int p1)]) hx hb dX8_mostAlike_66 hl (k := 1) rfl rfl (by decide) rfl (fun ls hl => ?_)
                  refine lv_goto (tgt := 16) hx hb dX8_mostAlike_69 (by decide) ?_
                  exact ih_16 (x5 + 1) (x4 + 0) x3 x2 H locs ls hm hP hD hS (lv_sub hl [0, 1, 2, 3, 4, 5] rfl)
                · have hm := it_s c_55 hm
                  refine lv_iconst (v := 1) hx hb dX8_mostAlike_58 (by decide) ?_
                  refine lv_goto (tgt := 63) hx hb dX8_mostAlike_59 (by decide) ?_
                  refine lv_iadd hx hb dX8_mostAlike_63 ?_
                  refine lv_istore (lv' := [(4, .int (x4 + 1)), (5, .int x5), (3, .int x3), (2, .int x2), (0, .ref AT), (1, .int p1)]) hx hb dX8_mostAlike_64 hl (by decide) rfl (fun ls hl => ?_)
                  refine lv_iinc (v := (x5 + 1)) (lv' := [(5, .int (x5 + 1)), (4, .int (x4 + 1)), (3, .int x3), (2, .int x2), (0, .ref AT), (1, .int p1)]) hx hb dX8_mostAlike_66 hl (k := 1) rfl rfl (by decide) rfl (fun ls hl => ?_)
                  refine lv_goto (tgt := 16) hx hb dX8_mostAlike_69 (by decide) ?_
                  exact ih_16 (x5 + 1) (x4 + 1) x3 x2 H locs ls hm hP hD hS (lv_sub hl [0, 1, 2, 3, 4, 5] rfl)
      intro x3 x2 H locs ls hm hP hD hS hl
      rw [fL_X8_mostAlike_4] at hm
      refine lv_iload_n hx hb dX8_mostAlike_4 rfl (lv_at hl 0 rfl) ?_
      refine lv_bipush (v := 6) hx hb dX8_mostAlike_5 (by decide) ?_
      refine lv_icmp_ge (tgt := 91) hx hb dX8_mostAlike_7 (by decide) (fun c_7 => ?_) (fun c_7 => ?_)
      · have hm := it_s c_7 hm
        refine lv_iload_n hx hb dX8_mostAlike_91 rfl (lv_at hl 1 rfl) ?_
        have hm := Option.some.inj hm
        subst hm
        exact q_iret (v := x2) hx hb hr hlocks hP hS dX8_mostAlike_92
      · have hm := it_n c_7 hm
        refine lv_iconst (v := 0) hx hb dX8_mostAlike_10 (by decide) ?_
        refine lv_istore (lv' := [(4, .int 0), (3, .int x3), (2, .int x2), (0, .ref AT), (1, .int p1)]) hx hb dX8_mostAlike_11 hl (by decide) rfl (fun ls hl => ?_)
        refine lv_iconst (v := 0) hx hb dX8_mostAlike_13 (by decide) ?_
        refine lv_istore (lv' := [(5, .int 0), (4, .int 0), (3, .int x3), (2, .int x2), (0, .ref AT), (1, .int p1)]) hx hb dX8_mostAlike_14 hl (by decide) rfl (fun ls hl => ?_)
        exact hL_16 FU 0 0 x3 x2 H locs ls hm hP hD hS (lv_sub hl [0, 1, 2, 3, 4, 5] rfl)
  unfold fm_X8_mostAlike at hm
  refine q_gen hS hP ?_
  intro H locs hP hS
  refine lv_iconst (v := 0) hx hb dX8_mostAlike_0 (by decide) ?_
  refine lv_istore_n (lv' := [(2, .int 0), (0, .ref AT), (1, .int p1)]) hx hb dX8_mostAlike_1 rfl hl (by decide) rfl (fun ls hl => ?_)
  refine lv_iconst (v := 0) hx hb dX8_mostAlike_2 (by decide) ?_
  refine lv_istore_n (lv' := [(3, .int 0), (2, .int 0), (0, .ref AT), (1, .int p1)]) hx hb dX8_mostAlike_3 rfl hl (by decide) rfl (fun ls hl => ?_)
  exact hL_4 FU 0 0 H locs ls hm hP hD hS (lv_sub hl [0, 1, 2, 3] rfl)
theorem mb_X8_is : q_mb yX8_is cX8_is 2 (some .int) 1 := ⟨wc_X8_is, wn_X8, by decide, by decide, by decide +kernel⟩
theorem mv_X8_is : q_mv yX8_is 8 := ⟨wi_X8_is, ws_X8_is, _, rfl, rfl⟩
def wd_X8_is (cI cZ : ClassId) (AT AT_al AT_kp AT_ik AT_rf AT_hd AT_bs AT_se AT_bf AT_te AT_by AT_an AT_vs : Nat) (vT_ab : Int64) (vT_be : Int64) (vT_byl : Int32) (vT_tka : Int32) (vT_tkl : Int32) (vT_tkn : Int32) (vT_val : Int32) (fT_al : Nat → Int32) (fT_rf : Nat → Int32) : va_W := [(AT, .inr (8, [.ref AT_al, .ref AT_kp, .ref AT_ik, .ref AT_rf, .long vT_ab, .long vT_be, .ref AT_hd, .ref AT_bs, .ref AT_se, .ref AT_bf, .ref AT_te, .ref AT_by, .int vT_byl, .int vT_tka, .int vT_tkl, .int vT_tkn, .int vT_val, .ref AT_an, .ref AT_vs])), (AT_al, .inl (cI, 312, .inl fT_al)), (AT_rf, .inl (cI, 3, .inl fT_rf))]
def fm_X8_is (p1 : Int32) (fT_al : Nat → Int32) (fT_rf : Nat → Int32) : Option (Int32 × (Nat → Int32)) := Option.bind (fm_X8_isFlower p1 fT_al) (fun r_2 => if r_2 = 0 then (Option.bind (fm_X8_bad (-2) fT_rf) (fun r_19 => some (r_19.1, r_19.2))) else (Option.bind (fm_X8_kindsOfFlower p1 fT_al) (fun r_10 => some (r_10, fT_rf))))
set_option maxHeartbeats 4000000 in
set_option maxRecDepth 100000 in
theorem c_X8_is (l : Launch) (D : va_G) (cI cZ : ClassId) (sz : Nat) (AT AT_al AT_kp AT_ik AT_rf AT_hd AT_bs AT_se AT_bf AT_te AT_by AT_an AT_vs : Nat) (vT_ab : Int64) (vT_be : Int64) (vT_byl : Int32) (vT_tka : Int32) (vT_tkl : Int32) (vT_tkn : Int32) (vT_val : Int32) (fT_al : Nat → Int32) (fT_rf : Nat → Int32) (p1 : Int32) (out : (Int32 × (Nat → Int32))) (hm : fm_X8_is p1 fT_al fT_rf = some out) : Met l yX8_is (Cond.code yX8_is cX8_is 2 (some .int) :: bg) { frames := 3, cells := 0, slots := 0, locals := 75 } (va_Pc [.ref AT, .int p1] (q_pre D cI cZ sz (wd_X8_is cI cZ AT AT_al AT_kp AT_ik AT_rf AT_hd AT_bs AT_se AT_bf AT_te AT_by AT_an AT_vs vT_ab vT_be vT_byl vT_tka vT_tkl vT_tkn vT_val fT_al fT_rf))) (q_Qi D (wd_X8_is cI cZ AT AT_al AT_kp AT_ik AT_rf AT_hd AT_bs AT_se AT_bf AT_te AT_by AT_an AT_vs vT_ab vT_be vT_byl vT_tka vT_tkl vT_tkn vT_val fT_al out.2) out.1 (va_A (wd_X8_is cI cZ AT AT_al AT_kp AT_ik AT_rf AT_hd AT_bs AT_se AT_bf AT_te AT_by AT_an AT_vs vT_ab vT_be vT_byl vT_tka vT_tkl vT_tkn vT_val fT_al fT_rf) sz)) 0 0 (va_A (wd_X8_is cI cZ AT AT_al AT_kp AT_ik AT_rf AT_hd AT_bs AT_se AT_bf AT_te AT_by AT_an AT_vs vT_ab vT_be vT_byl vT_tka vT_tkl vT_tkn vT_val fT_al fT_rf) sz) := by
  refine q_met (fun A => q_Qi D (wd_X8_is cI cZ AT AT_al AT_kp AT_ik AT_rf AT_hd AT_bs AT_se AT_bf AT_te AT_by AT_an AT_vs vT_ab vT_be vT_byl vT_tka vT_tkl vT_tkn vT_val fT_al out.2) out.1 A) (by decide) (Nat.le_of_ble_eq_true rfl) ?_
  intro p e s m below meth c ls A hx hb hr hml hown hts hlocks _ hA hS hP hD hK hN hl
  have hown : s.vm.findClass RX8 = some m.cls := hown
  have hl : lv_has ls 2 [(0, .ref AT), (1, .int p1)] := hl
  unfold fm_X8_is at hm
  refine q_gen hS hP ?_
  intro H locs hP hS
  refine lv_aload_n hx hb dX8_is_0 rfl (lv_at hl 0 rfl) ?_
  refine lv_iload_n hx hb dX8_is_1 rfl (lv_at hl 1 rfl) ?_
  obtain ⟨r_2, hc_2, hm⟩ := ob_s hm
  refine q_ci (q_rv (rest := []) ⟨hx, hb, hml, hown, hts⟩ hK hN hP hD (c_X8_isFlower l D cI cZ H.size AT AT_al AT_kp AT_ik AT_rf AT_hd AT_bs AT_se AT_bf AT_te AT_by AT_an AT_vs vT_ab vT_be vT_byl vT_tka vT_tkl vT_tkn vT_val fT_al p1 r_2 hc_2) mb_X8_isFlower mv_X8_isFlower wl_X8_138 [0, 1] rfl rfl rfl (Nat.le_of_ble_eq_true rfl) (Nat.le_of_ble_eq_true rfl) rfl hl.1 rfl (Nat.le_of_ble_eq_true rfl) ⟨Nat.le_refl 0, Nat.le_refl 0⟩ dX8_is_2) hP hD hS hA [0, 1] rfl rfl (fun H locs hP hD hS => ?_)
  have hP : va_P D vwCl (wd_X8_is cI cZ AT AT_al AT_kp AT_ik AT_rf AT_hd AT_bs AT_se AT_bf AT_te AT_by AT_an AT_vs vT_ab vT_be vT_byl vT_tka vT_tkl vT_tkn vT_val fT_al fT_rf) H := hP
  have hD : va_D A (wd_X8_is cI cZ AT AT_al AT_kp AT_ik AT_rf AT_hd AT_bs AT_se AT_bf AT_te AT_by AT_an AT_vs vT_ab vT_be vT_byl vT_tka vT_tkl vT_tkn vT_val fT_al fT_rf) := hD
  refine lv_if_eq (tgt := 16) hx hb dX8_is_5 (by decide) (fun c_5 => ?_) (fun c_5 => ?_)
  · have hm := it_s c_5 hm
    refine lv_aload_n hx hb dX8_is_16 rfl (lv_at hl 0 rfl) ?_
    refine lv_bipush (v := (-2)) hx hb dX8_is_17 (by decide) ?_
    obtain ⟨r_19, hc_19, hm⟩ := ob_s hm
    refine q_ci (q_rv (rest := []) ⟨hx, hb, hml, hown, hts⟩ hK hN hP hD (c_X8_bad l D cI cZ H.size AT AT_al AT_kp AT_ik AT_rf AT_hd AT_bs AT_se AT_bf AT_te AT_by AT_an AT_vs vT_ab vT_be vT_byl vT_tka vT_tkl vT_tkn vT_val fT_rf (-2) r_19 hc_19) mb_X8_bad mv_X8_bad wl_X8_75 [0, 2] rfl rfl rfl (Nat.le_of_ble_eq_true rfl) (Nat.le_of_ble_eq_true rfl) rfl hl.1 rfl (Nat.le_of_ble_eq_true rfl) ⟨Nat.le_refl 0, Nat.le_refl 0⟩ dX8_is_19) hP hD hS hA [0, 2] rfl rfl (fun H locs hP hD hS => ?_)
    have hP : va_P D vwCl (wd_X8_is cI cZ AT AT_al AT_kp AT_ik AT_rf AT_hd AT_bs AT_se AT_bf AT_te AT_by AT_an AT_vs vT_ab vT_be vT_byl vT_tka vT_tkl vT_tkn vT_val fT_al r_19.2) H := hP
    have hD : va_D A (wd_X8_is cI cZ AT AT_al AT_kp AT_ik AT_rf AT_hd AT_bs AT_se AT_bf AT_te AT_by AT_an AT_vs vT_ab vT_be vT_byl vT_tka vT_tkl vT_tkn vT_val fT_al r_19.2) := hD
    have hm := Option.some.inj hm
    subst hm
    exact q_iret (v := r_19.1) hx hb hr hlocks hP hS dX8_is_22
  · have hm := it_n c_5 hm
    refine lv_aload_n hx hb dX8_is_8 rfl (lv_at hl 0 rfl) ?_
    refine lv_iload_n hx hb dX8_is_9 rfl (lv_at hl 1 rfl) ?_
    obtain ⟨r_10, hc_10, hm⟩ := ob_s hm
    refine q_ci (q_rv (rest := []) ⟨hx, hb, hml, hown, hts⟩ hK hN hP hD (c_X8_kindsOfFlower l D cI cZ H.size AT AT_al AT_kp AT_ik AT_rf AT_hd AT_bs AT_se AT_bf AT_te AT_by AT_an AT_vs vT_ab vT_be vT_byl vT_tka vT_tkl vT_tkn vT_val fT_al p1 r_10 hc_10) mb_X8_kindsOfFlower mv_X8_kindsOfFlower wl_X8_179 [0, 1] rfl rfl rfl (Nat.le_of_ble_eq_true rfl) (Nat.le_of_ble_eq_true rfl) rfl hl.1 rfl (Nat.le_of_ble_eq_true rfl) ⟨Nat.le_refl 0, Nat.le_refl 0⟩ dX8_is_10) hP hD hS hA [0, 1] rfl rfl (fun H locs hP hD hS => ?_)
    have hP : va_P D vwCl (wd_X8_is cI cZ AT AT_al AT_kp AT_ik AT_rf AT_hd AT_bs AT_se AT_bf AT_te AT_by AT_an AT_vs vT_ab vT_be vT_byl vT_tka vT_tkl vT_tkn vT_val fT_al fT_rf) H := hP
    have hD : va_D A (wd_X8_is cI cZ AT AT_al AT_kp AT_ik AT_rf AT_hd AT_bs AT_se AT_bf AT_te AT_by AT_an AT_vs vT_ab vT_be vT_byl vT_tka vT_tkl vT_tkn vT_val fT_al fT_rf) := hD
    refine lv_goto (tgt := 22) hx hb dX8_is_13 (by decide) ?_
    have hm := Option.some.inj hm
    subst hm
    exact q_iret (v := r_10) hx hb hr hlocks hP hS dX8_is_22
theorem mb_X8_look : q_mb yX8_look cX8_look 7 (some .int) 1 := ⟨wc_X8_look, wn_X8, by decide, by decide, by decide +kernel⟩
theorem mv_X8_look : q_mv yX8_look 8 := ⟨wi_X8_look, ws_X8_look, _, rfl, rfl⟩
def wd_X8_look (cI cZ : ClassId) (AT AT_al AT_kp AT_ik AT_rf AT_hd AT_bs AT_se AT_bf AT_te AT_by AT_an AT_vs : Nat) (vT_ab : Int64) (vT_be : Int64) (vT_byl : Int32) (vT_tka : Int32) (vT_tkl : Int32) (vT_tkn : Int32) (vT_val : Int32) (fT_al : Nat → Int32) (fT_rf : Nat → Int32) (fT_te : Nat → Int32) : va_W := [(AT, .inr (8, [.ref AT_al, .ref AT_kp, .ref AT_ik, .ref AT_rf, .long vT_ab, .long vT_be, .ref AT_hd, .ref AT_bs, .ref AT_se, .ref AT_bf, .ref AT_te, .ref AT_by, .int vT_byl, .int vT_tka, .int vT_tkl, .int vT_tkn, .int vT_val, .ref AT_an, .ref AT_vs])), (AT_al, .inl (cI, 312, .inl fT_al)), (AT_rf, .inl (cI, 3, .inl fT_rf)), (AT_te, .inl (cI, 6, .inl fT_te))]
def fL_X8_look_44 (p1 : Int32) (fT_al : Nat → Int32) (k_30 : Int32 → Int32 → Int32 → Int32 → (Nat → Int32) → (Nat → Int32) → Option (Int32 × (Nat → Int32) × (Nat → Int32))) : Nat → Int32 → Int32 → Int32 → Int32 → Int32 → (Nat → Int32) → (Nat → Int32) → Option (Int32 × (Nat → Int32) × (Nat → Int32))
  | 0, _, _, _, _, _, _, _ => none
  | fu + 1, x6, x5, x4, x3, x2, fT_rf, fT_te => if 6 ≤ x6 then (Option.bind (fm_X8_mostAlike x2 fT_te) (fun r_82 => if x4 ≤ r_82 then (k_30 (x5 + 1) x4 x3 x2 fT_rf fT_te) else (k_30 (x5 + 1) r_82 x5 x2 fT_rf fT_te))) else (gd (43 + p1) 312 (Option.bind (fm_X8_tellsAs x6 (fT_al (Int32.toNatClampNeg (43 + p1))) x5) (fun r_70 => gd x6 6 (fL_X8_look_44 p1 fT_al k_30 fu (x6 + 1) x5 x4 x3 x2 fT_rf (upd fT_te (Int32.toNatClampNeg x6) r_70)))))
def fL_X8_look_30 (p1 : Int32) (fT_al : Nat → Int32) : Nat → Int32 → Int32 → Int32 → Int32 → (Nat → Int32) → (Nat → Int32) → Option (Int32 × (Nat → Int32) × (Nat → Int32))
  | 0, _, _, _, _, _, _ => none
  | fu + 1, x5, x4, x3, x2, fT_rf, fT_te => if 12 ≤ x5 then (some (x3, fT_rf, fT_te)) else (if x2 ≤ 0 then (some (x3, fT_rf, fT_te)) else (fL_X8_look_44 p1 fT_al (fun x5 x4 x3 x2 fT_rf fT_te => fL_X8_look_30 p1 fT_al fu x5 x4 x3 x2 fT_rf fT_te) FU 0 x5 x4 x3 x2 fT_rf fT_te))
def fm_X8_look (p1 : Int32) (fT_al : Nat → Int32) (fT_rf : Nat → Int32) (fT_te : Nat → Int32) : Option (Int32 × (Nat → Int32) × (Nat → Int32)) := Option.bind (fm_X8_isFlower p1 fT_al) (fun r_2 => if r_2 = 0 then (Option.bind (fm_X8_bad (-2) fT_rf) (fun r_11 => some (r_11.1, r_11.2, fT_te))) else (Option.bind (fm_X8_kindsOfFlower p1 fT_al) (fun r_17 => fL_X8_look_30 p1 fT_al FU 0 1000000 (-1) r_17 fT_rf fT_te)))
set_option maxHeartbeats 4000000 in
set_option maxRecDepth 100000 in
theorem c_X8_look (l : Launch) (D : va_G) (cI cZ : ClassId) (sz : Nat) (AT AT_al AT_kp AT_ik AT_rf AT_hd AT_bs AT_se AT_bf AT_te AT_by AT_an AT_vs : Nat) (vT_ab : Int64) (vT_be : Int64) (vT_byl : Int32) (vT_tka : Int32) (vT_tkl : Int32) (vT_tkn : Int32) (vT_val : Int32) (fT_al : Nat → Int32) (fT_rf : Nat → Int32) (fT_te : Nat → Int32) (p1 : Int32) (out : (Int32 × (Nat → Int32) × (Nat → Int32))) (hm : fm_X8_look p1 fT_al fT_rf fT_te = some out) : Met l yX8_look (Cond.code yX8_look cX8_look 7 (some .int) :: bg) { frames := 3, cells := 0, slots := 0, locals := 75 } (va_Pc [.ref AT, .int p1] (q_pre D cI cZ sz (wd_X8_look cI cZ AT AT_al AT_kp AT_ik AT_rf AT_hd AT_bs AT_se AT_bf AT_te AT_by AT_an AT_vs vT_ab vT_be vT_byl vT_tka vT_tkl vT_tkn vT_val fT_al fT_rf fT_te))) (q_Qi D (wd_X8_look cI cZ AT AT_al AT_kp AT_ik AT_rf AT_hd AT_bs AT_se AT_bf AT_te AT_by AT_an AT_vs vT_ab vT_be vT_byl vT_tka vT_tkl vT_tkn vT_val fT_al out.2.1 out.2.2) out.1 (va_A (wd_X8_look cI cZ AT AT_al AT_kp AT_ik AT_rf AT_hd AT_bs AT_se AT_bf AT_te AT_by AT_an AT_vs vT_ab vT_be vT_byl vT_tka vT_tkl vT_tkn vT_val fT_al fT_rf fT_te) sz)) 0 0 (va_A (wd_X8_look cI cZ AT AT_al AT_kp AT_ik AT_rf AT_hd AT_bs AT_se AT_bf AT_te AT_by AT_an AT_vs vT_ab vT_be vT_byl vT_tka vT_tkl vT_tkn vT_val fT_al fT_rf fT_te) sz) := by
  refine q_met (fun A => q_Qi D (wd_X8_look cI cZ AT AT_al AT_kp AT_ik AT_rf AT_hd AT_bs AT_se AT_bf AT_te AT_by AT_an AT_vs vT_ab vT_be vT_byl vT_tka vT_tkl vT_tkn vT_val fT_al out.2.1 out.2.2) out.1 A) (by decide) (Nat.le_of_ble_eq_true rfl) ?_
  intro p e s m below meth c ls A hx hb hr hml hown hts hlocks _ hA hS hP hD hK hN hl
  have hown : s.vm.findClass RX8 = some m.cls := hown
  have hl : lv_has ls 7 [(0, .ref AT), (1, .int p1)] := hl
  have hL_30 : ∀ (fu_30 : Nat) (x5 : Int32) (x4 : Int32) (x3 : Int32) (x2 : Int32) (fT_rf : Nat → Int32) (fT_te : Nat → Int32) (H : Heap) (locs : List Loc) (ls : Array Slot), fL_X8_look_30 p1 fT_al fu_30 x5 x4 x3 x2 fT_rf fT_te = some out → va_P D vwCl (wd_X8_look cI cZ AT AT_al AT_kp AT_ik AT_rf AT_hd AT_bs AT_se AT_bf AT_te AT_by AT_an AT_vs vT_ab vT_be vT_byl vT_tka vT_tkl vT_tkn vT_val fT_al fT_rf fT_te) H → va_D A (wd_X8_look cI cZ AT AT_al AT_kp AT_ik AT_rf AT_hd AT_bs AT_se AT_bf AT_te AT_by AT_an AT_vs vT_ab vT_be vT_byl vT_tka vT_tkl vT_tkn vT_val fT_al fT_rf fT_te) → va_S A s.heap H locs → lv_has ls 7 [(5, .int x5), (4, .int x4), (3, .int x3), (2, .int x2), (0, .ref AT), (1, .int p1)] → W p l e { frames := 3, cells := 0, slots := 0, locals := 75 } s m ([.ref AT, .int p1] : List Value).toArray below meth c H locs 0 0 (MQ below (q_Qi D (wd_X8_look cI cZ AT AT_al AT_kp AT_ik AT_rf AT_hd AT_bs AT_se AT_bf AT_te AT_by AT_an AT_vs vT_ab vT_be vT_byl vT_tka vT_tkl vT_tkn vT_val fT_al out.2.1 out.2.2) out.1 A) ([.ref AT, .int p1] : List Value).toArray s 0 0 A) (F0 m 30 ls []) := by
    intro fu_30
    induction fu_30 with
    | zero => intro x5 x4 x3 x2 fT_rf fT_te H locs ls hm hP hD hS hl; exact absurd (show (none : Option (Int32 × (Nat → Int32) × (Nat → Int32))) = some out from hm) (fun h => nomatch h)
    | succ fu_30 ih_30 =>
      have hL_44 : ∀ (fu_44 : Nat) (x6 : Int32) (x5 : Int32) (x4 : Int32) (x3 : Int32) (x2 : Int32) (fT_rf : Nat → Int32) (fT_te : Nat → Int32) (H : Heap) (locs : List Loc) (ls : Array Slot), fL_X8_look_44 p1 fT_al (fun x5 x4 x3 x2 fT_rf fT_te => fL_X8_look_30 p1 fT_al fu_30 x5 x4 x3 x2 fT_rf fT_te) fu_44 x6 x5 x4 x3 x2 fT_rf fT_te = some out → va_P D vwCl (wd_X8_look cI cZ AT AT_al AT_kp AT_ik AT_rf AT_hd AT_bs AT_se AT_bf AT_te AT_by AT_an AT_vs vT_ab vT_be vT_byl vT_tka vT_tkl vT_tkn vT_val fT_al fT_rf fT_te) H → va_D A (wd_X8_look cI cZ AT AT_al AT_kp AT_ik AT_rf AT_hd AT_bs AT_se AT_bf AT_te AT_by AT_an AT_vs vT_ab vT_be vT_byl vT_tka vT_tkl vT_tkn vT_val fT_al fT_rf fT_te) → va_S A s.heap H locs → lv_has ls 7 [(6, .int x6), (5, .int x5), (4, .int x4), (3, .int x3), (2, .int x2), (0, .ref AT), (1, .int p1)] → W p l e { frames := 3, cells := 0, slots := 0, locals := 75 } s m ([.ref AT, .int p1] : List Value).toArray below meth c H locs 0 0 (MQ below (q_Qi D (wd_X8_look cI cZ AT AT_al AT_kp AT_ik AT_rf AT_hd AT_bs AT_se AT_bf AT_te AT_by AT_an AT_vs vT_ab vT_be vT_byl vT_tka vT_tkl vT_tkn vT_val fT_al out.2.1 out.2.2) out.1 A) ([.ref AT, .int p1] : List Value).toArray s 0 0 A) (F0 m 44 ls []) := by
        intro fu_44
        induction fu_44 with
        | zero => intro x6 x5 x4 x3 x2 fT_rf fT_te H locs ls hm hP hD hS hl; exact absurd (show (none : Option (Int32 × (Nat → Int32) × (Nat → Int32))) = some out from hm) (fun h => nomatch h)
        | succ fu_44 ih_44 =>
          intro x6 x5 x4 x3 x2 fT_rf fT_te H locs ls hm hP hD hS hl
          rw [fL_X8_look_44] at hm
          refine lv_iload hx hb dX8_look_44 (lv_at hl 0 rfl) ?_
          refine lv_bipush (v := 6) hx hb dX8_look_46 (by decide) ?_
          refine lv_icmp_ge (tgt := 80) hx hb dX8_look_48 (by decide) (fun c_48 => ?_) (fun c_48 => ?_)
          · have hm := it_s c_48 hm
            refine lv_aload_n hx hb dX8_look_80 rfl (lv_at hl 5 rfl) ?_
            refine lv_iload_n hx hb dX8_look_81 rfl (lv_at hl 4 rfl) ?_
            obtain ⟨r_82, hc_82, hm⟩ := ob_s hm
            refine q_ci (q_rv (rest := []) ⟨hx, hb, hml, hown, hts⟩ hK hN hP hD (c_X8_mostAlike l D cI cZ H.size AT AT_al AT_kp AT_ik AT_rf AT_hd AT_bs AT_se AT_bf AT_te AT_by AT_an AT_vs vT_ab vT_be vT_byl vT_tka vT_tkl vT_tkn vT_val fT_te x2 r_82 hc_82) mb_X8_mostAlike mv_X8_mostAlike wl_X8_182 [0, 3] rfl rfl rfl (Nat.le_of_ble_eq_true rfl) (Nat.le_of_ble_eq_true rfl) rfl hl.1 rfl (Nat.le_of_ble_eq_true rfl) ⟨Nat.le_refl 0, Nat.le_refl 0⟩ dX8_look_82) hP hD hS hA [0, 3] rfl rfl (fun H locs hP hD hS => ?_)
            have hP : va_P D vwCl (wd_X8_look cI cZ AT AT_al AT_kp AT_ik AT_rf AT_hd AT_bs AT_se AT_bf AT_te AT_by AT_an AT_vs vT_ab vT_be vT_byl vT_tka vT_tkl vT_tkn vT_val fT_al fT_rf fT_te) H := hP
            have hD : va_D A (wd_X8_look cI cZ AT AT_al AT_kp AT_ik AT_rf AT_hd AT_bs AT_se AT_bf AT_te AT_by AT_an AT_vs vT_ab vT_be vT_byl vT_tka vT_tkl vT_tkn vT_val fT_al fT_rf fT_te) := hD
            refine lv_istore (lv' := [(6, .int r_82), (5, .int x5), (4, .int x4), (3, .int x3), (2, .int x2), (0, .ref AT), (1, .int p1)]) hx hb dX8_look_85 hl (by decide) rfl (fun ls hl => ?_)
            refine lv_iload hx hb dX8_look_87 (lv_at hl 0 rfl) ?_
            refine lv_iload hx hb dX8_look_89 (lv_at hl 2 rfl) ?_
            refine lv_icmp_ge (tgt := 99) hx hb dX8_look_91 (by decide) (fun c_91 => ?_) (fun c_91 => ?_)
            · have hm := it_s c_91 hm
              refine lv_iload_n hx hb dX8_look_99 rfl (lv_at hl 3 rfl) ?_
              refine lv_istore_n (lv' := [(3, .int x3), (6, .int r_82), (5, .int x5), (4, .int x4), (2, .int x2), (0, .ref AT), (1, .int p1)]) hx hb dX8_look_100 rfl hl (by decide) rfl (fun ls hl => ?_)
              refine lv_iload hx hb dX8_look_101 (lv_at hl 1 rfl) ?_
              refine lv_iload hx hb dX8_look_103 (lv_at hl 3 rfl) ?_
              refine lv_icmp_ge (tgt := 113) hx hb dX8_look_105 (by decide) (fun _ => ?_) (fun c => absurd c_91 c)
              refine lv_iload hx hb dX8_look_113 (lv_at hl 3 rfl) ?_
              refine lv_istore (lv' := [(4, .int x4), (3, .int x3), (6, .int r_82), (5, .int x5), (2, .int x2), (0, .ref AT), (1, .int p1)]) hx hb dX8_look_115 hl (by decide) rfl (fun ls hl => ?_)
              refine lv_iinc (v := (x5 + 1)) (lv' := [(5, .int (x5 + 1)), (4, .int x4), (3, .int x3), (6, .int r_82), (2, .int x2), (0, .ref AT), (1, .int p1)]) hx hb dX8_look_117 hl (k := 3) rfl rfl (by decide) rfl (fun ls hl => ?_)
              refine lv_goto (tgt := 30) hx hb dX8_look_120 (by decide) ?_
              exact ih_30 (x5 + 1) x4 x3 x2 fT_rf fT_te H locs ls hm hP hD hS (lv_sub hl [0, 1, 2, 4, 5, 6] rfl)
            · have hm := it_n c_91 hm
              refine lv_iload hx hb dX8_look_94 (lv_at hl 1 rfl) ?_
              refine lv_goto (tgt := 100) hx hb dX8_look_96 (by decide) ?_
              refine lv_istore_n (lv' := [(3, .int x5), (6, .int r_82), (5, .int x5), (4, .int x4), (2, .int x2), (0, .ref AT), (1, .int p1)]) hx hb dX8_look_100 rfl hl (by decide) rfl (fun ls hl => ?_)
              refine lv_iload hx hb dX8_look_101 (lv_at hl 1 rfl) ?_
              refine lv_iload hx hb dX8_look_103 (lv_at hl 3 rfl) ?_
              refine lv_icmp_ge (tgt := 113) hx hb dX8_look_105 (by decide) (fun c => absurd c c_91) (fun _ => ?_)
              refine lv_iload hx hb dX8_look_108 (lv_at hl 1 rfl) ?_
              refine lv_goto (tgt := 115) hx hb dX8_look_110 (by decide) ?_
              refine lv_istore (lv' := [(4, .int r_82), (3, .int x5), (6, .int r_82), (5, .int x5), (2, .int x2), (0, .ref AT), (1, .int p1)]) hx hb dX8_look_115 hl (by decide) rfl (fun ls hl => ?_)
              refine lv_iinc (v := (x5 + 1)) (lv' := [(5, .int (x5 + 1)), (4, .int r_82), (3, .int x5), (6, .int r_82), (2, .int x2), (0, .ref AT), (1, .int p1)]) hx hb dX8_look_117 hl (k := 3) rfl rfl (by decide) rfl (fun ls hl => ?_)
              refine lv_goto (tgt := 30) hx hb dX8_look_120 (by decide) ?_
              exact ih_30 (x5 + 1) r_82 x5 x2 fT_rf fT_te H locs ls hm hP hD hS (lv_sub hl [0, 1, 2, 4, 5, 6] rfl)
          · have hm := it_n c_48 hm
            refine lv_aload_n hx hb dX8_look_51 rfl (lv_at hl 5 rfl) ?_
            refine gf_X8_39 (v := .ref AT_te) hx hb hts hown hK hN hP 0 rfl rfl dX8_look_52 ?_
            refine lv_iload hx hb dX8_look_55 (lv_at hl 0 rfl) ?_
            refine lv_iload hx hb dX8_look_57 (lv_at hl 0 rfl) ?_
            refine lv_aload_n hx hb dX8_look_59 rfl (lv_at hl 5 rfl) ?_
            refine gf_X8_7 (v := .ref AT_al) hx hb hts hown hK hN hP 0 rfl rfl dX8_look_60 ?_
            refine lv_bipush (v := 43) hx hb dX8_look_63 (by decide) ?_
            refine lv_iload_n hx hb dX8_look_65 rfl (lv_at hl 6 rfl) ?_
            refine lv_iadd hx hb dX8_look_66 ?_
            obtain ⟨hi_67, hm⟩ := gd_s hm
            refine q_iald (j := (Int32.toNatClampNeg (43 + p1))) hx hb hK hP 1 rfl hi_67 rfl dX8_look_67 ?_
            refine lv_iload hx hb dX8_look_68 (lv_at hl 1 rfl) ?_
            obtain ⟨r_70, hc_70, hm⟩ := ob_s hm
            refine q_ci (q_rs (rest := [.int x6, .ref AT_te]) ⟨hx, hb, hml, hown, hts⟩ hK hN hP hD (c_X8_tellsAs l D cI cZ H.size x6 (fT_al (Int32.toNatClampNeg (43 + p1))) x5 r_70 hc_70) mb_X8_tellsAs wt_X8_tellsAs wl_X8_96 [] rfl rfl (Nat.le_of_ble_eq_true rfl) (Nat.le_of_ble_eq_true rfl) rfl hl.1 rfl (Nat.le_of_ble_eq_true rfl) ⟨Nat.le_refl 0, Nat.le_refl 0⟩ dX8_look_70) hP hD hS hA [] rfl rfl (fun H locs hP hD hS => ?_)
            have hP : va_P D vwCl (wd_X8_look cI cZ AT AT_al AT_kp AT_ik AT_rf AT_hd AT_bs AT_se AT_bf AT_te AT_by AT_an AT_vs vT_ab vT_be vT_byl vT_tka vT_tkl vT_tkn vT_val fT_al fT_rf fT_te) H := hP
            have hD : va_D A (wd_X8_look cI cZ AT AT_al AT_kp AT_ik AT_rf AT_hd AT_bs AT_se AT_bf AT_te AT_by AT_an AT_vs vT_ab vT_be vT_byl vT_tka vT_tkl vT_tkn vT_val fT_al fT_rf fT_te) := hD
            obtain ⟨hi_73, hm⟩ := gd_s hm
            refine q_iast (j := (Int32.toNatClampNeg x6)) hx hb hK hP hD hS 3 rfl hi_73 rfl dX8_look_73 (fun H locs hP hD hS => ?_)
            have hP : va_P D vwCl (wd_X8_look cI cZ AT AT_al AT_kp AT_ik AT_rf AT_hd AT_bs AT_se AT_bf AT_te AT_by AT_an AT_vs vT_ab vT_be vT_byl vT_tka vT_tkl vT_tkn vT_val fT_al fT_rf (upd fT_te (Int32.toNatClampNeg x6) r_70)) H := hP
            have hD : va_D A (wd_X8_look cI cZ AT AT_al AT_kp AT_ik AT_rf AT_hd AT_bs AT_se AT_bf AT_te AT_by AT_an AT_vs vT_ab vT_be vT_byl vT_tka vT_tkl vT_tkn vT_val fT_al fT_rf (upd fT_te (Int32.toNatClampNeg x6) r_70)) := hD
            refine lv_iinc (v := (x6 + 1)) (lv' := [(6, .int (x6 + 1)), (5, .int x5), (4, .int x4), (3, .int x3), (2, .int x2), (0, .ref AT), (1, .int p1)]) hx hb dX8_look_74 hl (k := 0) rfl rfl (by decide) rfl (fun ls hl => ?_)
            refine lv_goto (tgt := 44) hx hb dX8_look_77 (by decide) ?_
            exact ih_44 (x6 + 1) x5 x4 x3 x2 fT_rf (upd fT_te (Int32.toNatClampNeg x6) r_70) H locs ls hm hP hD hS (lv_sub hl [0, 1, 2, 3, 4, 5, 6] rfl)
      intro x5 x4 x3 x2 fT_rf fT_te H locs ls hm hP hD hS hl
      rw [fL_X8_look_30] at hm
      refine lv_iload hx hb dX8_look_30 (lv_at hl 0 rfl) ?_
      refine lv_bipush (v := 12) hx hb dX8_look_32 (by decide) ?_
      refine lv_icmp_ge (tgt := 123) hx hb dX8_look_34 (by decide) (fun c_34 => ?_) (fun c_34 => ?_)
      · have hm := it_s c_34 hm
        refine lv_iload_n hx hb dX8_look_123 rfl (lv_at hl 2 rfl) ?_
        have hm := Option.some.inj hm
        subst hm
        exact q_iret (v := x3) hx hb hr hlocks hP hS dX8_look_124
      · have hm := it_n c_34 hm
        refine lv_iload_n hx hb dX8_look_37 rfl (lv_at hl 3 rfl) ?_
        refine lv_if_le (tgt := 123) hx hb dX8_look_38 (by decide) (fun c_38 => ?_) (fun c_38 => ?_)
        · have hm := it_s c_38 hm
          refine lv_iload_n hx hb dX8_look_123 rfl (lv_at hl 2 rfl) ?_
          have hm := Option.some.inj hm
          subst hm
          exact q_iret (v := x3) hx hb hr hlocks hP hS dX8_look_124
        · have hm := it_n c_38 hm
          refine lv_iconst (v := 0) hx hb dX8_look_41 (by decide) ?_
          refine lv_istore (lv' := [(6, .int 0), (5, .int x5), (4, .int x4), (3, .int x3), (2, .int x2), (0, .ref AT), (1, .int p1)]) hx hb dX8_look_42 hl (by decide) rfl (fun ls hl => ?_)
          exact hL_44 FU 0 x5 x4 x3 x2 fT_rf fT_te H locs ls hm hP hD hS (lv_sub hl [0, 1, 2, 3, 4, 5, 6] rfl)
  unfold fm_X8_look at hm
  refine q_gen hS hP ?_
  intro H locs hP hS
  refine lv_aload_n hx hb dX8_look_0 rfl (lv_at hl 0 rfl) ?_
  refine lv_iload_n hx hb dX8_look_1 rfl (lv_at hl 1 rfl) ?_
  obtain ⟨r_2, hc_2, hm⟩ := ob_s hm
  refine q_ci (q_rv (rest := []) ⟨hx, hb, hml, hown, hts⟩ hK hN hP hD (c_X8_isFlower l D cI cZ H.size AT AT_al AT_kp AT_ik AT_rf AT_hd AT_bs AT_se AT_bf AT_te AT_by AT_an AT_vs vT_ab vT_be vT_byl vT_tka vT_tkl vT_tkn vT_val fT_al p1 r_2 hc_2) mb_X8_isFlower mv_X8_isFlower wl_X8_138 [0, 1] rfl rfl rfl (Nat.le_of_ble_eq_true rfl) (Nat.le_of_ble_eq_true rfl) rfl hl.1 rfl (Nat.le_of_ble_eq_true rfl) ⟨Nat.le_refl 0, Nat.le_refl 0⟩ dX8_look_2) hP hD hS hA [0, 1] rfl rfl (fun H locs hP hD hS => ?_)
  have hP : va_P D vwCl (wd_X8_look cI cZ AT AT_al AT_kp AT_ik AT_rf AT_hd AT_bs AT_se AT_bf AT_te AT_by AT_an AT_vs vT_ab vT_be vT_byl vT_tka vT_tkl vT_tkn vT_val fT_al fT_rf fT_te) H := hP
  have hD : va_D A (wd_X8_look cI cZ AT AT_al AT_kp AT_ik AT_rf AT_hd AT_bs AT_se AT_bf AT_te AT_by AT_an AT_vs vT_ab vT_be vT_byl vT_tka vT_tkl vT_tkn vT_val fT_al fT_rf fT_te) := hD
  refine lv_if_ne (tgt := 15) hx hb dX8_look_5 (by decide) (fun c_5 => ?_) (fun c_5 => ?_)
  · have hm := it_n c_5 hm
    refine lv_aload_n hx hb dX8_look_15 rfl (lv_at hl 0 rfl) ?_
    refine lv_iload_n hx hb dX8_look_16 rfl (lv_at hl 1 rfl) ?_
    obtain ⟨r_17, hc_17, hm⟩ := ob_s hm
    refine q_ci (q_rv (rest := []) ⟨hx, hb, hml, hown, hts⟩ hK hN hP hD (c_X8_kindsOfFlower l D cI cZ H.size AT AT_al AT_kp AT_ik AT_rf AT_hd AT_bs AT_se AT_bf AT_te AT_by AT_an AT_vs vT_ab vT_be vT_byl vT_tka vT_tkl vT_tkn vT_val fT_al p1 r_17 hc_17) mb_X8_kindsOfFlower mv_X8_kindsOfFlower wl_X8_179 [0, 1] rfl rfl rfl (Nat.le_of_ble_eq_true rfl) (Nat.le_of_ble_eq_true rfl) rfl hl.1 rfl (Nat.le_of_ble_eq_true rfl) ⟨Nat.le_refl 0, Nat.le_refl 0⟩ dX8_look_17) hP hD hS hA [0, 1] rfl rfl (fun H locs hP hD hS => ?_)
    have hP : va_P D vwCl (wd_X8_look cI cZ AT AT_al AT_kp AT_ik AT_rf AT_hd AT_bs AT_se AT_bf AT_te AT_by AT_an AT_vs vT_ab vT_be vT_byl vT_tka vT_tkl vT_tkn vT_val fT_al fT_rf fT_te) H := hP
    have hD : va_D A (wd_X8_look cI cZ AT AT_al AT_kp AT_ik AT_rf AT_hd AT_bs AT_se AT_bf AT_te AT_by AT_an AT_vs vT_ab vT_be vT_byl vT_tka vT_tkl vT_tkn vT_val fT_al fT_rf fT_te) := hD
    refine lv_istore_n (lv' := [(2, .int r_17), (0, .ref AT), (1, .int p1)]) hx hb dX8_look_20 rfl hl (by decide) rfl (fun ls hl => ?_)
    refine lv_iconst (v := (-1)) hx hb dX8_look_21 (by decide) ?_
    refine lv_istore_n (lv' := [(3, .int (-1)), (2, .int r_17), (0, .ref AT), (1, .int p1)]) hx hb dX8_look_22 rfl hl (by decide) rfl (fun ls hl => ?_)
    refine lv_ldc (v := 1000000) hx hb hown (hts _ wv_X8_158) dX8_look_23 ?_
    refine lv_istore (lv' := [(4, .int 1000000), (3, .int (-1)), (2, .int r_17), (0, .ref AT), (1, .int p1)]) hx hb dX8_look_25 hl (by decide) rfl (fun ls hl => ?_)
    refine lv_iconst (v := 0) hx hb dX8_look_27 (by decide) ?_
    refine lv_istore (lv' := [(5, .int 0), (4, .int 1000000), (3, .int (-1)), (2, .int r_17), (0, .ref AT), (1, .int p1)]) hx hb dX8_look_28 hl (by decide) rfl (fun ls hl => ?_)
    exact hL_30 FU 0 1000000 (-1) r_17 fT_rf fT_te H locs ls hm hP hD hS (lv_sub hl [0, 1, 2, 3, 4, 5] rfl)
  · have hm := it_s c_5 hm
    refine lv_aload_n hx hb dX8_look_8 rfl (lv_at hl 0 rfl) ?_
    refine lv_bipush (v := (-2)) hx hb dX8_look_9 (by decide) ?_
    obtain ⟨r_11, hc_11, hm⟩ := ob_s hm
    refine q_ci (q_rv (rest := []) ⟨hx, hb, hml, hown, hts⟩ hK hN hP hD (c_X8_bad l D cI cZ H.size AT AT_al AT_kp AT_ik AT_rf AT_hd AT_bs AT_se AT_bf AT_te AT_by AT_an AT_vs vT_ab vT_be vT_byl vT_tka vT_tkl vT_tkn vT_val fT_rf (-2) r_11 hc_11) mb_X8_bad mv_X8_bad wl_X8_75 [0, 2] rfl rfl rfl (Nat.le_of_ble_eq_true rfl) (Nat.le_of_ble_eq_true rfl) rfl hl.1 rfl (Nat.le_of_ble_eq_true rfl) ⟨Nat.le_refl 0, Nat.le_refl 0⟩ dX8_look_11) hP hD hS hA [0, 2] rfl rfl (fun H locs hP hD hS => ?_)
    have hP : va_P D vwCl (wd_X8_look cI cZ AT AT_al AT_kp AT_ik AT_rf AT_hd AT_bs AT_se AT_bf AT_te AT_by AT_an AT_vs vT_ab vT_be vT_byl vT_tka vT_tkl vT_tkn vT_val fT_al r_11.2 fT_te) H := hP
    have hD : va_D A (wd_X8_look cI cZ AT AT_al AT_kp AT_ik AT_rf AT_hd AT_bs AT_se AT_bf AT_te AT_by AT_an AT_vs vT_ab vT_be vT_byl vT_tka vT_tkl vT_tkn vT_val fT_al r_11.2 fT_te) := hD
    have hm := Option.some.inj hm
    subst hm
    exact q_iret (v := r_11.1) hx hb hr hlocks hP hS dX8_look_14
theorem mb_X8_kinds : q_mb yX8_kinds cX8_kinds 2 (some .int) 1 := ⟨wc_X8_kinds, wn_X8, by decide, by decide, by decide +kernel⟩
theorem mv_X8_kinds : q_mv yX8_kinds 8 := ⟨wi_X8_kinds, ws_X8_kinds, _, rfl, rfl⟩
def wd_X8_kinds (cI cZ : ClassId) (AT AT_al AT_kp AT_ik AT_rf AT_hd AT_bs AT_se AT_bf AT_te AT_by AT_an AT_vs : Nat) (vT_ab : Int64) (vT_be : Int64) (vT_byl : Int32) (vT_tka : Int32) (vT_tkl : Int32) (vT_tkn : Int32) (vT_val : Int32) (fT_al : Nat → Int32) (fT_rf : Nat → Int32) : va_W := [(AT, .inr (8, [.ref AT_al, .ref AT_kp, .ref AT_ik, .ref AT_rf, .long vT_ab, .long vT_be, .ref AT_hd, .ref AT_bs, .ref AT_se, .ref AT_bf, .ref AT_te, .ref AT_by, .int vT_byl, .int vT_tka, .int vT_tkl, .int vT_tkn, .int vT_val, .ref AT_an, .ref AT_vs])), (AT_al, .inl (cI, 312, .inl fT_al)), (AT_rf, .inl (cI, 3, .inl fT_rf))]
def fm_X8_kinds (p1 : Int32) (fT_al : Nat → Int32) (fT_rf : Nat → Int32) : Option (Int32 × (Nat → Int32)) := Option.bind (fm_X8_isSleeper p1 fT_al) (fun r_2 => if r_2 = 0 then (Option.bind (fm_X8_bad (-2) fT_rf) (fun r_19 => some (r_19.1, r_19.2))) else (Option.bind (fm_X8_kindsOfSleeper p1 fT_al) (fun r_10 => some (r_10, fT_rf))))
set_option maxHeartbeats 4000000 in
set_option maxRecDepth 100000 in
theorem c_X8_kinds (l : Launch) (D : va_G) (cI cZ : ClassId) (sz : Nat) (AT AT_al AT_kp AT_ik AT_rf AT_hd AT_bs AT_se AT_bf AT_te AT_by AT_an AT_vs : Nat) (vT_ab : Int64) (vT_be : Int64) (vT_byl : Int32) (vT_tka : Int32) (vT_tkl : Int32) (vT_tkn : Int32) (vT_val : Int32) (fT_al : Nat → Int32) (fT_rf : Nat → Int32) (p1 : Int32) (out : (Int32 × (Nat → Int32))) (hm : fm_X8_kinds p1 fT_al fT_rf = some out) : Met l yX8_kinds (Cond.code yX8_kinds cX8_kinds 2 (some .int) :: bg) { frames := 3, cells := 0, slots := 0, locals := 75 } (va_Pc [.ref AT, .int p1] (q_pre D cI cZ sz (wd_X8_kinds cI cZ AT AT_al AT_kp AT_ik AT_rf AT_hd AT_bs AT_se AT_bf AT_te AT_by AT_an AT_vs vT_ab vT_be vT_byl vT_tka vT_tkl vT_tkn vT_val fT_al fT_rf))) (q_Qi D (wd_X8_kinds cI cZ AT AT_al AT_kp AT_ik AT_rf AT_hd AT_bs AT_se AT_bf AT_te AT_by AT_an AT_vs vT_ab vT_be vT_byl vT_tka vT_tkl vT_tkn vT_val fT_al out.2) out.1 (va_A (wd_X8_kinds cI cZ AT AT_al AT_kp AT_ik AT_rf AT_hd AT_bs AT_se AT_bf AT_te AT_by AT_an AT_vs vT_ab vT_be vT_byl vT_tka vT_tkl vT_tkn vT_val fT_al fT_rf) sz)) 0 0 (va_A (wd_X8_kinds cI cZ AT AT_al AT_kp AT_ik AT_rf AT_hd AT_bs AT_se AT_bf AT_te AT_by AT_an AT_vs vT_ab vT_be vT_byl vT_tka vT_tkl vT_tkn vT_val fT_al fT_rf) sz) := by
  refine q_met (fun A => q_Qi D (wd_X8_kinds cI cZ AT AT_al AT_kp AT_ik AT_rf AT_hd AT_bs AT_se AT_bf AT_te AT_by AT_an AT_vs vT_ab vT_be vT_byl vT_tka vT_tkl vT_tkn vT_val fT_al out.2) out.1 A) (by decide) (Nat.le_of_ble_eq_true rfl) ?_
  intro p e s m below meth c ls A hx hb hr hml hown hts hlocks _ hA hS hP hD hK hN hl
  have hown : s.vm.findClass RX8 = some m.cls := hown
  have hl : lv_has ls 2 [(0, .ref AT), (1, .int p1)] := hl
  unfold fm_X8_kinds at hm
  refine q_gen hS hP ?_
  intro H locs hP hS
  refine lv_aload_n hx hb dX8_kinds_0 rfl (lv_at hl 0 rfl) ?_
  refine lv_iload_n hx hb dX8_kinds_1 rfl (lv_at hl 1 rfl) ?_
  obtain ⟨r_2, hc_2, hm⟩ := ob_s hm
  refine q_ci (q_rv (rest := []) ⟨hx, hb, hml, hown, hts⟩ hK hN hP hD (c_X8_isSleeper l D cI cZ H.size AT AT_al AT_kp AT_ik AT_rf AT_hd AT_bs AT_se AT_bf AT_te AT_by AT_an AT_vs vT_ab vT_be vT_byl vT_tka vT_tkl vT_tkn vT_val fT_al p1 r_2 hc_2) mb_X8_isSleeper mv_X8_isSleeper wl_X8_132 [0, 1] rfl rfl rfl (Nat.le_of_ble_eq_true rfl) (Nat.le_of_ble_eq_true rfl) rfl hl.1 rfl (Nat.le_of_ble_eq_true rfl) ⟨Nat.le_refl 0, Nat.le_refl 0⟩ dX8_kinds_2) hP hD hS hA [0, 1] rfl rfl (fun H locs hP hD hS => ?_)
  have hP : va_P D vwCl (wd_X8_kinds cI cZ AT AT_al AT_kp AT_ik AT_rf AT_hd AT_bs AT_se AT_bf AT_te AT_by AT_an AT_vs vT_ab vT_be vT_byl vT_tka vT_tkl vT_tkn vT_val fT_al fT_rf) H := hP
  have hD : va_D A (wd_X8_kinds cI cZ AT AT_al AT_kp AT_ik AT_rf AT_hd AT_bs AT_se AT_bf AT_te AT_by AT_an AT_vs vT_ab vT_be vT_byl vT_tka vT_tkl vT_tkn vT_val fT_al fT_rf) := hD
  refine lv_if_eq (tgt := 16) hx hb dX8_kinds_5 (by decide) (fun c_5 => ?_) (fun c_5 => ?_)
  · have hm := it_s c_5 hm
    refine lv_aload_n hx hb dX8_kinds_16 rfl (lv_at hl 0 rfl) ?_
    refine lv_bipush (v := (-2)) hx hb dX8_kinds_17 (by decide) ?_
    obtain ⟨r_19, hc_19, hm⟩ := ob_s hm
    refine q_ci (q_rv (rest := []) ⟨hx, hb, hml, hown, hts⟩ hK hN hP hD (c_X8_bad l D cI cZ H.size AT AT_al AT_kp AT_ik AT_rf AT_hd AT_bs AT_se AT_bf AT_te AT_by AT_an AT_vs vT_ab vT_be vT_byl vT_tka vT_tkl vT_tkn vT_val fT_rf (-2) r_19 hc_19) mb_X8_bad mv_X8_bad wl_X8_75 [0, 2] rfl rfl rfl (Nat.le_of_ble_eq_true rfl) (Nat.le_of_ble_eq_true rfl) rfl hl.1 rfl (Nat.le_of_ble_eq_true rfl) ⟨Nat.le_refl 0, Nat.le_refl 0⟩ dX8_kinds_19) hP hD hS hA [0, 2] rfl rfl (fun H locs hP hD hS => ?_)
    have hP : va_P D vwCl (wd_X8_kinds cI cZ AT AT_al AT_kp AT_ik AT_rf AT_hd AT_bs AT_se AT_bf AT_te AT_by AT_an AT_vs vT_ab vT_be vT_byl vT_tka vT_tkl vT_tkn vT_val fT_al r_19.2) H := hP
    have hD : va_D A (wd_X8_kinds cI cZ AT AT_al AT_kp AT_ik AT_rf AT_hd AT_bs AT_se AT_bf AT_te AT_by AT_an AT_vs vT_ab vT_be vT_byl vT_tka vT_tkl vT_tkn vT_val fT_al r_19.2) := hD
    have hm := Option.some.inj hm
    subst hm
    exact q_iret (v := r_19.1) hx hb hr hlocks hP hS dX8_kinds_22
  · have hm := it_n c_5 hm
    refine lv_aload_n hx hb dX8_kinds_8 rfl (lv_at hl 0 rfl) ?_
    refine lv_iload_n hx hb dX8_kinds_9 rfl (lv_at hl 1 rfl) ?_
    obtain ⟨r_10, hc_10, hm⟩ := ob_s hm
    refine q_ci (q_rv (rest := []) ⟨hx, hb, hml, hown, hts⟩ hK hN hP hD (c_X8_kindsOfSleeper l D cI cZ H.size AT AT_al AT_kp AT_ik AT_rf AT_hd AT_bs AT_se AT_bf AT_te AT_by AT_an AT_vs vT_ab vT_be vT_byl vT_tka vT_tkl vT_tkn vT_val fT_al p1 r_10 hc_10) mb_X8_kindsOfSleeper mv_X8_kindsOfSleeper wl_X8_185 [0, 1] rfl rfl rfl (Nat.le_of_ble_eq_true rfl) (Nat.le_of_ble_eq_true rfl) rfl hl.1 rfl (Nat.le_of_ble_eq_true rfl) ⟨Nat.le_refl 0, Nat.le_refl 0⟩ dX8_kinds_10) hP hD hS hA [0, 1] rfl rfl (fun H locs hP hD hS => ?_)
    have hP : va_P D vwCl (wd_X8_kinds cI cZ AT AT_al AT_kp AT_ik AT_rf AT_hd AT_bs AT_se AT_bf AT_te AT_by AT_an AT_vs vT_ab vT_be vT_byl vT_tka vT_tkl vT_tkn vT_val fT_al fT_rf) H := hP
    have hD : va_D A (wd_X8_kinds cI cZ AT AT_al AT_kp AT_ik AT_rf AT_hd AT_bs AT_se AT_bf AT_te AT_by AT_an AT_vs vT_ab vT_be vT_byl vT_tka vT_tkl vT_tkn vT_val fT_al fT_rf) := hD
    refine lv_goto (tgt := 22) hx hb dX8_kinds_13 (by decide) ?_
    have hm := Option.some.inj hm
    subst hm
    exact q_iret (v := r_10) hx hb hr hlocks hP hS dX8_kinds_22
theorem mb_X8_ask : q_mb yX8_ask cX8_ask 7 (some .int) 1 := ⟨wc_X8_ask, wn_X8, by decide, by decide, by decide +kernel⟩
theorem mv_X8_ask : q_mv yX8_ask 8 := ⟨wi_X8_ask, ws_X8_ask, _, rfl, rfl⟩
def wd_X8_ask (cI cZ : ClassId) (AT AT_al AT_kp AT_ik AT_rf AT_hd AT_bs AT_se AT_bf AT_te AT_by AT_an AT_vs : Nat) (vT_ab : Int64) (vT_be : Int64) (vT_byl : Int32) (vT_tka : Int32) (vT_tkl : Int32) (vT_tkn : Int32) (vT_val : Int32) (fT_al : Nat → Int32) (fT_rf : Nat → Int32) (fT_te : Nat → Int32) : va_W := [(AT, .inr (8, [.ref AT_al, .ref AT_kp, .ref AT_ik, .ref AT_rf, .long vT_ab, .long vT_be, .ref AT_hd, .ref AT_bs, .ref AT_se, .ref AT_bf, .ref AT_te, .ref AT_by, .int vT_byl, .int vT_tka, .int vT_tkl, .int vT_tkn, .int vT_val, .ref AT_an, .ref AT_vs])), (AT_al, .inl (cI, 312, .inl fT_al)), (AT_rf, .inl (cI, 3, .inl fT_rf)), (AT_te, .inl (cI, 6, .inl fT_te))]
def fL_X8_ask_45 (p1 : Int32) (fT_al : Nat → Int32) (k_30 : Int32 → Int32 → Int32 → Int32 → (Nat → Int32) → (Nat → Int32) → Option (Int32 × (Nat → Int32) × (Nat → Int32))) : Nat → Int32 → Int32 → Int32 → Int32 → Int32 → (Nat → Int32) → (Nat → Int32) → Option (Int32 × (Nat → Int32) × (Nat → Int32))
  | 0, _, _, _, _, _, _, _ => none
  | fu + 1, x6, x5, x4, x3, x2, fT_rf, fT_te => if 6 ≤ x6 then (Option.bind (fm_X8_mostAlike x2 fT_te) (fun r_82 => if x4 ≤ r_82 then (k_30 (x5 + 1) x4 x3 x2 fT_rf fT_te) else (k_30 (x5 + 1) r_82 x5 x2 fT_rf fT_te))) else (Option.bind (fm_X8_believesAs x6 (x5 / 10) (x5 - x5 / 10 * 10)) (fun r_70 => gd x6 6 (fL_X8_ask_45 p1 fT_al k_30 fu (x6 + 1) x5 x4 x3 x2 fT_rf (upd fT_te (Int32.toNatClampNeg x6) r_70))))
def fL_X8_ask_30 (p1 : Int32) (fT_al : Nat → Int32) : Nat → Int32 → Int32 → Int32 → Int32 → (Nat → Int32) → (Nat → Int32) → Option (Int32 × (Nat → Int32) × (Nat → Int32))
  | 0, _, _, _, _, _, _ => none
  | fu + 1, x5, x4, x3, x2, fT_rf, fT_te => if 210 ≤ x5 then (some (x3, fT_rf, fT_te)) else (if x2 ≤ 0 then (some (x3, fT_rf, fT_te)) else (fL_X8_ask_45 p1 fT_al (fun x5 x4 x3 x2 fT_rf fT_te => fL_X8_ask_30 p1 fT_al fu x5 x4 x3 x2 fT_rf fT_te) FU 0 x5 x4 x3 x2 fT_rf fT_te))
def fm_X8_ask (p1 : Int32) (fT_al : Nat → Int32) (fT_rf : Nat → Int32) (fT_te : Nat → Int32) : Option (Int32 × (Nat → Int32) × (Nat → Int32)) := Option.bind (fm_X8_isSleeper p1 fT_al) (fun r_2 => if r_2 = 0 then (Option.bind (fm_X8_bad (-2) fT_rf) (fun r_11 => some (r_11.1, r_11.2, fT_te))) else (Option.bind (fm_X8_kindsOfSleeper p1 fT_al) (fun r_17 => fL_X8_ask_30 p1 fT_al FU 0 1000000 (-1) r_17 fT_rf fT_te)))
set_option maxHeartbeats 4000000 in
set_option maxRecDepth 100000 in
theorem c_X8_ask (l : Launch) (D : va_G) (cI cZ : ClassId) (sz : Nat) (AT AT_al AT_kp AT_ik AT_rf AT_hd AT_bs AT_se AT_bf AT_te AT_by AT_an AT_vs : Nat) (vT_ab : Int64) (vT_be : Int64) (vT_byl : Int32) (vT_tka : Int32) (vT_tkl : Int32) (vT_tkn : Int32) (vT_val : Int32) (fT_al : Nat → Int32) (fT_rf : Nat → Int32) (fT_te : Nat → Int32) (p1 : Int32) (out : (Int32 × (Nat → Int32) × (Nat → Int32))) (hm : fm_X8_ask p1 fT_al fT_rf fT_te = some out) : Met l yX8_ask (Cond.code yX8_ask cX8_ask 7 (some .int) :: bg) { frames := 3, cells := 0, slots := 0, locals := 75 } (va_Pc [.ref AT, .int p1] (q_pre D cI cZ sz (wd_X8_ask cI cZ AT AT_al AT_kp AT_ik AT_rf AT_hd AT_bs AT_se AT_bf AT_te AT_by AT_an AT_vs vT_ab vT_be vT_byl vT_tka vT_tkl vT_tkn vT_val fT_al fT_rf fT_te))) (q_Qi D (wd_X8_ask cI cZ AT AT_al AT_kp AT_ik AT_rf AT_hd AT_bs AT_se AT_bf AT_te AT_by AT_an AT_vs vT_ab vT_be vT_byl vT_tka vT_tkl vT_tkn vT_val fT_al out.2.1 out.2.2) out.1 (va_A (wd_X8_ask cI cZ AT AT_al AT_kp AT_ik AT_rf AT_hd AT_bs AT_se AT_bf AT_te AT_by AT_an AT_vs vT_ab vT_be vT_byl vT_tka vT_tkl vT_tkn vT_val fT_al fT_rf fT_te) sz)) 0 0 (va_A (wd_X8_ask cI cZ AT AT_al AT_kp AT_ik AT_rf AT_hd AT_bs AT_se AT_bf AT_te AT_by AT_an AT_vs vT_ab vT_be vT_byl vT_tka vT_tkl vT_tkn vT_val fT_al fT_rf fT_te) sz) := by
  refine q_met (fun A => q_Qi D (wd_X8_ask cI cZ AT AT_al AT_kp AT_ik AT_rf AT_hd AT_bs AT_se AT_bf AT_te AT_by AT_an AT_vs vT_ab vT_be vT_byl vT_tka vT_tkl vT_tkn vT_val fT_al out.2.1 out.2.2) out.1 A) (by decide) (Nat.le_of_ble_eq_true rfl) ?_
  intro p e s m below meth c ls A hx hb hr hml hown hts hlocks _ hA hS hP hD hK hN hl
  have hown : s.vm.findClass RX8 = some m.cls := hown
  have hl : lv_has ls 7 [(0, .ref AT), (1, .int p1)] := hl
  have hL_30 : ∀ (fu_30 : Nat) (x5 : Int32) (x4 : Int32) (x3 : Int32) (x2 : Int32) (fT_rf : Nat → Int32) (fT_te : Nat → Int32) (H : Heap) (locs : List Loc) (ls : Array Slot), fL_X8_ask_30 p1 fT_al fu_30 x5 x4 x3 x2 fT_rf fT_te = some out → va_P D vwCl (wd_X8_ask cI cZ AT AT_al AT_kp AT_ik AT_rf AT_hd AT_bs AT_se AT_bf AT_te AT_by AT_an AT_vs vT_ab vT_be vT_byl vT_tka vT_tkl vT_tkn vT_val fT_al fT_rf fT_te) H → va_D A (wd_X8_ask cI cZ AT AT_al AT_kp AT_ik AT_rf AT_hd AT_bs AT_se AT_bf AT_te AT_by AT_an AT_vs vT_ab vT_be vT_byl vT_tka vT_tkl vT_tkn vT_val fT_al fT_rf fT_te) → va_S A s.heap H locs → lv_has ls 7 [(5, .int x5), (4, .int x4), (3, .int x3), (2, .int x2), (0, .ref AT)] → W p l e { frames := 3, cells := 0, slots := 0, locals := 75 } s m ([.ref AT, .int p1] : List Value).toArray below meth c H locs 0 0 (MQ below (q_Qi D (wd_X8_ask cI cZ AT AT_al AT_kp AT_ik AT_rf AT_hd AT_bs AT_se AT_bf AT_te AT_by AT_an AT_vs vT_ab vT_be vT_byl vT_tka vT_tkl vT_tkn vT_val fT_al out.2.1 out.2.2) out.1 A) ([.ref AT, .int p1] : List Value).toArray s 0 0 A) (F0 m 30 ls []) := by
    intro fu_30
    induction fu_30 with
    | zero => intro x5 x4 x3 x2 fT_rf fT_te H locs ls hm hP hD hS hl; exact absurd (show (none : Option (Int32 × (Nat → Int32) × (Nat → Int32))) = some out from hm) (fun h => nomatch h)
    | succ fu_30 ih_30 =>
      have hL_45 : ∀ (fu_45 : Nat) (x6 : Int32) (x5 : Int32) (x4 : Int32) (x3 : Int32) (x2 : Int32) (fT_rf : Nat → Int32) (fT_te : Nat → Int32) (H : Heap) (locs : List Loc) (ls : Array Slot), fL_X8_ask_45 p1 fT_al (fun x5 x4 x3 x2 fT_rf fT_te => fL_X8_ask_30 p1 fT_al fu_30 x5 x4 x3 x2 fT_rf fT_te) fu_45 x6 x5 x4 x3 x2 fT_rf fT_te = some out → va_P D vwCl (wd_X8_ask cI cZ AT AT_al AT_kp AT_ik AT_rf AT_hd AT_bs AT_se AT_bf AT_te AT_by AT_an AT_vs vT_ab vT_be vT_byl vT_tka vT_tkl vT_tkn vT_val fT_al fT_rf fT_te) H → va_D A (wd_X8_ask cI cZ AT AT_al AT_kp AT_ik AT_rf AT_hd AT_bs AT_se AT_bf AT_te AT_by AT_an AT_vs vT_ab vT_be vT_byl vT_tka vT_tkl vT_tkn vT_val fT_al fT_rf fT_te) → va_S A s.heap H locs → lv_has ls 7 [(6, .int x6), (5, .int x5), (4, .int x4), (3, .int x3), (2, .int x2), (0, .ref AT)] → W p l e { frames := 3, cells := 0, slots := 0, locals := 75 } s m ([.ref AT, .int p1] : List Value).toArray below meth c H locs 0 0 (MQ below (q_Qi D (wd_X8_ask cI cZ AT AT_al AT_kp AT_ik AT_rf AT_hd AT_bs AT_se AT_bf AT_te AT_by AT_an AT_vs vT_ab vT_be vT_byl vT_tka vT_tkl vT_tkn vT_val fT_al out.2.1 out.2.2) out.1 A) ([.ref AT, .int p1] : List Value).toArray s 0 0 A) (F0 m 45 ls []) := by
        intro fu_45
        induction fu_45 with
        | zero => intro x6 x5 x4 x3 x2 fT_rf fT_te H locs ls hm hP hD hS hl; exact absurd (show (none : Option (Int32 × (Nat → Int32) × (Nat → Int32))) = some out from hm) (fun h => nomatch h)
        | succ fu_45 ih_45 =>
          intro x6 x5 x4 x3 x2 fT_rf fT_te H locs ls hm hP hD hS hl
          rw [fL_X8_ask_45] at hm
          refine lv_iload hx hb dX8_ask_45 (lv_at hl 0 rfl) ?_
          refine lv_bipush (v := 6) hx hb dX8_ask_47 (by decide) ?_
          refine lv_icmp_ge (tgt := 80) hx hb dX8_ask_49 (by decide) (fun c_49 => ?_) (fun c_49 => ?_)
          · have hm := it_s c_49 hm
            refine lv_aload_n hx hb dX8_ask_80 rfl (lv_at hl 5 rfl) ?_
            refine lv_iload_n hx hb dX8_ask_81 rfl (lv_at hl 4 rfl) ?_
            obtain ⟨r_82, hc_82, hm⟩ := ob_s hm
            refine q_ci (q_rv (rest := []) ⟨hx, hb, hml, hown, hts⟩ hK hN hP hD (c_X8_mostAlike l D cI cZ H.size AT AT_al AT_kp AT_ik AT_rf AT_hd AT_bs AT_se AT_bf AT_te AT_by AT_an AT_vs vT_ab vT_be vT_byl vT_tka vT_tkl vT_tkn vT_val fT_te x2 r_82 hc_82) mb_X8_mostAlike mv_X8_mostAlike wl_X8_182 [0, 3] rfl rfl rfl (Nat.le_of_ble_eq_true rfl) (Nat.le_of_ble_eq_true rfl) rfl hl.1 rfl (Nat.le_of_ble_eq_true rfl) ⟨Nat.le_refl 0, Nat.le_refl 0⟩ dX8_ask_82) hP hD hS hA [0, 3] rfl rfl (fun H locs hP hD hS => ?_)
            have hP : va_P D vwCl (wd_X8_ask cI cZ AT AT_al AT_kp AT_ik AT_rf AT_hd AT_bs AT_se AT_bf AT_te AT_by AT_an AT_vs vT_ab vT_be vT_byl vT_tka vT_tkl vT_tkn vT_val fT_al fT_rf fT_te) H := hP
            have hD : va_D A (wd_X8_ask cI cZ AT AT_al AT_kp AT_ik AT_rf AT_hd AT_bs AT_se AT_bf AT_te AT_by AT_an AT_vs vT_ab vT_be vT_byl vT_tka vT_tkl vT_tkn vT_val fT_al fT_rf fT_te) := hD
            refine lv_istore (lv' := [(6, .int r_82), (5, .int x5), (4, .int x4), (3, .int x3), (2, .int x2), (0, .ref AT)]) hx hb dX8_ask_85 hl (by decide) rfl (fun ls hl => ?_)
            refine lv_iload hx hb dX8_ask_87 (lv_at hl 0 rfl) ?_
            refine lv_iload hx hb dX8_ask_89 (lv_at hl 2 rfl) ?_
            refine lv_icmp_ge (tgt := 99) hx hb dX8_ask_91 (by decide) (fun c_91 => ?_) (fun c_91 => ?_)
            · have hm := it_s c_91 hm
              refine lv_iload_n hx hb dX8_ask_99 rfl (lv_at hl 3 rfl) ?_
              refine lv_istore_n (lv' := [(3, .int x3), (6, .int r_82), (5, .int x5), (4, .int x4), (2, .int x2), (0, .ref AT)]) hx hb dX8_ask_100 rfl hl (by decide) rfl (fun ls hl => ?_)
              refine lv_iload hx hb dX8_ask_101 (lv_at hl 1 rfl) ?_
              refine lv_iload hx hb dX8_ask_103 (lv_at hl 3 rfl) ?_
              refine lv_icmp_ge (tgt := 113) hx hb dX8_ask_105 (by decide) (fun _ => ?_) (fun c => absurd c_91 c)
              refine lv_iload hx hb dX8_ask_113 (lv_at hl 3 rfl) ?_
              refine lv_istore (lv' := [(4, .int x4), (3, .int x3), (6, .int r_82), (5, .int x5), (2, .int x2), (0, .ref AT)]) hx hb dX8_ask_115 hl (by decide) rfl (fun ls hl => ?_)
              refine lv_iinc (v := (x5 + 1)) (lv' := [(5, .int (x5 + 1)), (4, .int x4), (3, .int x3), (6, .int r_82), (2, .int x2), (0, .ref AT)]) hx hb dX8_ask_117 hl (k := 3) rfl rfl (by decide) rfl (fun ls hl => ?_)
              refine lv_goto (tgt := 30) hx hb dX8_ask_120 (by decide) ?_
              exact ih_30 (x5 + 1) x4 x3 x2 fT_rf fT_te H locs ls hm hP hD hS (lv_sub hl [0, 1, 2, 4, 5] rfl)
            · have hm := it_n c_91 hm
              refine lv_iload hx hb dX8_ask_94 (lv_at hl 1 rfl) ?_
              refine lv_goto (tgt := 100) hx hb dX8_ask_96 (by decide) ?_
              refine lv_istore_n (lv' := [(3, .int x5), (6, .int r_82), (5, .int x5), (4, .int x4), (2, .int x2), (0, .ref AT)]) hx hb dX8_ask_100 rfl hl (by decide) rfl (fun ls hl => ?_)
              refine lv_iload hx hb dX8_ask_101 (lv_at hl 1 rfl) ?_
              refine lv_iload hx hb dX8_ask_103 (lv_at hl 3 rfl) ?_
              refine lv_icmp_ge (tgt := 113) hx hb dX8_ask_105 (by decide) (fun c => absurd c c_91) (fun _ => ?_)
              refine lv_iload hx hb dX8_ask_108 (lv_at hl 1 rfl) ?_
              refine lv_goto (tgt := 115) hx hb dX8_ask_110 (by decide) ?_
              refine lv_istore (lv' := [(4, .int r_82), (3, .int x5), (6, .int r_82), (5, .int x5), (2, .int x2), (0, .ref AT)]) hx hb dX8_ask_115 hl (by decide) rfl (fun ls hl => ?_)
              refine lv_iinc (v := (x5 + 1)) (lv' := [(5, .int (x5 + 1)), (4, .int r_82), (3, .int x5), (6, .int r_82), (2, .int x2), (0, .ref AT)]) hx hb dX8_ask_117 hl (k := 3) rfl rfl (by decide) rfl (fun ls hl => ?_)
              refine lv_goto (tgt := 30) hx hb dX8_ask_120 (by decide) ?_
              exact ih_30 (x5 + 1) r_82 x5 x2 fT_rf fT_te H locs ls hm hP hD hS (lv_sub hl [0, 1, 2, 4, 5] rfl)
          · have hm := it_n c_49 hm
            refine lv_aload_n hx hb dX8_ask_52 rfl (lv_at hl 5 rfl) ?_
            refine gf_X8_39 (v := .ref AT_te) hx hb hts hown hK hN hP 0 rfl rfl dX8_ask_53 ?_
            refine lv_iload hx hb dX8_ask_56 (lv_at hl 0 rfl) ?_
            refine lv_iload hx hb dX8_ask_58 (lv_at hl 0 rfl) ?_
            refine lv_iload hx hb dX8_ask_60 (lv_at hl 1 rfl) ?_
            refine lv_bipush (v := 10) hx hb dX8_ask_62 (by decide) ?_
            refine lv_idiv hx hb dX8_ask_64 (by decide) ?_
            refine lv_iload hx hb dX8_ask_65 (lv_at hl 1 rfl) ?_
            refine lv_bipush (v := 10) hx hb dX8_ask_67 (by decide) ?_
            refine lv_irem hx hb dX8_ask_69 (by decide) ?_
            obtain ⟨r_70, hc_70, hm⟩ := ob_s hm
            refine q_ci (q_rs (rest := [.int x6, .ref AT_te]) ⟨hx, hb, hml, hown, hts⟩ hK hN hP hD (c_X8_believesAs l D cI cZ H.size x6 (x5 / 10) (x5 - x5 / 10 * 10) r_70 hc_70) mb_X8_believesAs wt_X8_believesAs wl_X8_100 [] rfl rfl (Nat.le_of_ble_eq_true rfl) (Nat.le_of_ble_eq_true rfl) rfl hl.1 rfl (Nat.le_of_ble_eq_true rfl) ⟨Nat.le_refl 0, Nat.le_refl 0⟩ dX8_ask_70) hP hD hS hA [] rfl rfl (fun H locs hP hD hS => ?_)
            have hP : va_P D vwCl (wd_X8_ask cI cZ AT AT_al AT_kp AT_ik AT_rf AT_hd AT_bs AT_se AT_bf AT_te AT_by AT_an AT_vs vT_ab vT_be vT_byl vT_tka vT_tkl vT_tkn vT_val fT_al fT_rf fT_te) H := hP
            have hD : va_D A (wd_X8_ask cI cZ AT AT_al AT_kp AT_ik AT_rf AT_hd AT_bs AT_se AT_bf AT_te AT_by AT_an AT_vs vT_ab vT_be vT_byl vT_tka vT_tkl vT_tkn vT_val fT_al fT_rf fT_te) := hD
            obtain ⟨hi_73, hm⟩ := gd_s hm
            refine q_iast (j := (Int32.toNatClampNeg x6)) hx hb hK hP hD hS 3 rfl hi_73 rfl dX8_ask_73 (fun H locs hP hD hS => ?_)
            have hP : va_P D vwCl (wd_X8_ask cI cZ AT AT_al AT_kp AT_ik AT_rf AT_hd AT_bs AT_se AT_bf AT_te AT_by AT_an AT_vs vT_ab vT_be vT_byl vT_tka vT_tkl vT_tkn vT_val fT_al fT_rf (upd fT_te (Int32.toNatClampNeg x6) r_70)) H := hP
            have hD : va_D A (wd_X8_ask cI cZ AT AT_al AT_kp AT_ik AT_rf AT_hd AT_bs AT_se AT_bf AT_te AT_by AT_an AT_vs vT_ab vT_be vT_byl vT_tka vT_tkl vT_tkn vT_val fT_al fT_rf (upd fT_te (Int32.toNatClampNeg x6) r_70)) := hD
            refine lv_iinc (v := (x6 + 1)) (lv' := [(6, .int (x6 + 1)), (5, .int x5), (4, .int x4), (3, .int x3), (2, .int x2), (0, .ref AT)]) hx hb dX8_ask_74 hl (k := 0) rfl rfl (by decide) rfl (fun ls hl => ?_)
            refine lv_goto (tgt := 45) hx hb dX8_ask_77 (by decide) ?_
            exact ih_45 (x6 + 1) x5 x4 x3 x2 fT_rf (upd fT_te (Int32.toNatClampNeg x6) r_70) H locs ls hm hP hD hS (lv_sub hl [0, 1, 2, 3, 4, 5] rfl)
      intro x5 x4 x3 x2 fT_rf fT_te H locs ls hm hP hD hS hl
      rw [fL_X8_ask_30] at hm
      refine lv_iload hx hb dX8_ask_30 (lv_at hl 0 rfl) ?_
      refine lv_sipush (v := 210) hx hb dX8_ask_32 (by decide) ?_
      refine lv_icmp_ge (tgt := 123) hx hb dX8_ask_35 (by decide) (fun c_35 => ?_) (fun c_35 => ?_)
      · have hm := it_s c_35 hm
        refine lv_iload_n hx hb dX8_ask_123 rfl (lv_at hl 2 rfl) ?_
        have hm := Option.some.inj hm
        subst hm
        exact q_iret (v := x3) hx hb hr hlocks hP hS dX8_ask_124
      · have hm := it_n c_35 hm
        refine lv_iload_n hx hb dX8_ask_38 rfl (lv_at hl 3 rfl) ?_
        refine lv_if_le (tgt := 123) hx hb dX8_ask_39 (by decide) (fun c_39 => ?_) (fun c_39 => ?_)
        · have hm := it_s c_39 hm
          refine lv_iload_n hx hb dX8_ask_123 rfl (lv_at hl 2 rfl) ?_
          have hm := Option.some.inj hm
          subst hm
          exact q_iret (v := x3) hx hb hr hlocks hP hS dX8_ask_124
        · have hm := it_n c_39 hm
          refine lv_iconst (v := 0) hx hb dX8_ask_42 (by decide) ?_
          refine lv_istore (lv' := [(6, .int 0), (5, .int x5), (4, .int x4), (3, .int x3), (2, .int x2), (0, .ref AT)]) hx hb dX8_ask_43 hl (by decide) rfl (fun ls hl => ?_)
          exact hL_45 FU 0 x5 x4 x3 x2 fT_rf fT_te H locs ls hm hP hD hS (lv_sub hl [0, 1, 2, 3, 4, 5] rfl)
  unfold fm_X8_ask at hm
  refine q_gen hS hP ?_
  intro H locs hP hS
  refine lv_aload_n hx hb dX8_ask_0 rfl (lv_at hl 0 rfl) ?_
  refine lv_iload_n hx hb dX8_ask_1 rfl (lv_at hl 1 rfl) ?_
  obtain ⟨r_2, hc_2, hm⟩ := ob_s hm
  refine q_ci (q_rv (rest := []) ⟨hx, hb, hml, hown, hts⟩ hK hN hP hD (c_X8_isSleeper l D cI cZ H.size AT AT_al AT_kp AT_ik AT_rf AT_hd AT_bs AT_se AT_bf AT_te AT_by AT_an AT_vs vT_ab vT_be vT_byl vT_tka vT_tkl vT_tkn vT_val fT_al p1 r_2 hc_2) mb_X8_isSleeper mv_X8_isSleeper wl_X8_132 [0, 1] rfl rfl rfl (Nat.le_of_ble_eq_true rfl) (Nat.le_of_ble_eq_true rfl) rfl hl.1 rfl (Nat.le_of_ble_eq_true rfl) ⟨Nat.le_refl 0, Nat.le_refl 0⟩ dX8_ask_2) hP hD hS hA [0, 1] rfl rfl (fun H locs hP hD hS => ?_)
  have hP : va_P D vwCl (wd_X8_ask cI cZ AT AT_al AT_kp AT_ik AT_rf AT_hd AT_bs AT_se AT_bf AT_te AT_by AT_an AT_vs vT_ab vT_be vT_byl vT_tka vT_tkl vT_tkn vT_val fT_al fT_rf fT_te) H := hP
  have hD : va_D A (wd_X8_ask cI cZ AT AT_al AT_kp AT_ik AT_rf AT_hd AT_bs AT_se AT_bf AT_te AT_by AT_an AT_vs vT_ab vT_be vT_byl vT_tka vT_tkl vT_tkn vT_val fT_al fT_rf fT_te) := hD
  refine lv_if_ne (tgt := 15) hx hb dX8_ask_5 (by decide) (fun c_5 => ?_) (fun c_5 => ?_)
  · have hm := it_n c_5 hm
    refine lv_aload_n hx hb dX8_ask_15 rfl (lv_at hl 0 rfl) ?_
    refine lv_iload_n hx hb dX8_ask_16 rfl (lv_at hl 1 rfl) ?_
    obtain ⟨r_17, hc_17, hm⟩ := ob_s hm
    refine q_ci (q_rv (rest := []) ⟨hx, hb, hml, hown, hts⟩ hK hN hP hD (c_X8_kindsOfSleeper l D cI cZ H.size AT AT_al AT_kp AT_ik AT_rf AT_hd AT_bs AT_se AT_bf AT_te AT_by AT_an AT_vs vT_ab vT_be vT_byl vT_tka vT_tkl vT_tkn vT_val fT_al p1 r_17 hc_17) mb_X8_kindsOfSleeper mv_X8_kindsOfSleeper wl_X8_185 [0, 1] rfl rfl rfl (Nat.le_of_ble_eq_true rfl) (Nat.le_of_ble_eq_true rfl) rfl hl.1 rfl (Nat.le_of_ble_eq_true rfl) ⟨Nat.le_refl 0, Nat.le_refl 0⟩ dX8_ask_17) hP hD hS hA [0, 1] rfl rfl (fun H locs hP hD hS => ?_)
    have hP : va_P D vwCl (wd_X8_ask cI cZ AT AT_al AT_kp AT_ik AT_rf AT_hd AT_bs AT_se AT_bf AT_te AT_by AT_an AT_vs vT_ab vT_be vT_byl vT_tka vT_tkl vT_tkn vT_val fT_al fT_rf fT_te) H := hP
    have hD : va_D A (wd_X8_ask cI cZ AT AT_al AT_kp AT_ik AT_rf AT_hd AT_bs AT_se AT_bf AT_te AT_by AT_an AT_vs vT_ab vT_be vT_byl vT_tka vT_tkl vT_tkn vT_val fT_al fT_rf fT_te) := hD
    refine lv_istore_n (lv' := [(2, .int r_17), (0, .ref AT), (1, .int p1)]) hx hb dX8_ask_20 rfl hl (by decide) rfl (fun ls hl => ?_)
    refine lv_iconst (v := (-1)) hx hb dX8_ask_21 (by decide) ?_
    refine lv_istore_n (lv' := [(3, .int (-1)), (2, .int r_17), (0, .ref AT), (1, .int p1)]) hx hb dX8_ask_22 rfl hl (by decide) rfl (fun ls hl => ?_)
    refine lv_ldc (v := 1000000) hx hb hown (hts _ wv_X8_158) dX8_ask_23 ?_
    refine lv_istore (lv' := [(4, .int 1000000), (3, .int (-1)), (2, .int r_17), (0, .ref AT), (1, .int p1)]) hx hb dX8_ask_25 hl (by decide) rfl (fun ls hl => ?_)
    refine lv_iconst (v := 0) hx hb dX8_ask_27 (by decide) ?_
    refine lv_istore (lv' := [(5, .int 0), (4, .int 1000000), (3, .int (-1)), (2, .int r_17), (0, .ref AT), (1, .int p1)]) hx hb dX8_ask_28 hl (by decide) rfl (fun ls hl => ?_)
    exact hL_30 FU 0 1000000 (-1) r_17 fT_rf fT_te H locs ls hm hP hD hS (lv_sub hl [0, 1, 2, 3, 4] rfl)
  · have hm := it_s c_5 hm
    refine lv_aload_n hx hb dX8_ask_8 rfl (lv_at hl 0 rfl) ?_
    refine lv_bipush (v := (-2)) hx hb dX8_ask_9 (by decide) ?_
    obtain ⟨r_11, hc_11, hm⟩ := ob_s hm
    refine q_ci (q_rv (rest := []) ⟨hx, hb, hml, hown, hts⟩ hK hN hP hD (c_X8_bad l D cI cZ H.size AT AT_al AT_kp AT_ik AT_rf AT_hd AT_bs AT_se AT_bf AT_te AT_by AT_an AT_vs vT_ab vT_be vT_byl vT_tka vT_tkl vT_tkn vT_val fT_rf (-2) r_11 hc_11) mb_X8_bad mv_X8_bad wl_X8_75 [0, 2] rfl rfl rfl (Nat.le_of_ble_eq_true rfl) (Nat.le_of_ble_eq_true rfl) rfl hl.1 rfl (Nat.le_of_ble_eq_true rfl) ⟨Nat.le_refl 0, Nat.le_refl 0⟩ dX8_ask_11) hP hD hS hA [0, 2] rfl rfl (fun H locs hP hD hS => ?_)
    have hP : va_P D vwCl (wd_X8_ask cI cZ AT AT_al AT_kp AT_ik AT_rf AT_hd AT_bs AT_se AT_bf AT_te AT_by AT_an AT_vs vT_ab vT_be vT_byl vT_tka vT_tkl vT_tkn vT_val fT_al r_11.2 fT_te) H := hP
    have hD : va_D A (wd_X8_ask cI cZ AT AT_al AT_kp AT_ik AT_rf AT_hd AT_bs AT_se AT_bf AT_te AT_by AT_an AT_vs vT_ab vT_be vT_byl vT_tka vT_tkl vT_tkn vT_val fT_al r_11.2 fT_te) := hD
    have hm := Option.some.inj hm
    subst hm
    exact q_iret (v := r_11.1) hx hb hr hlocks hP hS dX8_ask_14
theorem mb_X8_getsOn : q_mb yX8_getsOn cX8_getsOn 5 (some .int) 3 := ⟨wc_X8_getsOn, wn_X8, by decide, by decide, by decide +kernel⟩
theorem mv_X8_getsOn : q_mv yX8_getsOn 8 := ⟨wi_X8_getsOn, ws_X8_getsOn, _, rfl, rfl⟩
def wd_X8_getsOn (cI cZ : ClassId) (AT AT_al AT_kp AT_ik AT_rf AT_hd AT_bs AT_se AT_bf AT_te AT_by AT_an AT_vs : Nat) (vT_ab : Int64) (vT_be : Int64) (vT_byl : Int32) (vT_tka : Int32) (vT_tkl : Int32) (vT_tkn : Int32) (vT_val : Int32) (fT_al : Nat → Int32) : va_W := [(AT, .inr (8, [.ref AT_al, .ref AT_kp, .ref AT_ik, .ref AT_rf, .long vT_ab, .long vT_be, .ref AT_hd, .ref AT_bs, .ref AT_se, .ref AT_bf, .ref AT_te, .ref AT_by, .int vT_byl, .int vT_tka, .int vT_tkl, .int vT_tkn, .int vT_val, .ref AT_an, .ref AT_vs])), (AT_al, .inl (cI, 312, .inl fT_al))]
def fm_X8_getsOn (p1 : Int32) (p2 : Int32) (p3 : Int32) (fT_al : Nat → Int32) : Option (Int32) := Option.bind (fm_X8_whoOn 312 p2 fT_al) (fun r_5 => if r_5 = (-1) then (if p2 = p3 then (some ((0 - 2))) else (some ((0 - 0)))) else (Option.bind (fm_X8_believesOf 312 r_5 p1 fT_al) (fun r_27 => if p2 = p3 then (some ((r_27 - 2))) else (some ((r_27 - 0))))))
set_option maxHeartbeats 4000000 in
set_option maxRecDepth 100000 in
theorem c_X8_getsOn (l : Launch) (D : va_G) (cI cZ : ClassId) (sz : Nat) (AT AT_al AT_kp AT_ik AT_rf AT_hd AT_bs AT_se AT_bf AT_te AT_by AT_an AT_vs : Nat) (vT_ab : Int64) (vT_be : Int64) (vT_byl : Int32) (vT_tka : Int32) (vT_tkl : Int32) (vT_tkn : Int32) (vT_val : Int32) (fT_al : Nat → Int32) (p1 : Int32) (p2 : Int32) (p3 : Int32) (out : (Int32)) (hm : fm_X8_getsOn p1 p2 p3 fT_al = some out) : Met l yX8_getsOn (Cond.code yX8_getsOn cX8_getsOn 5 (some .int) :: bg) { frames := 2, cells := 0, slots := 0, locals := 46 } (va_Pc [.ref AT, .int p1, .int p2, .int p3] (q_pre D cI cZ sz (wd_X8_getsOn cI cZ AT AT_al AT_kp AT_ik AT_rf AT_hd AT_bs AT_se AT_bf AT_te AT_by AT_an AT_vs vT_ab vT_be vT_byl vT_tka vT_tkl vT_tkn vT_val fT_al))) (q_Qi D (wd_X8_getsOn cI cZ AT AT_al AT_kp AT_ik AT_rf AT_hd AT_bs AT_se AT_bf AT_te AT_by AT_an AT_vs vT_ab vT_be vT_byl vT_tka vT_tkl vT_tkn vT_val fT_al) out (va_A (wd_X8_getsOn cI cZ AT AT_al AT_kp AT_ik AT_rf AT_hd AT_bs AT_se AT_bf AT_te AT_by AT_an AT_vs vT_ab vT_be vT_byl vT_tka vT_tkl vT_tkn vT_val fT_al) sz)) 0 0 (va_A (wd_X8_getsOn cI cZ AT AT_al AT_kp AT_ik AT_rf AT_hd AT_bs AT_se AT_bf AT_te AT_by AT_an AT_vs vT_ab vT_be vT_byl vT_tka vT_tkl vT_tkn vT_val fT_al) sz) := by
  refine q_met (fun A => q_Qi D (wd_X8_getsOn cI cZ AT AT_al AT_kp AT_ik AT_rf AT_hd AT_bs AT_se AT_bf AT_te AT_by AT_an AT_vs vT_ab vT_be vT_byl vT_tka vT_tkl vT_tkn vT_val fT_al) out A) (by decide) (Nat.le_of_ble_eq_true rfl) ?_
  intro p e s m below meth c ls A hx hb hr hml hown hts hlocks _ hA hS hP hD hK hN hl
  have hown : s.vm.findClass RX8 = some m.cls := hown
  have hl : lv_has ls 5 [(0, .ref AT), (1, .int p1), (2, .int p2), (3, .int p3)] := hl
  unfold fm_X8_getsOn at hm
  refine q_gen hS hP ?_
  intro H locs hP hS
  refine lv_aload_n hx hb dX8_getsOn_0 rfl (lv_at hl 0 rfl) ?_
  refine gf_X8_7 (v := .ref AT_al) hx hb hts hown hK hN hP 0 rfl rfl dX8_getsOn_1 ?_
  refine lv_iload_n hx hb dX8_getsOn_4 rfl (lv_at hl 2 rfl) ?_
  obtain ⟨r_5, hc_5, hm⟩ := ob_s hm
  refine q_ci (q_rs (rest := []) ⟨hx, hb, hml, hown, hts⟩ hK hN hP hD (c_X8_whoOn l D cI cZ H.size AT_al 312 fT_al p2 r_5 hc_5) mb_X8_whoOn wt_X8_whoOn wl_X8_67 [1] rfl rfl (Nat.le_of_ble_eq_true rfl) (Nat.le_of_ble_eq_true rfl) rfl hl.1 rfl (Nat.le_of_ble_eq_true rfl) ⟨Nat.le_refl 0, Nat.le_refl 0⟩ dX8_getsOn_5) hP hD hS hA [1] rfl rfl (fun H locs hP hD hS => ?_)
  have hP : va_P D vwCl (wd_X8_getsOn cI cZ AT AT_al AT_kp AT_ik AT_rf AT_hd AT_bs AT_se AT_bf AT_te AT_by AT_an AT_vs vT_ab vT_be vT_byl vT_tka vT_tkl vT_tkn vT_val fT_al) H := hP
  have hD : va_D A (wd_X8_getsOn cI cZ AT AT_al AT_kp AT_ik AT_rf AT_hd AT_bs AT_se AT_bf AT_te AT_by AT_an AT_vs vT_ab vT_be vT_byl vT_tka vT_tkl vT_tkn vT_val fT_al) := hD
  refine lv_istore (lv' := [(4, .int r_5), (0, .ref AT), (1, .int p1), (2, .int p2), (3, .int p3)]) hx hb dX8_getsOn_8 hl (by decide) rfl (fun ls hl => ?_)
  refine lv_iload hx hb dX8_getsOn_10 (lv_at hl 0 rfl) ?_
  refine lv_iconst (v := (-1)) hx hb dX8_getsOn_12 (by decide) ?_
  refine lv_icmp_ne (tgt := 20) hx hb dX8_getsOn_13 (by decide) (fun c_13 => ?_) (fun c_13 => ?_)
  · have hm := it_n c_13 hm
    refine lv_aload_n hx hb dX8_getsOn_20 rfl (lv_at hl 1 rfl) ?_
    refine gf_X8_7 (v := .ref AT_al) hx hb hts hown hK hN hP 0 rfl rfl dX8_getsOn_21 ?_
    refine lv_iload hx hb dX8_getsOn_24 (lv_at hl 0 rfl) ?_
    refine lv_iload_n hx hb dX8_getsOn_26 rfl (lv_at hl 2 rfl) ?_
    obtain ⟨r_27, hc_27, hm⟩ := ob_s hm
    refine q_ci (q_rs (rest := []) ⟨hx, hb, hml, hown, hts⟩ hK hN hP hD (c_X8_believesOf l D cI cZ H.size AT_al 312 fT_al r_5 p1 r_27 hc_27) mb_X8_believesOf wt_X8_believesOf wl_X8_103 [1] rfl rfl (Nat.le_of_ble_eq_true rfl) (Nat.le_of_ble_eq_true rfl) rfl hl.1 rfl (Nat.le_of_ble_eq_true rfl) ⟨Nat.le_refl 0, Nat.le_refl 0⟩ dX8_getsOn_27) hP hD hS hA [1] rfl rfl (fun H locs hP hD hS => ?_)
    have hP : va_P D vwCl (wd_X8_getsOn cI cZ AT AT_al AT_kp AT_ik AT_rf AT_hd AT_bs AT_se AT_bf AT_te AT_by AT_an AT_vs vT_ab vT_be vT_byl vT_tka vT_tkl vT_tkn vT_val fT_al) H := hP
    have hD : va_D A (wd_X8_getsOn cI cZ AT AT_al AT_kp AT_ik AT_rf AT_hd AT_bs AT_se AT_bf AT_te AT_by AT_an AT_vs vT_ab vT_be vT_byl vT_tka vT_tkl vT_tkn vT_val fT_al) := hD
    refine lv_iload_n hx hb dX8_getsOn_30 rfl (lv_at hl 3 rfl) ?_
    refine lv_iload_n hx hb dX8_getsOn_31 rfl (lv_at hl 4 rfl) ?_
    refine lv_icmp_ne (tgt := 39) hx hb dX8_getsOn_32 (by decide) (fun c_32 => ?_) (fun c_32 => ?_)
    · have hm := it_n c_32 hm
      refine lv_iconst (v := 0) hx hb dX8_getsOn_39 (by decide) ?_
      refine lv_isub hx hb dX8_getsOn_40 ?_
      have hm := Option.some.inj hm
      subst hm
      exact q_iret (v := (r_27 - 0)) hx hb hr hlocks hP hS dX8_getsOn_41
    · have hm := it_s c_32 hm
      refine lv_iconst (v := 2) hx hb dX8_getsOn_35 (by decide) ?_
      refine lv_goto (tgt := 40) hx hb dX8_getsOn_36 (by decide) ?_
      refine lv_isub hx hb dX8_getsOn_40 ?_
      have hm := Option.some.inj hm
      subst hm
      exact q_iret (v := (r_27 - 2)) hx hb hr hlocks hP hS dX8_getsOn_41
  · have hm := it_s c_13 hm
    refine lv_iconst (v := 0) hx hb dX8_getsOn_16 (by decide) ?_
    refine lv_goto (tgt := 30) hx hb dX8_getsOn_17 (by decide) ?_
    refine lv_iload_n hx hb dX8_getsOn_30 rfl (lv_at hl 3 rfl) ?_
    refine lv_iload_n hx hb dX8_getsOn_31 rfl (lv_at hl 4 rfl) ?_
    refine lv_icmp_ne (tgt := 39) hx hb dX8_getsOn_32 (by decide) (fun c_32 => ?_) (fun c_32 => ?_)
    · have hm := it_n c_32 hm
      refine lv_iconst (v := 0) hx hb dX8_getsOn_39 (by decide) ?_
      refine lv_isub hx hb dX8_getsOn_40 ?_
      have hm := Option.some.inj hm
      subst hm
      exact q_iret (v := (0 - 0)) hx hb hr hlocks hP hS dX8_getsOn_41
    · have hm := it_s c_32 hm
      refine lv_iconst (v := 2) hx hb dX8_getsOn_35 (by decide) ?_
      refine lv_goto (tgt := 40) hx hb dX8_getsOn_36 (by decide) ?_
      refine lv_isub hx hb dX8_getsOn_40 ?_
      have hm := Option.some.inj hm
      subst hm
      exact q_iret (v := (0 - 2)) hx hb hr hlocks hP hS dX8_getsOn_41
theorem mb_X8_isBestOn : q_mb yX8_isBestOn cX8_isBestOn 6 (some .boolean) 3 := ⟨wc_X8_isBestOn, wn_X8, by decide, by decide, by decide +kernel⟩
theorem mv_X8_isBestOn : q_mv yX8_isBestOn 8 := ⟨wi_X8_isBestOn, ws_X8_isBestOn, _, rfl, rfl⟩
def wd_X8_isBestOn (cI cZ : ClassId) (AT AT_al AT_kp AT_ik AT_rf AT_hd AT_bs AT_se AT_bf AT_te AT_by AT_an AT_vs : Nat) (vT_ab : Int64) (vT_be : Int64) (vT_byl : Int32) (vT_tka : Int32) (vT_tkl : Int32) (vT_tkn : Int32) (vT_val : Int32) (fT_al : Nat → Int32) : va_W := [(AT, .inr (8, [.ref AT_al, .ref AT_kp, .ref AT_ik, .ref AT_rf, .long vT_ab, .long vT_be, .ref AT_hd, .ref AT_bs, .ref AT_se, .ref AT_bf, .ref AT_te, .ref AT_by, .int vT_byl, .int vT_tka, .int vT_tkl, .int vT_tkn, .int vT_val, .ref AT_an, .ref AT_vs])), (AT_al, .inl (cI, 312, .inl fT_al))]
def fL_X8_isBestOn_6 (p1 : Int32) (p2 : Int32) (p3 : Int32) (fT_al : Nat → Int32) : Nat → Int32 → Int32 → Option (Int32)
  | 0, _, _ => none
  | fu + 1, x5, x4 => if 6 ≤ x5 then (bz x4 (some (x4))) else (if x4 = 0 then (bz x4 (some (x4))) else (Option.bind (fm_X8_getsOn p1 x5 p3 fT_al) (fun r_23 => Option.bind (fm_X8_getsOn p1 p2 p3 fT_al) (fun r_30 => if r_30 < r_23 then (fL_X8_isBestOn_6 p1 p2 p3 fT_al fu (x5 + 1) 0) else (fL_X8_isBestOn_6 p1 p2 p3 fT_al fu (x5 + 1) 1)))))
def fm_X8_isBestOn (p1 : Int32) (p2 : Int32) (p3 : Int32) (fT_al : Nat → Int32) : Option (Int32) := fL_X8_isBestOn_6 p1 p2 p3 fT_al FU 0 1
set_option maxHeartbeats 4000000 in
set_option maxRecDepth 100000 in
theorem c_X8_isBestOn (l : Launch) (D : va_G) (cI cZ : ClassId) (sz : Nat) (AT AT_al AT_kp AT_ik AT_rf AT_hd AT_bs AT_se AT_bf AT_te AT_by AT_an AT_vs : Nat) (vT_ab : Int64) (vT_be : Int64) (vT_byl : Int32) (vT_tka : Int32) (vT_tkl : Int32) (vT_tkn : Int32) (vT_val : Int32) (fT_al : Nat → Int32) (p1 : Int32) (p2 : Int32) (p3 : Int32) (out : (Int32)) (hm : fm_X8_isBestOn p1 p2 p3 fT_al = some out) : Met l yX8_isBestOn (Cond.code yX8_isBestOn cX8_isBestOn 6 (some .boolean) :: bg) { frames := 3, cells := 0, slots := 0, locals := 70 } (va_Pc [.ref AT, .int p1, .int p2, .int p3] (q_pre D cI cZ sz (wd_X8_isBestOn cI cZ AT AT_al AT_kp AT_ik AT_rf AT_hd AT_bs AT_se AT_bf AT_te AT_by AT_an AT_vs vT_ab vT_be vT_byl vT_tka vT_tkl vT_tkn vT_val fT_al))) (q_Qi D (wd_X8_isBestOn cI cZ AT AT_al AT_kp AT_ik AT_rf AT_hd AT_bs AT_se AT_bf AT_te AT_by AT_an AT_vs vT_ab vT_be vT_byl vT_tka vT_tkl vT_tkn vT_val fT_al) out (va_A (wd_X8_isBestOn cI cZ AT AT_al AT_kp AT_ik AT_rf AT_hd AT_bs AT_se AT_bf AT_te AT_by AT_an AT_vs vT_ab vT_be vT_byl vT_tka vT_tkl vT_tkn vT_val fT_al) sz)) 0 0 (va_A (wd_X8_isBestOn cI cZ AT AT_al AT_kp AT_ik AT_rf AT_hd AT_bs AT_se AT_bf AT_te AT_by AT_an AT_vs vT_ab vT_be vT_byl vT_tka vT_tkl vT_tkn vT_val fT_al) sz) := by
  refine q_met (fun A => q_Qi D (wd_X8_isBestOn cI cZ AT AT_al AT_kp AT_ik AT_rf AT_hd AT_bs AT_se AT_bf AT_te AT_by AT_an AT_vs vT_ab vT_be vT_byl vT_tka vT_tkl vT_tkn vT_val fT_al) out A) (by decide) (Nat.le_of_ble_eq_true rfl) ?_
  intro p e s m below meth c ls A hx hb hr hml hown hts hlocks _ hA hS hP hD hK hN hl
  have hown : s.vm.findClass RX8 = some m.cls := hown
  have hl : lv_has ls 6 [(0, .ref AT), (1, .int p1), (2, .int p2), (3, .int p3)] := hl
  have hL_6 : ∀ (fu_6 : Nat) (x5 : Int32) (x4 : Int32) (H : Heap) (locs : List Loc) (ls : Array Slot), fL_X8_isBestOn_6 p1 p2 p3 fT_al fu_6 x5 x4 = some out → va_P D vwCl (wd_X8_isBestOn cI cZ AT AT_al AT_kp AT_ik AT_rf AT_hd AT_bs AT_se AT_bf AT_te AT_by AT_an AT_vs vT_ab vT_be vT_byl vT_tka vT_tkl vT_tkn vT_val fT_al) H → va_D A (wd_X8_isBestOn cI cZ AT AT_al AT_kp AT_ik AT_rf AT_hd AT_bs AT_se AT_bf AT_te AT_by AT_an AT_vs vT_ab vT_be vT_byl vT_tka vT_tkl vT_tkn vT_val fT_al) → va_S A s.heap H locs → lv_has ls 6 [(5, .int x5), (4, .int x4), (0, .ref AT), (1, .int p1), (2, .int p2), (3, .int p3)] → W p l e { frames := 3, cells := 0, slots := 0, locals := 70 } s m ([.ref AT, .int p1, .int p2, .int p3] : List Value).toArray below meth c H locs 0 0 (MQ below (q_Qi D (wd_X8_isBestOn cI cZ AT AT_al AT_kp AT_ik AT_rf AT_hd AT_bs AT_se AT_bf AT_te AT_by AT_an AT_vs vT_ab vT_be vT_byl vT_tka vT_tkl vT_tkn vT_val fT_al) out A) ([.ref AT, .int p1, .int p2, .int p3] : List Value).toArray s 0 0 A) (F0 m 6 ls []) := by
    intro fu_6
    induction fu_6 with
    | zero => intro x5 x4 H locs ls hm hP hD hS hl; exact absurd (show (none : Option (Int32)) = some out from hm) (fun h => nomatch h)
    | succ fu_6 ih_6 =>
      intro x5 x4 H locs ls hm hP hD hS hl
      rw [fL_X8_isBestOn_6] at hm
      refine lv_iload hx hb dX8_isBestOn_6 (lv_at hl 0 rfl) ?_
      refine lv_bipush (v := 6) hx hb dX8_isBestOn_8 (by decide) ?_
      refine lv_icmp_ge (tgt := 49) hx hb dX8_isBestOn_10 (by decide) (fun c_10 => ?_) (fun c_10 => ?_)
      · have hm := it_s c_10 hm
        refine lv_iload hx hb dX8_isBestOn_49 (lv_at hl 1 rfl) ?_
        obtain ⟨hz, hm⟩ := bz_s hm
        have hm := Option.some.inj hm
        subst hm
        exact q_zret (v := x4) hx hb hr hlocks hz hP hS dX8_isBestOn_51
      · have hm := it_n c_10 hm
        refine lv_iload hx hb dX8_isBestOn_13 (lv_at hl 1 rfl) ?_
        refine lv_if_eq (tgt := 49) hx hb dX8_isBestOn_15 (by decide) (fun c_15 => ?_) (fun c_15 => ?_)
        · have hm := it_s c_15 hm
          refine lv_iload hx hb dX8_isBestOn_49 (lv_at hl 1 rfl) ?_
          obtain ⟨hz, hm⟩ := bz_s hm
          have hm := Option.some.inj hm
          subst hm
          exact q_zret (v := x4) hx hb hr hlocks hz hP hS dX8_isBestOn_51
        · have hm := it_n c_15 hm
          refine lv_aload_n hx hb dX8_isBestOn_18 rfl (lv_at hl 2 rfl) ?_
          refine lv_iload_n hx hb dX8_isBestOn_19 rfl (lv_at hl 3 rfl) ?_
          refine lv_iload hx hb dX8_isBestOn_20 (lv_at hl 0 rfl) ?_
          refine lv_iload_n hx hb dX8_isBestOn_22 rfl (lv_at hl 5 rfl) ?_
          obtain ⟨r_23, hc_23, hm⟩ := ob_s hm
          refine q_ci (q_rv (rest := []) ⟨hx, hb, hml, hown, hts⟩ hK hN hP hD (c_X8_getsOn l D cI cZ H.size AT AT_al AT_kp AT_ik AT_rf AT_hd AT_bs AT_se AT_bf AT_te AT_by AT_an AT_vs vT_ab vT_be vT_byl vT_tka vT_tkl vT_tkn vT_val fT_al p1 x5 p3 r_23 hc_23) mb_X8_getsOn mv_X8_getsOn wl_X8_188 [0, 1] rfl rfl rfl (Nat.le_of_ble_eq_true rfl) (Nat.le_of_ble_eq_true rfl) rfl hl.1 rfl (Nat.le_of_ble_eq_true rfl) ⟨Nat.le_refl 0, Nat.le_refl 0⟩ dX8_isBestOn_23) hP hD hS hA [0, 1] rfl rfl (fun H locs hP hD hS => ?_)
          have hP : va_P D vwCl (wd_X8_isBestOn cI cZ AT AT_al AT_kp AT_ik AT_rf AT_hd AT_bs AT_se AT_bf AT_te AT_by AT_an AT_vs vT_ab vT_be vT_byl vT_tka vT_tkl vT_tkn vT_val fT_al) H := hP
          have hD : va_D A (wd_X8_isBestOn cI cZ AT AT_al AT_kp AT_ik AT_rf AT_hd AT_bs AT_se AT_bf AT_te AT_by AT_an AT_vs vT_ab vT_be vT_byl vT_tka vT_tkl vT_tkn vT_val fT_al) := hD
          refine lv_aload_n hx hb dX8_isBestOn_26 rfl (lv_at hl 2 rfl) ?_
          refine lv_iload_n hx hb dX8_isBestOn_27 rfl (lv_at hl 3 rfl) ?_
          refine lv_iload_n hx hb dX8_isBestOn_28 rfl (lv_at hl 4 rfl) ?_
          refine lv_iload_n hx hb dX8_isBestOn_29 rfl (lv_at hl 5 rfl) ?_
          obtain ⟨r_30, hc_30, hm⟩ := ob_s hm
          refine q_ci (q_rv (rest := [.int r_23]) ⟨hx, hb, hml, hown, hts⟩ hK hN hP hD (c_X8_getsOn l D cI cZ H.size AT AT_al AT_kp AT_ik AT_rf AT_hd AT_bs AT_se AT_bf AT_te AT_by AT_an AT_vs vT_ab vT_be vT_byl vT_tka vT_tkl vT_tkn vT_val fT_al p1 p2 p3 r_30 hc_30) mb_X8_getsOn mv_X8_getsOn wl_X8_188 [0, 1] rfl rfl rfl (Nat.le_of_ble_eq_true rfl) (Nat.le_of_ble_eq_true rfl) rfl hl.1 rfl (Nat.le_of_ble_eq_true rfl) ⟨Nat.le_refl 0, Nat.le_refl 0⟩ dX8_isBestOn_30) hP hD hS hA [0, 1] rfl rfl (fun H locs hP hD hS => ?_)
          have hP : va_P D vwCl (wd_X8_isBestOn cI cZ AT AT_al AT_kp AT_ik AT_rf AT_hd AT_bs AT_se AT_bf AT_te AT_by AT_an AT_vs vT_ab vT_be vT_byl vT_tka vT_tkl vT_tkn vT_val fT_al) H := hP
          have hD : va_D A (wd_X8_isBestOn cI cZ AT AT_al AT_kp AT_ik AT_rf AT_hd AT_bs AT_se AT_bf AT_te AT_by AT_an AT_vs vT_ab vT_be vT_byl vT_tka vT_tkl vT_tkn vT_val fT_al) := hD
          refine lv_icmp_gt (tgt := 40) hx hb dX8_isBestOn_33 (by decide) (fun c_33 => ?_) (fun c_33 => ?_)
          · have hm := it_s c_33 hm
            refine lv_iconst (v := 0) hx hb dX8_isBestOn_40 (by decide) ?_
            refine lv_istore (lv' := [(4, .int 0), (5, .int x5), (0, .ref AT), (1, .int p1), (2, .int p2), (3, .int p3)]) hx hb dX8_isBestOn_41 hl (by decide) rfl (fun ls hl => ?_)
            refine lv_iinc (v := (x5 + 1)) (lv' := [(5, .int (x5 + 1)), (4, .int 0), (0, .ref AT), (1, .int p1), (2, .int p2), (3, .int p3)]) hx hb dX8_isBestOn_43 hl (k := 1) rfl rfl (by decide) rfl (fun ls hl => ?_)
            refine lv_goto (tgt := 6) hx hb dX8_isBestOn_46 (by decide) ?_
            exact ih_6 (x5 + 1) 0 H locs ls hm hP hD hS (lv_sub hl [0, 1, 2, 3, 4, 5] rfl)
          · have hm := it_n c_33 hm
            refine lv_iconst (v := 1) hx hb dX8_isBestOn_36 (by decide) ?_
            refine lv_goto (tgt := 41) hx hb dX8_isBestOn_37 (by decide) ?_
            refine lv_istore (lv' := [(4, .int 1), (5, .int x5), (0, .ref AT), (1, .int p1), (2, .int p2), (3, .int p3)]) hx hb dX8_isBestOn_41 hl (by decide) rfl (fun ls hl => ?_)
            refine lv_iinc (v := (x5 + 1)) (lv' := [(5, .int (x5 + 1)), (4, .int 1), (0, .ref AT), (1, .int p1), (2, .int p2), (3, .int p3)]) hx hb dX8_isBestOn_43 hl (k := 1) rfl rfl (by decide) rfl (fun ls hl => ?_)
            refine lv_goto (tgt := 6) hx hb dX8_isBestOn_46 (by decide) ?_
            exact ih_6 (x5 + 1) 1 H locs ls hm hP hD hS (lv_sub hl [0, 1, 2, 3, 4, 5] rfl)
  unfold fm_X8_isBestOn at hm
  refine q_gen hS hP ?_
  intro H locs hP hS
  refine lv_iconst (v := 1) hx hb dX8_isBestOn_0 (by decide) ?_
  refine lv_istore (lv' := [(4, .int 1), (0, .ref AT), (1, .int p1), (2, .int p2), (3, .int p3)]) hx hb dX8_isBestOn_1 hl (by decide) rfl (fun ls hl => ?_)
  refine lv_iconst (v := 0) hx hb dX8_isBestOn_3 (by decide) ?_
  refine lv_istore (lv' := [(5, .int 0), (4, .int 1), (0, .ref AT), (1, .int p1), (2, .int p2), (3, .int p3)]) hx hb dX8_isBestOn_4 hl (by decide) rfl (fun ls hl => ?_)
  exact hL_6 FU 0 1 H locs ls hm hP hD hS (lv_sub hl [0, 1, 2, 3, 4, 5] rfl)
theorem mb_X8_senders : q_mb yX8_senders cX8_senders 7 (some .int) 3 := ⟨wc_X8_senders, wn_X8, by decide, by decide, by decide +kernel⟩
theorem mv_X8_senders : q_mv yX8_senders 8 := ⟨wi_X8_senders, ws_X8_senders, _, rfl, rfl⟩
def wd_X8_senders (cI cZ : ClassId) (AT AT_al AT_kp AT_ik AT_rf AT_hd AT_bs AT_se AT_bf AT_te AT_by AT_an AT_vs : Nat) (vT_ab : Int64) (vT_be : Int64) (vT_byl : Int32) (vT_tka : Int32) (vT_tkl : Int32) (vT_tkn : Int32) (vT_val : Int32) (fT_al : Nat → Int32) (fT_rf : Nat → Int32) : va_W := [(AT, .inr (8, [.ref AT_al, .ref AT_kp, .ref AT_ik, .ref AT_rf, .long vT_ab, .long vT_be, .ref AT_hd, .ref AT_bs, .ref AT_se, .ref AT_bf, .ref AT_te, .ref AT_by, .int vT_byl, .int vT_tka, .int vT_tkl, .int vT_tkn, .int vT_val, .ref AT_an, .ref AT_vs])), (AT_al, .inl (cI, 312, .inl fT_al)), (AT_rf, .inl (cI, 3, .inl fT_rf))]
def fL_X8_senders_49 (p1 : Int32) (p2 : Int32) (p3 : Int32) (fT_al : Nat → Int32) (k_39 : Int32 → Int32 → (Nat → Int32) → Option (Int32 × (Nat → Int32))) : Nat → Int32 → Int32 → Int32 → (Nat → Int32) → Option (Int32 × (Nat → Int32))
  | 0, _, _, _, _ => none
  | fu + 1, x6, x5, x4, fT_rf => if 6 ≤ x6 then (k_39 (x5 + 1) x4 fT_rf) else (Option.bind (fm_X8_isBestOn p1 x5 x6 fT_al) (fun r_62 => if r_62 = 0 then (fL_X8_senders_49 p1 p2 p3 fT_al k_39 fu (x6 + 1) x5 x4 fT_rf) else (Option.bind (fm_X8_isBestOn p2 x6 x5 fT_al) (fun r_74 => if r_74 = 0 then (fL_X8_senders_49 p1 p2 p3 fT_al k_39 fu (x6 + 1) x5 x4 fT_rf) else (if x4 = p3 then (some (((10 * x5) + x6), fT_rf)) else (fL_X8_senders_49 p1 p2 p3 fT_al k_39 fu (x6 + 1) x5 (x4 + 1) fT_rf))))))
def fL_X8_senders_39 (p1 : Int32) (p2 : Int32) (p3 : Int32) (fT_al : Nat → Int32) : Nat → Int32 → Int32 → (Nat → Int32) → Option (Int32 × (Nat → Int32))
  | 0, _, _, _ => none
  | fu + 1, x5, x4, fT_rf => if 6 ≤ x5 then (if p3 = (-1) then (some (x4, fT_rf)) else (some ((-5), fT_rf))) else (fL_X8_senders_49 p1 p2 p3 fT_al (fun x5 x4 fT_rf => fL_X8_senders_39 p1 p2 p3 fT_al fu x5 x4 fT_rf) FU 0 x5 x4 fT_rf)
def fm_X8_senders (p1 : Int32) (p2 : Int32) (p3 : Int32) (fT_al : Nat → Int32) (fT_rf : Nat → Int32) : Option (Int32 × (Nat → Int32)) := Option.bind (fm_X8_isFlower p1 fT_al) (fun r_2 => if r_2 = 0 then (Option.bind (fm_X8_bad (-10) fT_rf) (fun r_29 => some (r_29.1, r_29.2))) else (Option.bind (fm_X8_isFlower p2 fT_al) (fun r_10 => if r_10 = 0 then (Option.bind (fm_X8_bad (-10) fT_rf) (fun r_29 => some (r_29.1, r_29.2))) else (if p1 = p2 then (Option.bind (fm_X8_bad (-10) fT_rf) (fun r_29 => some (r_29.1, r_29.2))) else (if (-1) ≤ p3 then (fL_X8_senders_39 p1 p2 p3 fT_al FU 0 0 fT_rf) else (Option.bind (fm_X8_bad (-10) fT_rf) (fun r_29 => some (r_29.1, r_29.2))))))))
set_option maxHeartbeats 4000000 in
set_option maxRecDepth 100000 in
theorem c_X8_senders (l : Launch) (D : va_G) (cI cZ : ClassId) (sz : Nat) (AT AT_al AT_kp AT_ik AT_rf AT_hd AT_bs AT_se AT_bf AT_te AT_by AT_an AT_vs : Nat) (vT_ab : Int64) (vT_be : Int64) (vT_byl : Int32) (vT_tka : Int32) (vT_tkl : Int32) (vT_tkn : Int32) (vT_val : Int32) (fT_al : Nat → Int32) (fT_rf : Nat → Int32) (p1 : Int32) (p2 : Int32) (p3 : Int32) (out : (Int32 × (Nat → Int32))) (hm : fm_X8_senders p1 p2 p3 fT_al fT_rf = some out) : Met l yX8_senders (Cond.code yX8_senders cX8_senders 7 (some .int) :: bg) { frames := 4, cells := 0, slots := 0, locals := 95 } (va_Pc [.ref AT, .int p1, .int p2, .int p3] (q_pre D cI cZ sz (wd_X8_senders cI cZ AT AT_al AT_kp AT_ik AT_rf AT_hd AT_bs AT_se AT_bf AT_te AT_by AT_an AT_vs vT_ab vT_be vT_byl vT_tka vT_tkl vT_tkn vT_val fT_al fT_rf))) (q_Qi D (wd_X8_senders cI cZ AT AT_al AT_kp AT_ik AT_rf AT_hd AT_bs AT_se AT_bf AT_te AT_by AT_an AT_vs vT_ab vT_be vT_byl vT_tka vT_tkl vT_tkn vT_val fT_al out.2) out.1 (va_A (wd_X8_senders cI cZ AT AT_al AT_kp AT_ik AT_rf AT_hd AT_bs AT_se AT_bf AT_te AT_by AT_an AT_vs vT_ab vT_be vT_byl vT_tka vT_tkl vT_tkn vT_val fT_al fT_rf) sz)) 0 0 (va_A (wd_X8_senders cI cZ AT AT_al AT_kp AT_ik AT_rf AT_hd AT_bs AT_se AT_bf AT_te AT_by AT_an AT_vs vT_ab vT_be vT_byl vT_tka vT_tkl vT_tkn vT_val fT_al fT_rf) sz) := by
  refine q_met (fun A => q_Qi D (wd_X8_senders cI cZ AT AT_al AT_kp AT_ik AT_rf AT_hd AT_bs AT_se AT_bf AT_te AT_by AT_an AT_vs vT_ab vT_be vT_byl vT_tka vT_tkl vT_tkn vT_val fT_al out.2) out.1 A) (by decide) (Nat.le_of_ble_eq_true rfl) ?_
  intro p e s m below meth c ls A hx hb hr hml hown hts hlocks _ hA hS hP hD hK hN hl
  have hown : s.vm.findClass RX8 = some m.cls := hown
  have hl : lv_has ls 7 [(0, .ref AT), (1, .int p1), (2, .int p2), (3, .int p3)] := hl
  have hL_39 : ∀ (fu_39 : Nat) (x5 : Int32) (x4 : Int32) (fT_rf : Nat → Int32) (H : Heap) (locs : List Loc) (ls : Array Slot), fL_X8_senders_39 p1 p2 p3 fT_al fu_39 x5 x4 fT_rf = some out → va_P D vwCl (wd_X8_senders cI cZ AT AT_al AT_kp AT_ik AT_rf AT_hd AT_bs AT_se AT_bf AT_te AT_by AT_an AT_vs vT_ab vT_be vT_byl vT_tka vT_tkl vT_tkn vT_val fT_al fT_rf) H → va_D A (wd_X8_senders cI cZ AT AT_al AT_kp AT_ik AT_rf AT_hd AT_bs AT_se AT_bf AT_te AT_by AT_an AT_vs vT_ab vT_be vT_byl vT_tka vT_tkl vT_tkn vT_val fT_al fT_rf) → va_S A s.heap H locs → lv_has ls 7 [(5, .int x5), (4, .int x4), (0, .ref AT), (1, .int p1), (2, .int p2), (3, .int p3)] → W p l e { frames := 4, cells := 0, slots := 0, locals := 95 } s m ([.ref AT, .int p1, .int p2, .int p3] : List Value).toArray below meth c H locs 0 0 (MQ below (q_Qi D (wd_X8_senders cI cZ AT AT_al AT_kp AT_ik AT_rf AT_hd AT_bs AT_se AT_bf AT_te AT_by AT_an AT_vs vT_ab vT_be vT_byl vT_tka vT_tkl vT_tkn vT_val fT_al out.2) out.1 A) ([.ref AT, .int p1, .int p2, .int p3] : List Value).toArray s 0 0 A) (F0 m 39 ls []) := by
    intro fu_39
    induction fu_39 with
    | zero => intro x5 x4 fT_rf H locs ls hm hP hD hS hl; exact absurd (show (none : Option (Int32 × (Nat → Int32))) = some out from hm) (fun h => nomatch h)
    | succ fu_39 ih_39 =>
      have hL_49 : ∀ (fu_49 : Nat) (x6 : Int32) (x5 : Int32) (x4 : Int32) (fT_rf : Nat → Int32) (H : Heap) (locs : List Loc) (ls : Array Slot), fL_X8_senders_49 p1 p2 p3 fT_al (fun x5 x4 fT_rf => fL_X8_senders_39 p1 p2 p3 fT_al fu_39 x5 x4 fT_rf) fu_49 x6 x5 x4 fT_rf = some out → va_P D vwCl (wd_X8_senders cI cZ AT AT_al AT_kp AT_ik AT_rf AT_hd AT_bs AT_se AT_bf AT_te AT_by AT_an AT_vs vT_ab vT_be vT_byl vT_tka vT_tkl vT_tkn vT_val fT_al fT_rf) H → va_D A (wd_X8_senders cI cZ AT AT_al AT_kp AT_ik AT_rf AT_hd AT_bs AT_se AT_bf AT_te AT_by AT_an AT_vs vT_ab vT_be vT_byl vT_tka vT_tkl vT_tkn vT_val fT_al fT_rf) → va_S A s.heap H locs → lv_has ls 7 [(6, .int x6), (5, .int x5), (4, .int x4), (0, .ref AT), (1, .int p1), (2, .int p2), (3, .int p3)] → W p l e { frames := 4, cells := 0, slots := 0, locals := 95 } s m ([.ref AT, .int p1, .int p2, .int p3] : List Value).toArray below meth c H locs 0 0 (MQ below (q_Qi D (wd_X8_senders cI cZ AT AT_al AT_kp AT_ik AT_rf AT_hd AT_bs AT_se AT_bf AT_te AT_by AT_an AT_vs vT_ab vT_be vT_byl vT_tka vT_tkl vT_tkn vT_val fT_al out.2) out.1 A) ([.ref AT, .int p1, .int p2, .int p3] : List Value).toArray s 0 0 A) (F0 m 49 ls []) := by
        intro fu_49
        induction fu_49 with
        | zero => intro x6 x5 x4 fT_rf H locs ls hm hP hD hS hl; exact absurd (show (none : Option (Int32 × (Nat → Int32))) = some out from hm) (fun h => nomatch h)
        | succ fu_49 ih_49 =>
          intro x6 x5 x4 fT_rf H locs ls hm hP hD hS hl
          rw [fL_X8_senders_49] at hm
          refine lv_iload hx hb dX8_senders_49 (lv_at hl 0 rfl) ?_
          refine lv_bipush (v := 6) hx hb dX8_senders_51 (by decide) ?_
          refine lv_icmp_ge (tgt := 104) hx hb dX8_senders_53 (by decide) (fun c_53 => ?_) (fun c_53 => ?_)
          · have hm := it_s c_53 hm
            refine lv_iinc (v := (x5 + 1)) (lv' := [(5, .int (x5 + 1)), (6, .int x6), (4, .int x4), (0, .ref AT), (1, .int p1), (2, .int p2), (3, .int p3)]) hx hb dX8_senders_104 hl (k := 1) rfl rfl (by decide) rfl (fun ls hl => ?_)
            refine lv_goto (tgt := 39) hx hb dX8_senders_107 (by decide) ?_
            exact ih_39 (x5 + 1) x4 fT_rf H locs ls hm hP hD hS (lv_sub hl [0, 2, 3, 4, 5, 6] rfl)
          · have hm := it_n c_53 hm
            refine lv_aload_n hx hb dX8_senders_56 rfl (lv_at hl 3 rfl) ?_
            refine lv_iload_n hx hb dX8_senders_57 rfl (lv_at hl 4 rfl) ?_
            refine lv_iload hx hb dX8_senders_58 (lv_at hl 1 rfl) ?_
            refine lv_iload hx hb dX8_senders_60 (lv_at hl 0 rfl) ?_
            obtain ⟨r_62, hc_62, hm⟩ := ob_s hm
            refine q_ci (q_rv (rest := []) ⟨hx, hb, hml, hown, hts⟩ hK hN hP hD (c_X8_isBestOn l D cI cZ H.size AT AT_al AT_kp AT_ik AT_rf AT_hd AT_bs AT_se AT_bf AT_te AT_by AT_an AT_vs vT_ab vT_be vT_byl vT_tka vT_tkl vT_tkn vT_val fT_al p1 x5 x6 r_62 hc_62) mb_X8_isBestOn mv_X8_isBestOn wl_X8_191 [0, 1] rfl rfl rfl (Nat.le_of_ble_eq_true rfl) (Nat.le_of_ble_eq_true rfl) rfl hl.1 rfl (Nat.le_of_ble_eq_true rfl) ⟨Nat.le_refl 0, Nat.le_refl 0⟩ dX8_senders_62) hP hD hS hA [0, 1] rfl rfl (fun H locs hP hD hS => ?_)
            have hP : va_P D vwCl (wd_X8_senders cI cZ AT AT_al AT_kp AT_ik AT_rf AT_hd AT_bs AT_se AT_bf AT_te AT_by AT_an AT_vs vT_ab vT_be vT_byl vT_tka vT_tkl vT_tkn vT_val fT_al fT_rf) H := hP
            have hD : va_D A (wd_X8_senders cI cZ AT AT_al AT_kp AT_ik AT_rf AT_hd AT_bs AT_se AT_bf AT_te AT_by AT_an AT_vs vT_ab vT_be vT_byl vT_tka vT_tkl vT_tkn vT_val fT_al fT_rf) := hD
            refine lv_if_eq (tgt := 98) hx hb dX8_senders_65 (by decide) (fun c_65 => ?_) (fun c_65 => ?_)
            · have hm := it_s c_65 hm
              refine lv_iinc (v := (x6 + 1)) (lv' := [(6, .int (x6 + 1)), (5, .int x5), (4, .int x4), (0, .ref AT), (1, .int p1), (2, .int p2), (3, .int p3)]) hx hb dX8_senders_98 hl (k := 0) rfl rfl (by decide) rfl (fun ls hl => ?_)
              refine lv_goto (tgt := 49) hx hb dX8_senders_101 (by decide) ?_
              exact ih_49 (x6 + 1) x5 x4 fT_rf H locs ls hm hP hD hS (lv_sub hl [0, 1, 2, 3, 4, 5, 6] rfl)
            · have hm := it_n c_65 hm
              refine lv_aload_n hx hb dX8_senders_68 rfl (lv_at hl 3 rfl) ?_
              refine lv_iload_n hx hb dX8_senders_69 rfl (lv_at hl 5 rfl) ?_
              refine lv_iload hx hb dX8_senders_70 (lv_at hl 0 rfl) ?_
              refine lv_iload hx hb dX8_senders_72 (lv_at hl 1 rfl) ?_
              obtain ⟨r_74, hc_74, hm⟩ := ob_s hm
              refine q_ci (q_rv (rest := []) ⟨hx, hb, hml, hown, hts⟩ hK hN hP hD (c_X8_isBestOn l D cI cZ H.size AT AT_al AT_kp AT_ik AT_rf AT_hd AT_bs AT_se AT_bf AT_te AT_by AT_an AT_vs vT_ab vT_be vT_byl vT_tka vT_tkl vT_tkn vT_val fT_al p2 x6 x5 r_74 hc_74) mb_X8_isBestOn mv_X8_isBestOn wl_X8_191 [0, 1] rfl rfl rfl (Nat.le_of_ble_eq_true rfl) (Nat.le_of_ble_eq_true rfl) rfl hl.1 rfl (Nat.le_of_ble_eq_true rfl) ⟨Nat.le_refl 0, Nat.le_refl 0⟩ dX8_senders_74) hP hD hS hA [0, 1] rfl rfl (fun H locs hP hD hS => ?_)
              have hP : va_P D vwCl (wd_X8_senders cI cZ AT AT_al AT_kp AT_ik AT_rf AT_hd AT_bs AT_se AT_bf AT_te AT_by AT_an AT_vs vT_ab vT_be vT_byl vT_tka vT_tkl vT_tkn vT_val fT_al fT_rf) H := hP
              have hD : va_D A (wd_X8_senders cI cZ AT AT_al AT_kp AT_ik AT_rf AT_hd AT_bs AT_se AT_bf AT_te AT_by AT_an AT_vs vT_ab vT_be vT_byl vT_tka vT_tkl vT_tkn vT_val fT_al fT_rf) := hD
              refine lv_if_eq (tgt := 98) hx hb dX8_senders_77 (by decide) (fun c_77 => ?_) (fun c_77 => ?_)
              · have hm := it_s c_77 hm
                refine lv_iinc (v := (x6 + 1)) (lv' := [(6, .int (x6 + 1)), (5, .int x5), (4, .int x4), (0, .ref AT), (1, .int p1), (2, .int p2), (3, .int p3)]) hx hb dX8_senders_98 hl (k := 0) rfl rfl (by decide) rfl (fun ls hl => ?_)
                refine lv_goto (tgt := 49) hx hb dX8_senders_101 (by decide) ?_
                exact ih_49 (x6 + 1) x5 x4 fT_rf H locs ls hm hP hD hS (lv_sub hl [0, 1, 2, 3, 4, 5, 6] rfl)
              · have hm := it_n c_77 hm
                refine lv_iload hx hb dX8_senders_80 (lv_at hl 2 rfl) ?_
                refine lv_iload_n hx hb dX8_senders_82 rfl (lv_at hl 6 rfl) ?_
                refine lv_icmp_ne (tgt := 95) hx hb dX8_senders_83 (by decide) (fun c_83 => ?_) (fun c_83 => ?_)
                · have hm := it_n c_83 hm
                  refine lv_iinc (v := (x4 + 1)) (lv' := [(4, .int (x4 + 1)), (6, .int x6), (5, .int x5), (0, .ref AT), (1, .int p1), (2, .int p2), (3, .int p3)]) hx hb dX8_senders_95 hl (k := 2) rfl rfl (by decide) rfl (fun ls hl => ?_)
                  refine lv_iinc (v := (x6 + 1)) (lv' := [(6, .int (x6 + 1)), (4, .int (x4 + 1)), (5, .int x5), (0, .ref AT), (1, .int p1), (2, .int p2), (3, .int p3)]) hx hb dX8_senders_98 hl (k := 1) rfl rfl (by decide) rfl (fun ls hl => ?_)
                  refine lv_goto (tgt := 49) hx hb dX8_senders_101 (by decide) ?_
                  exact ih_49 (x6 + 1) x5 (x4 + 1) fT_rf H locs ls hm hP hD hS (lv_sub hl [0, 2, 1, 3, 4, 5, 6] rfl)
                · have hm := it_s c_83 hm
                  refine lv_bipush (v := 10) hx hb dX8_senders_86 (by decide) ?_
                  refine lv_iload hx hb dX8_senders_88 (lv_at hl 1 rfl) ?_
                  refine lv_imul hx hb dX8_senders_90 ?_
                  refine lv_iload hx hb dX8_senders_91 (lv_at hl 0 rfl) ?_
                  refine lv_iadd hx hb dX8_senders_93 ?_
                  have hm := Option.some.inj hm
                  subst hm
                  exact q_iret (v := ((10 * x5) + x6)) hx hb hr hlocks hP hS dX8_senders_94
      intro x5 x4 fT_rf H locs ls hm hP hD hS hl
      rw [fL_X8_senders_39] at hm
      refine lv_iload hx hb dX8_senders_39 (lv_at hl 0 rfl) ?_
      refine lv_bipush (v := 6) hx hb dX8_senders_41 (by decide) ?_
      refine lv_icmp_ge (tgt := 110) hx hb dX8_senders_43 (by decide) (fun c_43 => ?_) (fun c_43 => ?_)
      · have hm := it_s c_43 hm
        refine lv_iload_n hx hb dX8_senders_110 rfl (lv_at hl 5 rfl) ?_
        refine lv_iconst (v := (-1)) hx hb dX8_senders_111 (by decide) ?_
        refine lv_icmp_ne (tgt := 120) hx hb dX8_senders_112 (by decide) (fun c_112 => ?_) (fun c_112 => ?_)
        · have hm := it_n c_112 hm
          refine lv_bipush (v := (-5)) hx hb dX8_senders_120 (by decide) ?_
          have hm := Option.some.inj hm
          subst hm
          exact q_iret (v := (-5)) hx hb hr hlocks hP hS dX8_senders_122
        · have hm := it_s c_112 hm
          refine lv_iload hx hb dX8_senders_115 (lv_at hl 1 rfl) ?_
          refine lv_goto (tgt := 122) hx hb dX8_senders_117 (by decide) ?_
          have hm := Option.some.inj hm
          subst hm
          exact q_iret (v := x4) hx hb hr hlocks hP hS dX8_senders_122
      · have hm := it_n c_43 hm
        refine lv_iconst (v := 0) hx hb dX8_senders_46 (by decide) ?_
        refine lv_istore (lv' := [(6, .int 0), (5, .int x5), (4, .int x4), (0, .ref AT), (1, .int p1), (2, .int p2), (3, .int p3)]) hx hb dX8_senders_47 hl (by decide) rfl (fun ls hl => ?_)
        exact hL_49 FU 0 x5 x4 fT_rf H locs ls hm hP hD hS (lv_sub hl [0, 1, 2, 3, 4, 5, 6] rfl)
  unfold fm_X8_senders at hm
  refine q_gen hS hP ?_
  intro H locs hP hS
  refine lv_aload_n hx hb dX8_senders_0 rfl (lv_at hl 0 rfl) ?_
  refine lv_iload_n hx hb dX8_senders_1 rfl (lv_at hl 1 rfl) ?_
  obtain ⟨r_2, hc_2, hm⟩ := ob_s hm
  refine q_ci (q_rv (rest := []) ⟨hx, hb, hml, hown, hts⟩ hK hN hP hD (c_X8_isFlower l D cI cZ H.size AT AT_al AT_kp AT_ik AT_rf AT_hd AT_bs AT_se AT_bf AT_te AT_by AT_an AT_vs vT_ab vT_be vT_byl vT_tka vT_tkl vT_tkn vT_val fT_al p1 r_2 hc_2) mb_X8_isFlower mv_X8_isFlower wl_X8_138 [0, 1] rfl rfl rfl (Nat.le_of_ble_eq_true rfl) (Nat.le_of_ble_eq_true rfl) rfl hl.1 rfl (Nat.le_of_ble_eq_true rfl) ⟨Nat.le_refl 0, Nat.le_refl 0⟩ dX8_senders_2) hP hD hS hA [0, 1] rfl rfl (fun H locs hP hD hS => ?_)
  have hP : va_P D vwCl (wd_X8_senders cI cZ AT AT_al AT_kp AT_ik AT_rf AT_hd AT_bs AT_se AT_bf AT_te AT_by AT_an AT_vs vT_ab vT_be vT_byl vT_tka vT_tkl vT_tkn vT_val fT_al fT_rf) H := hP
  have hD : va_D A (wd_X8_senders cI cZ AT AT_al AT_kp AT_ik AT_rf AT_hd AT_bs AT_se AT_bf AT_te AT_by AT_an AT_vs vT_ab vT_be vT_byl vT_tka vT_tkl vT_tkn vT_val fT_al fT_rf) := hD
  refine lv_if_eq (tgt := 26) hx hb dX8_senders_5 (by decide) (fun c_5 => ?_) (fun c_5 => ?_)
  · have hm := it_s c_5 hm
    refine lv_aload_n hx hb dX8_senders_26 rfl (lv_at hl 0 rfl) ?_
    refine lv_bipush (v := (-10)) hx hb dX8_senders_27 (by decide) ?_
    obtain ⟨r_29, hc_29, hm⟩ := ob_s hm
    refine q_ci (q_rv (rest := []) ⟨hx, hb, hml, hown, hts⟩ hK hN hP hD (c_X8_bad l D cI cZ H.size AT AT_al AT_kp AT_ik AT_rf AT_hd AT_bs AT_se AT_bf AT_te AT_by AT_an AT_vs vT_ab vT_be vT_byl vT_tka vT_tkl vT_tkn vT_val fT_rf (-10) r_29 hc_29) mb_X8_bad mv_X8_bad wl_X8_75 [0, 2] rfl rfl rfl (Nat.le_of_ble_eq_true rfl) (Nat.le_of_ble_eq_true rfl) rfl hl.1 rfl (Nat.le_of_ble_eq_true rfl) ⟨Nat.le_refl 0, Nat.le_refl 0⟩ dX8_senders_29) hP hD hS hA [0, 2] rfl rfl (fun H locs hP hD hS => ?_)
    have hP : va_P D vwCl (wd_X8_senders cI cZ AT AT_al AT_kp AT_ik AT_rf AT_hd AT_bs AT_se AT_bf AT_te AT_by AT_an AT_vs vT_ab vT_be vT_byl vT_tka vT_tkl vT_tkn vT_val fT_al r_29.2) H := hP
    have hD : va_D A (wd_X8_senders cI cZ AT AT_al AT_kp AT_ik AT_rf AT_hd AT_bs AT_se AT_bf AT_te AT_by AT_an AT_vs vT_ab vT_be vT_byl vT_tka vT_tkl vT_tkn vT_val fT_al r_29.2) := hD
    have hm := Option.some.inj hm
    subst hm
    exact q_iret (v := r_29.1) hx hb hr hlocks hP hS dX8_senders_32
  · have hm := it_n c_5 hm
    refine lv_aload_n hx hb dX8_senders_8 rfl (lv_at hl 0 rfl) ?_
    refine lv_iload_n hx hb dX8_senders_9 rfl (lv_at hl 2 rfl) ?_
    obtain ⟨r_10, hc_10, hm⟩ := ob_s hm
    refine q_ci (q_rv (rest := []) ⟨hx, hb, hml, hown, hts⟩ hK hN hP hD (c_X8_isFlower l D cI cZ H.size AT AT_al AT_kp AT_ik AT_rf AT_hd AT_bs AT_se AT_bf AT_te AT_by AT_an AT_vs vT_ab vT_be vT_byl vT_tka vT_tkl vT_tkn vT_val fT_al p2 r_10 hc_10) mb_X8_isFlower mv_X8_isFlower wl_X8_138 [0, 1] rfl rfl rfl (Nat.le_of_ble_eq_true rfl) (Nat.le_of_ble_eq_true rfl) rfl hl.1 rfl (Nat.le_of_ble_eq_true rfl) ⟨Nat.le_refl 0, Nat.le_refl 0⟩ dX8_senders_10) hP hD hS hA [0, 1] rfl rfl (fun H locs hP hD hS => ?_)
    have hP : va_P D vwCl (wd_X8_senders cI cZ AT AT_al AT_kp AT_ik AT_rf AT_hd AT_bs AT_se AT_bf AT_te AT_by AT_an AT_vs vT_ab vT_be vT_byl vT_tka vT_tkl vT_tkn vT_val fT_al fT_rf) H := hP
    have hD : va_D A (wd_X8_senders cI cZ AT AT_al AT_kp AT_ik AT_rf AT_hd AT_bs AT_se AT_bf AT_te AT_by AT_an AT_vs vT_ab vT_be vT_byl vT_tka vT_tkl vT_tkn vT_val fT_al fT_rf) := hD
    refine lv_if_eq (tgt := 26) hx hb dX8_senders_13 (by decide) (fun c_13 => ?_) (fun c_13 => ?_)
    · have hm := it_s c_13 hm
      refine lv_aload_n hx hb dX8_senders_26 rfl (lv_at hl 0 rfl) ?_
      refine lv_bipush (v := (-10)) hx hb dX8_senders_27 (by decide) ?_
      obtain ⟨r_29, hc_29, hm⟩ := ob_s hm
      refine q_ci (q_rv (rest := []) ⟨hx, hb, hml, hown, hts⟩ hK hN hP hD (c_X8_bad l D cI cZ H.size AT AT_al AT_kp AT_ik AT_rf AT_hd AT_bs AT_se AT_bf AT_te AT_by AT_an AT_vs vT_ab vT_be vT_byl vT_tka vT_tkl vT_tkn vT_val fT_rf (-10) r_29 hc_29) mb_X8_bad mv_X8_bad wl_X8_75 [0, 2] rfl rfl rfl (Nat.le_of_ble_eq_true rfl) (Nat.le_of_ble_eq_true rfl) rfl hl.1 rfl (Nat.le_of_ble_eq_true rfl) ⟨Nat.le_refl 0, Nat.le_refl 0⟩ dX8_senders_29) hP hD hS hA [0, 2] rfl rfl (fun H locs hP hD hS => ?_)
      have hP : va_P D vwCl (wd_X8_senders cI cZ AT AT_al AT_kp AT_ik AT_rf AT_hd AT_bs AT_se AT_bf AT_te AT_by AT_an AT_vs vT_ab vT_be vT_byl vT_tka vT_tkl vT_tkn vT_val fT_al r_29.2) H := hP
      have hD : va_D A (wd_X8_senders cI cZ AT AT_al AT_kp AT_ik AT_rf AT_hd AT_bs AT_se AT_bf AT_te AT_by AT_an AT_vs vT_ab vT_be vT_byl vT_tka vT_tkl vT_tkn vT_val fT_al r_29.2) := hD
      have hm := Option.some.inj hm
      subst hm
      exact q_iret (v := r_29.1) hx hb hr hlocks hP hS dX8_senders_32
    · have hm := it_n c_13 hm
      refine lv_iload_n hx hb dX8_senders_16 rfl (lv_at hl 1 rfl) ?_
      refine lv_iload_n hx hb dX8_senders_17 rfl (lv_at hl 2 rfl) ?_
      refine lv_icmp_eq (tgt := 26) hx hb dX8_senders_18 (by decide) (fun c_18 => ?_) (fun c_18 => ?_)
      · have hm := it_s c_18 hm
        refine lv_aload_n hx hb dX8_senders_26 rfl (lv_at hl 0 rfl) ?_
        refine lv_bipush (v := (-10)) hx hb dX8_senders_27 (by decide) ?_
        obtain ⟨r_29, hc_29, hm⟩ := ob_s hm
        refine q_ci (q_rv (rest := []) ⟨hx, hb, hml, hown, hts⟩ hK hN hP hD (c_X8_bad l D cI cZ H.size AT AT_al AT_kp AT_ik AT_rf AT_hd AT_bs AT_se AT_bf AT_te AT_by AT_an AT_vs vT_ab vT_be vT_byl vT_tka vT_tkl vT_tkn vT_val fT_rf (-10) r_29 hc_29) mb_X8_bad mv_X8_bad wl_X8_75 [0, 2] rfl rfl rfl (Nat.le_of_ble_eq_true rfl) (Nat.le_of_ble_eq_true rfl) rfl hl.1 rfl (Nat.le_of_ble_eq_true rfl) ⟨Nat.le_refl 0, Nat.le_refl 0⟩ dX8_senders_29) hP hD hS hA [0, 2] rfl rfl (fun H locs hP hD hS => ?_)
        have hP : va_P D vwCl (wd_X8_senders cI cZ AT AT_al AT_kp AT_ik AT_rf AT_hd AT_bs AT_se AT_bf AT_te AT_by AT_an AT_vs vT_ab vT_be vT_byl vT_tka vT_tkl vT_tkn vT_val fT_al r_29.2) H := hP
        have hD : va_D A (wd_X8_senders cI cZ AT AT_al AT_kp AT_ik AT_rf AT_hd AT_bs AT_se AT_bf AT_te AT_by AT_an AT_vs vT_ab vT_be vT_byl vT_tka vT_tkl vT_tkn vT_val fT_al r_29.2) := hD
        have hm := Option.some.inj hm
        subst hm
        exact q_iret (v := r_29.1) hx hb hr hlocks hP hS dX8_senders_32
      · have hm := it_n c_18 hm
        refine lv_iload_n hx hb dX8_senders_21 rfl (lv_at hl 3 rfl) ?_
        refine lv_iconst (v := (-1)) hx hb dX8_senders_22 (by decide) ?_
        refine lv_icmp_ge (tgt := 33) hx hb dX8_senders_23 (by decide) (fun c_23 => ?_) (fun c_23 => ?_)
        · have hm := it_s c_23 hm
          refine lv_iconst (v := 0) hx hb dX8_senders_33 (by decide) ?_
          refine lv_istore (lv' := [(4, .int 0), (0, .ref AT), (1, .int p1), (2, .int p2), (3, .int p3)]) hx hb dX8_senders_34 hl (by decide) rfl (fun ls hl => ?_)
          refine lv_iconst (v := 0) hx hb dX8_senders_36 (by decide) ?_
          refine lv_istore (lv' := [(5, .int 0), (4, .int 0), (0, .ref AT), (1, .int p1), (2, .int p2), (3, .int p3)]) hx hb dX8_senders_37 hl (by decide) rfl (fun ls hl => ?_)
          exact hL_39 FU 0 0 fT_rf H locs ls hm hP hD hS (lv_sub hl [0, 1, 2, 3, 4, 5] rfl)
        · have hm := it_n c_23 hm
          refine lv_aload_n hx hb dX8_senders_26 rfl (lv_at hl 0 rfl) ?_
          refine lv_bipush (v := (-10)) hx hb dX8_senders_27 (by decide) ?_
          obtain ⟨r_29, hc_29, hm⟩ := ob_s hm
          refine q_ci (q_rv (rest := []) ⟨hx, hb, hml, hown, hts⟩ hK hN hP hD (c_X8_bad l D cI cZ H.size AT AT_al AT_kp AT_ik AT_rf AT_hd AT_bs AT_se AT_bf AT_te AT_by AT_an AT_vs vT_ab vT_be vT_byl vT_tka vT_tkl vT_tkn vT_val fT_rf (-10) r_29 hc_29) mb_X8_bad mv_X8_bad wl_X8_75 [0, 2] rfl rfl rfl (Nat.le_of_ble_eq_true rfl) (Nat.le_of_ble_eq_true rfl) rfl hl.1 rfl (Nat.le_of_ble_eq_true rfl) ⟨Nat.le_refl 0, Nat.le_refl 0⟩ dX8_senders_29) hP hD hS hA [0, 2] rfl rfl (fun H locs hP hD hS => ?_)
          have hP : va_P D vwCl (wd_X8_senders cI cZ AT AT_al AT_kp AT_ik AT_rf AT_hd AT_bs AT_se AT_bf AT_te AT_by AT_an AT_vs vT_ab vT_be vT_byl vT_tka vT_tkl vT_tkn vT_val fT_al r_29.2) H := hP
          have hD : va_D A (wd_X8_senders cI cZ AT AT_al AT_kp AT_ik AT_rf AT_hd AT_bs AT_se AT_bf AT_te AT_by AT_an AT_vs vT_ab vT_be vT_byl vT_tka vT_tkl vT_tkn vT_val fT_al r_29.2) := hD
          have hm := Option.some.inj hm
          subst hm
          exact q_iret (v := r_29.1) hx hb hr hlocks hP hS dX8_senders_32
theorem pf_X8_195 {p : Program} {l : Launch} {e : Env} {R : Room} {s : State} {m : MethodId} {args : Array Value} {below : List Frame} {meth : Method} {c : Code} {H : Heap} {locs : List Loc} {cells slots : Nat} {Q : State → Prop} {pc : Nat} {ls : Array Slot} {cc : ByteArray} {D : va_G} {cI cZ : ClassId} {ws : va_W} {A : Nat → Prop} {a : Nat} {rest fs : List Value} {x : Int64} (hx : p.tables.exec = Jvm.exec) (hb : c.code = cc) (hts : ∀ w ∈ bg, w.before args s = true) (hown : s.vm.findClass RX8 = some m.cls) (hK : va_K D vwCl (q_tys cI cZ) s) (hN : q_N s) (hP : va_P D vwCl ws H) (hD : va_D A ws) (hS : va_S A s.heap H locs) (q0 : Nat) (he : ws[q0]? = some (a, .inr (8, fs))) (hdg : decode cc pc = .ok (.putfield 195, 3)) (kk : ∀ (H1 : Heap) (locs1 : List Loc), va_P D vwCl (ws.set q0 (a, .inr (8, fs.set 4 (.long x)))) H1 → va_D A (ws.set q0 (a, .inr (8, fs.set 4 (.long x)))) → va_S A s.heap H1 locs1 → W p l e R s m args below meth c H1 locs1 cells slots Q (F0 m (pc + 3) ls rest)) (hl : 4 < fs.length := by exact Nat.le_of_ble_eq_true rfl) : W p l e R s m args below meth c H locs cells slots Q (F0 m pc ls (.long x :: .ref a :: rest)) :=
  va_put (C := RX8) (T := TX8) (N := 19) (ty := .long) hx hb hts wu_X8 tyX8 tyX8_ok nmX8 hown hK hP hD hS q0 he rfl 4 (by decide) (hts _ wf_X8_195) (fun _ h9 => h9) rfl (by decide +kernel) rfl rfl hl hdg kk
theorem pf_X8_23 {p : Program} {l : Launch} {e : Env} {R : Room} {s : State} {m : MethodId} {args : Array Value} {below : List Frame} {meth : Method} {c : Code} {H : Heap} {locs : List Loc} {cells slots : Nat} {Q : State → Prop} {pc : Nat} {ls : Array Slot} {cc : ByteArray} {D : va_G} {cI cZ : ClassId} {ws : va_W} {A : Nat → Prop} {a : Nat} {rest fs : List Value} {x : Int64} (hx : p.tables.exec = Jvm.exec) (hb : c.code = cc) (hts : ∀ w ∈ bg, w.before args s = true) (hown : s.vm.findClass RX8 = some m.cls) (hK : va_K D vwCl (q_tys cI cZ) s) (hN : q_N s) (hP : va_P D vwCl ws H) (hD : va_D A ws) (hS : va_S A s.heap H locs) (q0 : Nat) (he : ws[q0]? = some (a, .inr (8, fs))) (hdg : decode cc pc = .ok (.putfield 23, 3)) (kk : ∀ (H1 : Heap) (locs1 : List Loc), va_P D vwCl (ws.set q0 (a, .inr (8, fs.set 5 (.long x)))) H1 → va_D A (ws.set q0 (a, .inr (8, fs.set 5 (.long x)))) → va_S A s.heap H1 locs1 → W p l e R s m args below meth c H1 locs1 cells slots Q (F0 m (pc + 3) ls rest)) (hl : 5 < fs.length := by exact Nat.le_of_ble_eq_true rfl) : W p l e R s m args below meth c H locs cells slots Q (F0 m pc ls (.long x :: .ref a :: rest)) :=
  va_put (C := RX8) (T := TX8) (N := 19) (ty := .long) hx hb hts wu_X8 tyX8 tyX8_ok nmX8 hown hK hP hD hS q0 he rfl 5 (by decide) (hts _ wf_X8_23) (fun _ h9 => h9) rfl (by decide +kernel) rfl rfl hl hdg kk
theorem mb_X8_fraction : q_mb yX8_fraction cX8_fraction 11 none 2 := ⟨wc_X8_fraction, wn_X8, by decide, by decide, by decide +kernel⟩
theorem mv_X8_fraction : q_mv yX8_fraction 8 := ⟨wi_X8_fraction, ws_X8_fraction, _, rfl, rfl⟩
def wd_X8_fraction (cI cZ : ClassId) (AT AT_al AT_kp AT_ik AT_rf AT_hd AT_bs AT_se AT_bf AT_te AT_by AT_an AT_vs : Nat) (vT_ab : Int64) (vT_be : Int64) (vT_byl : Int32) (vT_tka : Int32) (vT_tkl : Int32) (vT_tkn : Int32) (vT_val : Int32) : va_W := [(AT, .inr (8, [.ref AT_al, .ref AT_kp, .ref AT_ik, .ref AT_rf, .long vT_ab, .long vT_be, .ref AT_hd, .ref AT_bs, .ref AT_se, .ref AT_bf, .ref AT_te, .ref AT_by, .int vT_byl, .int vT_tka, .int vT_tkl, .int vT_tkn, .int vT_val, .ref AT_an, .ref AT_vs]))]
def fL_X8_fraction_6 (p1 : Int64) (p3 : Int64) : Nat → Int64 → Int64 → Int64 → Int64 → Option (Int64 × Int64)
  | 0, _, _, _, _ => none
  | fu + 1, x7, x5, vT_ab, vT_be => if (lg_cmp x7 0) = 0 then (nzl x5 (some ((p1 / x5), (p3 / x5)))) else (nzl x7 (fL_X8_fraction_6 p1 p3 fu (x5 - x5 / x7 * x7) x7 vT_ab vT_be))
def fm_X8_fraction (p1 : Int64) (p3 : Int64) (vT_ab : Int64) (vT_be : Int64) : Option (Int64 × Int64) := fL_X8_fraction_6 p1 p3 FU p3 p1 vT_ab vT_be
set_option maxHeartbeats 4000000 in
set_option maxRecDepth 100000 in
theorem c_X8_fraction (l : Launch) (D : va_G) (cI cZ : ClassId) (sz : Nat) (AT AT_al AT_kp AT_ik AT_rf AT_hd AT_bs AT_se AT_bf AT_te AT_by AT_an AT_vs : Nat) (vT_ab : Int64) (vT_be : Int64) (vT_byl : Int32) (vT_tka : Int32) (vT_tkl : Int32) (vT_tkn : Int32) (vT_val : Int32) (p1 : Int64) (p3 : Int64) (out : (Int64 × Int64)) (hm : fm_X8_fraction p1 p3 vT_ab vT_be = some out) : Met l yX8_fraction (Cond.code yX8_fraction cX8_fraction 11 none :: bg) { frames := 0, cells := 0, slots := 0, locals := 0 } (va_Pc [.ref AT, .long p1, .long p3] (q_pre D cI cZ sz (wd_X8_fraction cI cZ AT AT_al AT_kp AT_ik AT_rf AT_hd AT_bs AT_se AT_bf AT_te AT_by AT_an AT_vs vT_ab vT_be vT_byl vT_tka vT_tkl vT_tkn vT_val))) (q_Qv D (wd_X8_fraction cI cZ AT AT_al AT_kp AT_ik AT_rf AT_hd AT_bs AT_se AT_bf AT_te AT_by AT_an AT_vs out.1 out.2 vT_byl vT_tka vT_tkl vT_tkn vT_val) (va_A (wd_X8_fraction cI cZ AT AT_al AT_kp AT_ik AT_rf AT_hd AT_bs AT_se AT_bf AT_te AT_by AT_an AT_vs vT_ab vT_be vT_byl vT_tka vT_tkl vT_tkn vT_val) sz)) 0 0 (va_A (wd_X8_fraction cI cZ AT AT_al AT_kp AT_ik AT_rf AT_hd AT_bs AT_se AT_bf AT_te AT_by AT_an AT_vs vT_ab vT_be vT_byl vT_tka vT_tkl vT_tkn vT_val) sz) := by
  refine q_met (fun A => q_Qv D (wd_X8_fraction cI cZ AT AT_al AT_kp AT_ik AT_rf AT_hd AT_bs AT_se AT_bf AT_te AT_by AT_an AT_vs out.1 out.2 vT_byl vT_tka vT_tkl vT_tkn vT_val) A) (by decide) (Nat.le_of_ble_eq_true rfl) ?_
  intro p e s m below meth c ls A hx hb hr hml hown hts hlocks _ hA hS hP hD hK hN hl
  have hown : s.vm.findClass RX8 = some m.cls := hown
  have hl : lv_has ls 11 [(0, .ref AT), (1, .long p1), (3, .long p3)] := hl
  have hL_6 : ∀ (fu_6 : Nat) (x7 : Int64) (x5 : Int64) (vT_ab : Int64) (vT_be : Int64) (H : Heap) (locs : List Loc) (ls : Array Slot), fL_X8_fraction_6 p1 p3 fu_6 x7 x5 vT_ab vT_be = some out → va_P D vwCl (wd_X8_fraction cI cZ AT AT_al AT_kp AT_ik AT_rf AT_hd AT_bs AT_se AT_bf AT_te AT_by AT_an AT_vs vT_ab vT_be vT_byl vT_tka vT_tkl vT_tkn vT_val) H → va_D A (wd_X8_fraction cI cZ AT AT_al AT_kp AT_ik AT_rf AT_hd AT_bs AT_se AT_bf AT_te AT_by AT_an AT_vs vT_ab vT_be vT_byl vT_tka vT_tkl vT_tkn vT_val) → va_S A s.heap H locs → lv_has ls 11 [(7, .long x7), (5, .long x5), (0, .ref AT), (1, .long p1), (3, .long p3)] → W p l e { frames := 0, cells := 0, slots := 0, locals := 0 } s m ([.ref AT, .long p1, .long p3] : List Value).toArray below meth c H locs 0 0 (MQ below (q_Qv D (wd_X8_fraction cI cZ AT AT_al AT_kp AT_ik AT_rf AT_hd AT_bs AT_se AT_bf AT_te AT_by AT_an AT_vs out.1 out.2 vT_byl vT_tka vT_tkl vT_tkn vT_val) A) ([.ref AT, .long p1, .long p3] : List Value).toArray s 0 0 A) (F0 m 6 ls []) := by
    intro fu_6
    induction fu_6 with
    | zero => intro x7 x5 vT_ab vT_be H locs ls hm hP hD hS hl; exact absurd (show (none : Option (Int64 × Int64)) = some out from hm) (fun h => nomatch h)
    | succ fu_6 ih_6 =>
      intro x7 x5 vT_ab vT_be H locs ls hm hP hD hS hl
      rw [fL_X8_fraction_6] at hm
      refine lv_lload hx hb dX8_fraction_6 (lv_at hl 0 rfl) ?_
      refine lv_lconst (v := 0) hx hb dX8_fraction_8 (by decide) ?_
      refine W.lcmp hx hb dX8_fraction_9 ?_
      refine lv_if_eq (tgt := 31) hx hb dX8_fraction_10 (by decide) (fun c_10 => ?_) (fun c_10 => ?_)
      · have hm := it_s c_10 hm
        refine lv_aload_n hx hb dX8_fraction_31 rfl (lv_at hl 2 rfl) ?_
        refine lv_lload_n hx hb dX8_fraction_32 rfl (lv_at hl 3 rfl) ?_
        refine lv_lload hx hb dX8_fraction_33 (lv_at hl 1 rfl) ?_
        obtain ⟨hz_35, hm⟩ := nzl_s hm
        refine lv_ldiv hx hb dX8_fraction_35 hz_35 ?_
        refine pf_X8_195 hx hb hts hown hK hN hP hD hS 0 rfl dX8_fraction_36 (fun H locs hP hD hS => ?_)
        have hP : va_P D vwCl (wd_X8_fraction cI cZ AT AT_al AT_kp AT_ik AT_rf AT_hd AT_bs AT_se AT_bf AT_te AT_by AT_an AT_vs (p1 / x5) vT_be vT_byl vT_tka vT_tkl vT_tkn vT_val) H := hP
        have hD : va_D A (wd_X8_fraction cI cZ AT AT_al AT_kp AT_ik AT_rf AT_hd AT_bs AT_se AT_bf AT_te AT_by AT_an AT_vs (p1 / x5) vT_be vT_byl vT_tka vT_tkl vT_tkn vT_val) := hD
        refine lv_aload_n hx hb dX8_fraction_39 rfl (lv_at hl 2 rfl) ?_
        refine lv_lload_n hx hb dX8_fraction_40 rfl (lv_at hl 4 rfl) ?_
        refine lv_lload hx hb dX8_fraction_41 (lv_at hl 1 rfl) ?_
        refine lv_ldiv hx hb dX8_fraction_43 hz_35 ?_
        refine pf_X8_23 hx hb hts hown hK hN hP hD hS 0 rfl dX8_fraction_44 (fun H locs hP hD hS => ?_)
        have hP : va_P D vwCl (wd_X8_fraction cI cZ AT AT_al AT_kp AT_ik AT_rf AT_hd AT_bs AT_se AT_bf AT_te AT_by AT_an AT_vs (p1 / x5) (p3 / x5) vT_byl vT_tka vT_tkl vT_tkn vT_val) H := hP
        have hD : va_D A (wd_X8_fraction cI cZ AT AT_al AT_kp AT_ik AT_rf AT_hd AT_bs AT_se AT_bf AT_te AT_by AT_an AT_vs (p1 / x5) (p3 / x5) vT_byl vT_tka vT_tkl vT_tkn vT_val) := hD
        have hm := Option.some.inj hm
        subst hm
        exact q_vret hx hb hr hlocks hP hS dX8_fraction_47
      · have hm := it_n c_10 hm
        refine lv_lload hx hb dX8_fraction_13 (lv_at hl 1 rfl) ?_
        refine lv_lload hx hb dX8_fraction_15 (lv_at hl 0 rfl) ?_
        obtain ⟨hz_17, hm⟩ := nzl_s hm
        refine lv_lrem hx hb dX8_fraction_17 hz_17 ?_
        refine lv_lstore (lv' := [(9, .long (x5 - x5 / x7 * x7)), (7, .long x7), (5, .long x5), (0, .ref AT), (1, .long p1), (3, .long p3)]) hx hb dX8_fraction_18 hl (by decide) rfl (fun ls hl => ?_)
        refine lv_lload hx hb dX8_fraction_20 (lv_at hl 1 rfl) ?_
        refine lv_lstore (lv' := [(5, .long x7), (9, .long (x5 - x5 / x7 * x7)), (7, .long x7), (0, .ref AT), (1, .long p1), (3, .long p3)]) hx hb dX8_fraction_22 hl (by decide) rfl (fun ls hl => ?_)
        refine lv_lload hx hb dX8_fraction_24 (lv_at hl 1 rfl) ?_
        refine lv_lstore (lv' := [(7, .long (x5 - x5 / x7 * x7)), (5, .long x7), (9, .long (x5 - x5 / x7 * x7)), (0, .ref AT), (1, .long p1), (3, .long p3)]) hx hb dX8_fraction_26 hl (by decide) rfl (fun ls hl => ?_)
        refine lv_goto (tgt := 6) hx hb dX8_fraction_28 (by decide) ?_
        exact ih_6 (x5 - x5 / x7 * x7) x7 vT_ab vT_be H locs ls hm hP hD hS (lv_sub hl [0, 1, 3, 4, 5] rfl)
  unfold fm_X8_fraction at hm
  refine q_gen hS hP ?_
  intro H locs hP hS
  refine lv_lload_n hx hb dX8_fraction_0 rfl (lv_at hl 1 rfl) ?_
  refine lv_lstore (lv' := [(5, .long p1), (0, .ref AT), (1, .long p1), (3, .long p3)]) hx hb dX8_fraction_1 hl (by decide) rfl (fun ls hl => ?_)
  refine lv_lload_n hx hb dX8_fraction_3 rfl (lv_at hl 3 rfl) ?_
  refine lv_lstore (lv' := [(7, .long p3), (5, .long p1), (0, .ref AT), (1, .long p1), (3, .long p3)]) hx hb dX8_fraction_4 hl (by decide) rfl (fun ls hl => ?_)
  exact hL_6 FU p3 p1 vT_ab vT_be H locs ls hm hP hD hS (lv_sub hl [0, 1, 2, 3, 4] rfl)
theorem mb_X8_slips : q_mb yX8_slips cX8_slips 7 (some .int) 2 := ⟨wc_X8_slips, wn_X8, by decide, by decide, by decide +kernel⟩
theorem mv_X8_slips : q_mv yX8_slips 8 := ⟨wi_X8_slips, ws_X8_slips, _, rfl, rfl⟩
def wd_X8_slips (cI cZ : ClassId) (AT AT_al AT_kp AT_ik AT_rf AT_hd AT_bs AT_se AT_bf AT_te AT_by AT_an AT_vs : Nat) (vT_ab : Int64) (vT_be : Int64) (vT_byl : Int32) (vT_tka : Int32) (vT_tkl : Int32) (vT_tkn : Int32) (vT_val : Int32) (fT_al : Nat → Int32) (fT_rf : Nat → Int32) : va_W := [(AT, .inr (8, [.ref AT_al, .ref AT_kp, .ref AT_ik, .ref AT_rf, .long vT_ab, .long vT_be, .ref AT_hd, .ref AT_bs, .ref AT_se, .ref AT_bf, .ref AT_te, .ref AT_by, .int vT_byl, .int vT_tka, .int vT_tkl, .int vT_tkn, .int vT_val, .ref AT_an, .ref AT_vs])), (AT_al, .inl (cI, 312, .inl fT_al)), (AT_rf, .inl (cI, 3, .inl fT_rf))]
def fL_X8_slips_32 (p1 : Int32) (p2 : Int32) (fT_al : Nat → Int32) : Nat → Int32 → Int64 → Int64 → Int64 → (Nat → Int32) → Option (Int32 × Int64 × Int64 × (Nat → Int32))
  | 0, _, _, _, _, _ => none
  | fu + 1, x5, x3, vT_ab, vT_be, fT_rf => if (fT_al 1) ≤ x5 then (Option.bind (fm_X8_fraction x3 10 vT_ab vT_be) (fun r_142 => some (1, r_142.1, r_142.2, fT_rf))) else (Option.bind (fm_X8_believesOf 312 p1 x5 fT_al) (fun r_50 => gd (24 + x5) 312 (gd (6 + p1) 312 (if (fT_al (Int32.toNatClampNeg (24 + x5))) = (fT_al (Int32.toNatClampNeg (6 + p1))) then (if (((fT_al (Int32.toNatClampNeg (24 + x5))) + 1) - ((fT_al (Int32.toNatClampNeg (24 + x5))) + 1) / 6 * 6) = (fT_al (Int32.toNatClampNeg (6 + p1))) then (fL_X8_slips_32 p1 p2 fT_al fu (x5 + 1) ((x3 + (Int32.toInt64 ((10 - p2) * r_50))) + (Int32.toInt64 (p2 * r_50))) vT_ab vT_be fT_rf) else (fL_X8_slips_32 p1 p2 fT_al fu (x5 + 1) ((x3 + (Int32.toInt64 ((10 - p2) * r_50))) + 0) vT_ab vT_be fT_rf)) else (if (((fT_al (Int32.toNatClampNeg (24 + x5))) + 1) - ((fT_al (Int32.toNatClampNeg (24 + x5))) + 1) / 6 * 6) = (fT_al (Int32.toNatClampNeg (6 + p1))) then (fL_X8_slips_32 p1 p2 fT_al fu (x5 + 1) ((x3 + 0) + (Int32.toInt64 (p2 * r_50))) vT_ab vT_be fT_rf) else (fL_X8_slips_32 p1 p2 fT_al fu (x5 + 1) ((x3 + 0) + 0) vT_ab vT_be fT_rf))))))
def fm_X8_slips (p1 : Int32) (p2 : Int32) (vT_ab : Int64) (vT_be : Int64) (fT_al : Nat → Int32) (fT_rf : Nat → Int32) : Option (Int32 × Int64 × Int64 × (Nat → Int32)) := Option.bind (fm_X8_isSleeper p1 fT_al) (fun r_2 => if r_2 = 0 then (Option.bind (fm_X8_bad (-2) fT_rf) (fun r_23 => some (r_23.1, vT_ab, vT_be, r_23.2))) else (Option.bind (fm_X8_in (Int32.toInt64 p2) 0 10) (fun r_14 => if r_14 = 0 then (Option.bind (fm_X8_bad (-2) fT_rf) (fun r_23 => some (r_23.1, vT_ab, vT_be, r_23.2))) else (fL_X8_slips_32 p1 p2 fT_al FU 0 0 vT_ab vT_be fT_rf))))
set_option maxHeartbeats 4000000 in
set_option maxRecDepth 100000 in
theorem c_X8_slips (l : Launch) (D : va_G) (cI cZ : ClassId) (sz : Nat) (AT AT_al AT_kp AT_ik AT_rf AT_hd AT_bs AT_se AT_bf AT_te AT_by AT_an AT_vs : Nat) (vT_ab : Int64) (vT_be : Int64) (vT_byl : Int32) (vT_tka : Int32) (vT_tkl : Int32) (vT_tkn : Int32) (vT_val : Int32) (fT_al : Nat → Int32) (fT_rf : Nat → Int32) (p1 : Int32) (p2 : Int32) (out : (Int32 × Int64 × Int64 × (Nat → Int32))) (hm : fm_X8_slips p1 p2 vT_ab vT_be fT_al fT_rf = some out) : Met l yX8_slips (Cond.code yX8_slips cX8_slips 7 (some .int) :: bg) { frames := 2, cells := 0, slots := 0, locals := 46 } (va_Pc [.ref AT, .int p1, .int p2] (q_pre D cI cZ sz (wd_X8_slips cI cZ AT AT_al AT_kp AT_ik AT_rf AT_hd AT_bs AT_se AT_bf AT_te AT_by AT_an AT_vs vT_ab vT_be vT_byl vT_tka vT_tkl vT_tkn vT_val fT_al fT_rf))) (q_Qi D (wd_X8_slips cI cZ AT AT_al AT_kp AT_ik AT_rf AT_hd AT_bs AT_se AT_bf AT_te AT_by AT_an AT_vs out.2.1 out.2.2.1 vT_byl vT_tka vT_tkl vT_tkn vT_val fT_al out.2.2.2) out.1 (va_A (wd_X8_slips cI cZ AT AT_al AT_kp AT_ik AT_rf AT_hd AT_bs AT_se AT_bf AT_te AT_by AT_an AT_vs vT_ab vT_be vT_byl vT_tka vT_tkl vT_tkn vT_val fT_al fT_rf) sz)) 0 0 (va_A (wd_X8_slips cI cZ AT AT_al AT_kp AT_ik AT_rf AT_hd AT_bs AT_se AT_bf AT_te AT_by AT_an AT_vs vT_ab vT_be vT_byl vT_tka vT_tkl vT_tkn vT_val fT_al fT_rf) sz) := by
  refine q_met (fun A => q_Qi D (wd_X8_slips cI cZ AT AT_al AT_kp AT_ik AT_rf AT_hd AT_bs AT_se AT_bf AT_te AT_by AT_an AT_vs out.2.1 out.2.2.1 vT_byl vT_tka vT_tkl vT_tkn vT_val fT_al out.2.2.2) out.1 A) (by decide) (Nat.le_of_ble_eq_true rfl) ?_
  intro p e s m below meth c ls A hx hb hr hml hown hts hlocks _ hA hS hP hD hK hN hl
  have hown : s.vm.findClass RX8 = some m.cls := hown
  have hl : lv_has ls 7 [(0, .ref AT), (1, .int p1), (2, .int p2)] := hl
  have hL_32 : ∀ (fu_32 : Nat) (x5 : Int32) (x3 : Int64) (vT_ab : Int64) (vT_be : Int64) (fT_rf : Nat → Int32) (H : Heap) (locs : List Loc) (ls : Array Slot), fL_X8_slips_32 p1 p2 fT_al fu_32 x5 x3 vT_ab vT_be fT_rf = some out → va_P D vwCl (wd_X8_slips cI cZ AT AT_al AT_kp AT_ik AT_rf AT_hd AT_bs AT_se AT_bf AT_te AT_by AT_an AT_vs vT_ab vT_be vT_byl vT_tka vT_tkl vT_tkn vT_val fT_al fT_rf) H → va_D A (wd_X8_slips cI cZ AT AT_al AT_kp AT_ik AT_rf AT_hd AT_bs AT_se AT_bf AT_te AT_by AT_an AT_vs vT_ab vT_be vT_byl vT_tka vT_tkl vT_tkn vT_val fT_al fT_rf) → va_S A s.heap H locs → lv_has ls 7 [(5, .int x5), (3, .long x3), (0, .ref AT), (1, .int p1), (2, .int p2)] → W p l e { frames := 2, cells := 0, slots := 0, locals := 46 } s m ([.ref AT, .int p1, .int p2] : List Value).toArray below meth c H locs 0 0 (MQ below (q_Qi D (wd_X8_slips cI cZ AT AT_al AT_kp AT_ik AT_rf AT_hd AT_bs AT_se AT_bf AT_te AT_by AT_an AT_vs out.2.1 out.2.2.1 vT_byl vT_tka vT_tkl vT_tkn vT_val fT_al out.2.2.2) out.1 A) ([.ref AT, .int p1, .int p2] : List Value).toArray s 0 0 A) (F0 m 32 ls []) := by
    intro fu_32
    induction fu_32 with
    | zero => intro x5 x3 vT_ab vT_be fT_rf H locs ls hm hP hD hS hl; exact absurd (show (none : Option (Int32 × Int64 × Int64 × (Nat → Int32))) = some out from hm) (fun h => nomatch h)
    | succ fu_32 ih_32 =>
      intro x5 x3 vT_ab vT_be fT_rf H locs ls hm hP hD hS hl
      rw [fL_X8_slips_32] at hm
      refine lv_iload hx hb dX8_slips_32 (lv_at hl 0 rfl) ?_
      refine lv_aload_n hx hb dX8_slips_34 rfl (lv_at hl 2 rfl) ?_
      refine gf_X8_7 (v := .ref AT_al) hx hb hts hown hK hN hP 0 rfl rfl dX8_slips_35 ?_
      refine lv_iconst (v := 1) hx hb dX8_slips_38 (by decide) ?_
      refine q_iald (j := 1) hx hb hK hP 1 rfl (q_inl (by decide)) (by decide) dX8_slips_39 ?_
      refine lv_icmp_ge (tgt := 137) hx hb dX8_slips_40 (by decide) (fun c_40 => ?_) (fun c_40 => ?_)
      · have hm := it_s c_40 hm
        refine lv_aload_n hx hb dX8_slips_137 rfl (lv_at hl 2 rfl) ?_
        refine lv_lload_n hx hb dX8_slips_138 rfl (lv_at hl 1 rfl) ?_
        refine lv_ldc2 (v := 10) hx hb hown (hts _ wv_X8_198) dX8_slips_139 ?_
        obtain ⟨r_142, hc_142, hm⟩ := ob_s hm
        refine q_cv (q_rv (rest := []) ⟨hx, hb, hml, hown, hts⟩ hK hN hP hD (c_X8_fraction l D cI cZ H.size AT AT_al AT_kp AT_ik AT_rf AT_hd AT_bs AT_se AT_bf AT_te AT_by AT_an AT_vs vT_ab vT_be vT_byl vT_tka vT_tkl vT_tkn vT_val x3 10 r_142 hc_142) mb_X8_fraction mv_X8_fraction wl_X8_200 [0] rfl rfl rfl (Nat.le_of_ble_eq_true rfl) (Nat.le_of_ble_eq_true rfl) rfl hl.1 rfl (Nat.le_of_ble_eq_true rfl) ⟨Nat.le_refl 0, Nat.le_refl 0⟩ dX8_slips_142) hP hD hS hA [0] rfl rfl (fun H locs hP hD hS => ?_)
        have hP : va_P D vwCl (wd_X8_slips cI cZ AT AT_al AT_kp AT_ik AT_rf AT_hd AT_bs AT_se AT_bf AT_te AT_by AT_an AT_vs r_142.1 r_142.2 vT_byl vT_tka vT_tkl vT_tkn vT_val fT_al fT_rf) H := hP
        have hD : va_D A (wd_X8_slips cI cZ AT AT_al AT_kp AT_ik AT_rf AT_hd AT_bs AT_se AT_bf AT_te AT_by AT_an AT_vs r_142.1 r_142.2 vT_byl vT_tka vT_tkl vT_tkn vT_val fT_al fT_rf) := hD
        refine lv_iconst (v := 1) hx hb dX8_slips_145 (by decide) ?_
        have hm := Option.some.inj hm
        subst hm
        exact q_iret (v := 1) hx hb hr hlocks hP hS dX8_slips_146
      · have hm := it_n c_40 hm
        refine lv_aload_n hx hb dX8_slips_43 rfl (lv_at hl 2 rfl) ?_
        refine gf_X8_7 (v := .ref AT_al) hx hb hts hown hK hN hP 0 rfl rfl dX8_slips_44 ?_
        refine lv_iload_n hx hb dX8_slips_47 rfl (lv_at hl 3 rfl) ?_
        refine lv_iload hx hb dX8_slips_48 (lv_at hl 0 rfl) ?_
        obtain ⟨r_50, hc_50, hm⟩ := ob_s hm
        refine q_ci (q_rs (rest := []) ⟨hx, hb, hml, hown, hts⟩ hK hN hP hD (c_X8_believesOf l D cI cZ H.size AT_al 312 fT_al p1 x5 r_50 hc_50) mb_X8_believesOf wt_X8_believesOf wl_X8_103 [1] rfl rfl (Nat.le_of_ble_eq_true rfl) (Nat.le_of_ble_eq_true rfl) rfl hl.1 rfl (Nat.le_of_ble_eq_true rfl) ⟨Nat.le_refl 0, Nat.le_refl 0⟩ dX8_slips_50) hP hD hS hA [1] rfl rfl (fun H locs hP hD hS => ?_)
        have hP : va_P D vwCl (wd_X8_slips cI cZ AT AT_al AT_kp AT_ik AT_rf AT_hd AT_bs AT_se AT_bf AT_te AT_by AT_an AT_vs vT_ab vT_be vT_byl vT_tka vT_tkl vT_tkn vT_val fT_al fT_rf) H := hP
        have hD : va_D A (wd_X8_slips cI cZ AT AT_al AT_kp AT_ik AT_rf AT_hd AT_bs AT_se AT_bf AT_te AT_by AT_an AT_vs vT_ab vT_be vT_byl vT_tka vT_tkl vT_tkn vT_val fT_al fT_rf) := hD
        refine lv_istore (lv' := [(6, .int r_50), (5, .int x5), (3, .long x3), (0, .ref AT), (1, .int p1), (2, .int p2)]) hx hb dX8_slips_53 hl (by decide) rfl (fun ls hl => ?_)
        refine lv_lload_n hx hb dX8_slips_55 rfl (lv_at hl 2 rfl) ?_
        refine lv_aload_n hx hb dX8_slips_56 rfl (lv_at hl 3 rfl) ?_
        refine gf_X8_7 (v := .ref AT_al) hx hb hts hown hK hN hP 0 rfl rfl dX8_slips_57 ?_
        refine lv_bipush (v := 24) hx hb dX8_slips_60 (by decide) ?_
        refine lv_iload hx hb dX8_slips_62 (lv_at hl 1 rfl) ?_
        refine lv_iadd hx hb dX8_slips_64 ?_
        obtain ⟨hi_65, hm⟩ := gd_s hm
        refine q_iald (j := (Int32.toNatClampNeg (24 + x5))) hx hb hK hP 1 rfl hi_65 rfl dX8_slips_65 ?_
        refine lv_aload_n hx hb dX8_slips_66 rfl (lv_at hl 3 rfl) ?_
        refine gf_X8_7 (v := .ref AT_al) hx hb hts hown hK hN hP 0 rfl rfl dX8_slips_67 ?_
        refine lv_bipush (v := 6) hx hb dX8_slips_70 (by decide) ?_
        refine lv_iload_n hx hb dX8_slips_72 rfl (lv_at hl 4 rfl) ?_
        refine lv_iadd hx hb dX8_slips_73 ?_
        obtain ⟨hi_74, hm⟩ := gd_s hm
        refine q_iald (j := (Int32.toNatClampNeg (6 + p1))) hx hb hK hP 1 rfl hi_74 rfl dX8_slips_74 ?_
        refine lv_icmp_ne (tgt := 89) hx hb dX8_slips_75 (by decide) (fun c_75 => ?_) (fun c_75 => ?_)
        · have hm := it_n c_75 hm
          refine lv_lconst (v := 0) hx hb dX8_slips_89 (by decide) ?_
          refine lv_ladd hx hb dX8_slips_90 ?_
          refine lv_lstore_n (lv' := [(3, .long (x3 + 0)), (6, .int r_50), (5, .int x5), (0, .ref AT), (1, .int p1), (2, .int p2)]) hx hb dX8_slips_91 rfl hl (by decide) rfl (fun ls hl => ?_)
          refine lv_lload_n hx hb dX8_slips_92 rfl (lv_at hl 0 rfl) ?_
          refine lv_aload_n hx hb dX8_slips_93 rfl (lv_at hl 3 rfl) ?_
          refine gf_X8_7 (v := .ref AT_al) hx hb hts hown hK hN hP 0 rfl rfl dX8_slips_94 ?_
          refine lv_bipush (v := 24) hx hb dX8_slips_97 (by decide) ?_
          refine lv_iload hx hb dX8_slips_99 (lv_at hl 2 rfl) ?_
          refine lv_iadd hx hb dX8_slips_101 ?_
          refine q_iald (j := (Int32.toNatClampNeg (24 + x5))) hx hb hK hP 1 rfl hi_65 rfl dX8_slips_102 ?_
          refine lv_iconst (v := 1) hx hb dX8_slips_103 (by decide) ?_
          refine lv_iadd hx hb dX8_slips_104 ?_
          refine lv_bipush (v := 6) hx hb dX8_slips_105 (by decide) ?_
          refine lv_irem hx hb dX8_slips_107 (by decide) ?_
          refine lv_aload_n hx hb dX8_slips_108 rfl (lv_at hl 3 rfl) ?_
          refine gf_X8_7 (v := .ref AT_al) hx hb hts hown hK hN hP 0 rfl rfl dX8_slips_109 ?_
          refine lv_bipush (v := 6) hx hb dX8_slips_112 (by decide) ?_
          refine lv_iload_n hx hb dX8_slips_114 rfl (lv_at hl 4 rfl) ?_
          refine lv_iadd hx hb dX8_slips_115 ?_
          refine q_iald (j := (Int32.toNatClampNeg (6 + p1))) hx hb hK hP 1 rfl hi_74 rfl dX8_slips_116 ?_
          refine lv_icmp_ne (tgt := 128) hx hb dX8_slips_117 (by decide) (fun c_117 => ?_) (fun c_117 => ?_)
          · have hm := it_n c_117 hm
            refine lv_lconst (v := 0) hx hb dX8_slips_128 (by decide) ?_
            refine lv_ladd hx hb dX8_slips_129 ?_
            refine lv_lstore_n (lv' := [(3, .long ((x3 + 0) + 0)), (6, .int r_50), (5, .int x5), (0, .ref AT), (1, .int p1), (2, .int p2)]) hx hb dX8_slips_130 rfl hl (by decide) rfl (fun ls hl => ?_)
            refine lv_iinc (v := (x5 + 1)) (lv' := [(5, .int (x5 + 1)), (3, .long ((x3 + 0) + 0)), (6, .int r_50), (0, .ref AT), (1, .int p1), (2, .int p2)]) hx hb dX8_slips_131 hl (k := 2) rfl rfl (by decide) rfl (fun ls hl => ?_)
            refine lv_goto (tgt := 32) hx hb dX8_slips_134 (by decide) ?_
            exact ih_32 (x5 + 1) ((x3 + 0) + 0) vT_ab vT_be fT_rf H locs ls hm hP hD hS (lv_sub hl [0, 1, 3, 4, 5] rfl)
          · have hm := it_s c_117 hm
            refine lv_iload_n hx hb dX8_slips_120 rfl (lv_at hl 5 rfl) ?_
            refine lv_iload hx hb dX8_slips_121 (lv_at hl 1 rfl) ?_
            refine lv_imul hx hb dX8_slips_123 ?_
            refine lv_i2l (v := (Int32.toInt64 (p2 * r_50))) hx hb dX8_slips_124 rfl ?_
            refine lv_goto (tgt := 129) hx hb dX8_slips_125 (by decide) ?_
            refine lv_ladd hx hb dX8_slips_129 ?_
            refine lv_lstore_n (lv' := [(3, .long ((x3 + 0) + (Int32.toInt64 (p2 * r_50)))), (6, .int r_50), (5, .int x5), (0, .ref AT), (1, .int p1), (2, .int p2)]) hx hb dX8_slips_130 rfl hl (by decide) rfl (fun ls hl => ?_)
            refine lv_iinc (v := (x5 + 1)) (lv' := [(5, .int (x5 + 1)), (3, .long ((x3 + 0) + (Int32.toInt64 (p2 * r_50)))), (6, .int r_50), (0, .ref AT), (1, .int p1), (2, .int p2)]) hx hb dX8_slips_131 hl (k := 2) rfl rfl (by decide) rfl (fun ls hl => ?_)
            refine lv_goto (tgt := 32) hx hb dX8_slips_134 (by decide) ?_
            exact ih_32 (x5 + 1) ((x3 + 0) + (Int32.toInt64 (p2 * r_50))) vT_ab vT_be fT_rf H locs ls hm hP hD hS (lv_sub hl [0, 1, 3, 4, 5] rfl)
        · have hm := it_s c_75 hm
          refine lv_bipush (v := 10) hx hb dX8_slips_78 (by decide) ?_
          refine lv_iload_n hx hb dX8_slips_80 rfl (lv_at hl 5 rfl) ?_
          refine lv_isub hx hb dX8_slips_81 ?_
          refine lv_iload hx hb dX8_slips_82 (lv_at hl 0 rfl) ?_
          refine lv_imul hx hb dX8_slips_84 ?_
          refine lv_i2l (v := (Int32.toInt64 ((10 - p2) * r_50))) hx hb dX8_slips_85 rfl ?_
          refine lv_goto (tgt := 90) hx hb dX8_slips_86 (by decide) ?_
          refine lv_ladd hx hb dX8_slips_90 ?_
          refine lv_lstore_n (lv' := [(3, .long (x3 + (Int32.toInt64 ((10 - p2) * r_50)))), (6, .int r_50), (5, .int x5), (0, .ref AT), (1, .int p1), (2, .int p2)]) hx hb dX8_slips_91 rfl hl (by decide) rfl (fun ls hl => ?_)
          refine lv_lload_n hx hb dX8_slips_92 rfl (lv_at hl 0 rfl) ?_
          refine lv_aload_n hx hb dX8_slips_93 rfl (lv_at hl 3 rfl) ?_
          refine gf_X8_7 (v := .ref AT_al) hx hb hts hown hK hN hP 0 rfl rfl dX8_slips_94 ?_
          refine lv_bipush (v := 24) hx hb dX8_slips_97 (by decide) ?_
          refine lv_iload hx hb dX8_slips_99 (lv_at hl 2 rfl) ?_
          refine lv_iadd hx hb dX8_slips_101 ?_
          refine q_iald (j := (Int32.toNatClampNeg (24 + x5))) hx hb hK hP 1 rfl hi_65 rfl dX8_slips_102 ?_
          refine lv_iconst (v := 1) hx hb dX8_slips_103 (by decide) ?_
          refine lv_iadd hx hb dX8_slips_104 ?_
          refine lv_bipush (v := 6) hx hb dX8_slips_105 (by decide) ?_
          refine lv_irem hx hb dX8_slips_107 (by decide) ?_
          refine lv_aload_n hx hb dX8_slips_108 rfl (lv_at hl 3 rfl) ?_
          refine gf_X8_7 (v := .ref AT_al) hx hb hts hown hK hN hP 0 rfl rfl dX8_slips_109 ?_
          refine lv_bipush (v := 6) hx hb dX8_slips_112 (by decide) ?_
          refine lv_iload_n hx hb dX8_slips_114 rfl (lv_at hl 4 rfl) ?_
          refine lv_iadd hx hb dX8_slips_115 ?_
          refine q_iald (j := (Int32.toNatClampNeg (6 + p1))) hx hb hK hP 1 rfl hi_74 rfl dX8_slips_116 ?_
          refine lv_icmp_ne (tgt := 128) hx hb dX8_slips_117 (by decide) (fun c_117 => ?_) (fun c_117 => ?_)
          · have hm := it_n c_117 hm
            refine lv_lconst (v := 0) hx hb dX8_slips_128 (by decide) ?_
            refine lv_ladd hx hb dX8_slips_129 ?_
            refine lv_lstore_n (lv' := [(3, .long ((x3 + (Int32.toInt64 ((10 - p2) * r_50))) + 0)), (6, .int r_50), (5, .int x5), (0, .ref AT), (1, .int p1), (2, .int p2)]) hx hb dX8_slips_130 rfl hl (by decide) rfl (fun ls hl => ?_)
            refine lv_iinc (v := (x5 + 1)) (lv' := [(5, .int (x5 + 1)), (3, .long ((x3 + (Int32.toInt64 ((10 - p2) * r_50))) + 0)), (6, .int r_50), (0, .ref AT), (1, .int p1), (2, .int p2)]) hx hb dX8_slips_131 hl (k := 2) rfl rfl (by decide) rfl (fun ls hl => ?_)
            refine lv_goto (tgt := 32) hx hb dX8_slips_134 (by decide) ?_
            exact ih_32 (x5 + 1) ((x3 + (Int32.toInt64 ((10 - p2) * r_50))) + 0) vT_ab vT_be fT_rf H locs ls hm hP hD hS (lv_sub hl [0, 1, 3, 4, 5] rfl)
          · have hm := it_s c_117 hm
            refine lv_iload_n hx hb dX8_slips_120 rfl (lv_at hl 5 rfl) ?_
            refine lv_iload hx hb dX8_slips_121 (lv_at hl 1 rfl) ?_
            refine lv_imul hx hb dX8_slips_123 ?_
            refine lv_i2l (v := (Int32.toInt64 (p2 * r_50))) hx hb dX8_slips_124 rfl ?_
            refine lv_goto (tgt := 129) hx hb dX8_slips_125 (by decide) ?_
            refine lv_ladd hx hb dX8_slips_129 ?_
            refine lv_lstore_n (lv' := [(3, .long ((x3 + (Int32.toInt64 ((10 - p2) * r_50))) + (Int32.toInt64 (p2 * r_50)))), (6, .int r_50), (5, .int x5), (0, .ref AT), (1, .int p1), (2, .int p2)]) hx hb dX8_slips_130 rfl hl (by decide) rfl (fun ls hl => ?_)
            refine lv_iinc (v := (x5 + 1)) (lv' := [(5, .int (x5 + 1)), (3, .long ((x3 + (Int32.toInt64 ((10 - p2) * r_50))) + (Int32.toInt64 (p2 * r_50)))), (6, .int r_50), (0, .ref AT), (1, .int p1), (2, .int p2)]) hx hb dX8_slips_131 hl (k := 2) rfl rfl (by decide) rfl (fun ls hl => ?_)
            refine lv_goto (tgt := 32) hx hb dX8_slips_134 (by decide) ?_
            exact ih_32 (x5 + 1) ((x3 + (Int32.toInt64 ((10 - p2) * r_50))) + (Int32.toInt64 (p2 * r_50))) vT_ab vT_be fT_rf H locs ls hm hP hD hS (lv_sub hl [0, 1, 3, 4, 5] rfl)
  unfold fm_X8_slips at hm
  refine q_gen hS hP ?_
  intro H locs hP hS
  refine lv_aload_n hx hb dX8_slips_0 rfl (lv_at hl 0 rfl) ?_
  refine lv_iload_n hx hb dX8_slips_1 rfl (lv_at hl 1 rfl) ?_
  obtain ⟨r_2, hc_2, hm⟩ := ob_s hm
  refine q_ci (q_rv (rest := []) ⟨hx, hb, hml, hown, hts⟩ hK hN hP hD (c_X8_isSleeper l D cI cZ H.size AT AT_al AT_kp AT_ik AT_rf AT_hd AT_bs AT_se AT_bf AT_te AT_by AT_an AT_vs vT_ab vT_be vT_byl vT_tka vT_tkl vT_tkn vT_val fT_al p1 r_2 hc_2) mb_X8_isSleeper mv_X8_isSleeper wl_X8_132 [0, 1] rfl rfl rfl (Nat.le_of_ble_eq_true rfl) (Nat.le_of_ble_eq_true rfl) rfl hl.1 rfl (Nat.le_of_ble_eq_true rfl) ⟨Nat.le_refl 0, Nat.le_refl 0⟩ dX8_slips_2) hP hD hS hA [0, 1] rfl rfl (fun H locs hP hD hS => ?_)
  have hP : va_P D vwCl (wd_X8_slips cI cZ AT AT_al AT_kp AT_ik AT_rf AT_hd AT_bs AT_se AT_bf AT_te AT_by AT_an AT_vs vT_ab vT_be vT_byl vT_tka vT_tkl vT_tkn vT_val fT_al fT_rf) H := hP
  have hD : va_D A (wd_X8_slips cI cZ AT AT_al AT_kp AT_ik AT_rf AT_hd AT_bs AT_se AT_bf AT_te AT_by AT_an AT_vs vT_ab vT_be vT_byl vT_tka vT_tkl vT_tkn vT_val fT_al fT_rf) := hD
  refine lv_if_eq (tgt := 20) hx hb dX8_slips_5 (by decide) (fun c_5 => ?_) (fun c_5 => ?_)
  · have hm := it_s c_5 hm
    refine lv_aload_n hx hb dX8_slips_20 rfl (lv_at hl 0 rfl) ?_
    refine lv_bipush (v := (-2)) hx hb dX8_slips_21 (by decide) ?_
    obtain ⟨r_23, hc_23, hm⟩ := ob_s hm
    refine q_ci (q_rv (rest := []) ⟨hx, hb, hml, hown, hts⟩ hK hN hP hD (c_X8_bad l D cI cZ H.size AT AT_al AT_kp AT_ik AT_rf AT_hd AT_bs AT_se AT_bf AT_te AT_by AT_an AT_vs vT_ab vT_be vT_byl vT_tka vT_tkl vT_tkn vT_val fT_rf (-2) r_23 hc_23) mb_X8_bad mv_X8_bad wl_X8_75 [0, 2] rfl rfl rfl (Nat.le_of_ble_eq_true rfl) (Nat.le_of_ble_eq_true rfl) rfl hl.1 rfl (Nat.le_of_ble_eq_true rfl) ⟨Nat.le_refl 0, Nat.le_refl 0⟩ dX8_slips_23) hP hD hS hA [0, 2] rfl rfl (fun H locs hP hD hS => ?_)
    have hP : va_P D vwCl (wd_X8_slips cI cZ AT AT_al AT_kp AT_ik AT_rf AT_hd AT_bs AT_se AT_bf AT_te AT_by AT_an AT_vs vT_ab vT_be vT_byl vT_tka vT_tkl vT_tkn vT_val fT_al r_23.2) H := hP
    have hD : va_D A (wd_X8_slips cI cZ AT AT_al AT_kp AT_ik AT_rf AT_hd AT_bs AT_se AT_bf AT_te AT_by AT_an AT_vs vT_ab vT_be vT_byl vT_tka vT_tkl vT_tkn vT_val fT_al r_23.2) := hD
    have hm := Option.some.inj hm
    subst hm
    exact q_iret (v := r_23.1) hx hb hr hlocks hP hS dX8_slips_26
  · have hm := it_n c_5 hm
    refine lv_iload_n hx hb dX8_slips_8 rfl (lv_at hl 2 rfl) ?_
    refine lv_i2l (v := (Int32.toInt64 p2)) hx hb dX8_slips_9 rfl ?_
    refine lv_lconst (v := 0) hx hb dX8_slips_10 (by decide) ?_
    refine lv_ldc2 (v := 10) hx hb hown (hts _ wv_X8_198) dX8_slips_11 ?_
    obtain ⟨r_14, hc_14, hm⟩ := ob_s hm
    refine q_ci (q_rs (rest := []) ⟨hx, hb, hml, hown, hts⟩ hK hN hP hD (c_X8_in l D cI cZ H.size (Int32.toInt64 p2) 0 10 r_14 hc_14) mb_X8_in wt_X8_in wl_X8_59 [] rfl rfl (Nat.le_of_ble_eq_true rfl) (Nat.le_of_ble_eq_true rfl) rfl hl.1 rfl (Nat.le_of_ble_eq_true rfl) ⟨Nat.le_refl 0, Nat.le_refl 0⟩ dX8_slips_14) hP hD hS hA [] rfl rfl (fun H locs hP hD hS => ?_)
    have hP : va_P D vwCl (wd_X8_slips cI cZ AT AT_al AT_kp AT_ik AT_rf AT_hd AT_bs AT_se AT_bf AT_te AT_by AT_an AT_vs vT_ab vT_be vT_byl vT_tka vT_tkl vT_tkn vT_val fT_al fT_rf) H := hP
    have hD : va_D A (wd_X8_slips cI cZ AT AT_al AT_kp AT_ik AT_rf AT_hd AT_bs AT_se AT_bf AT_te AT_by AT_an AT_vs vT_ab vT_be vT_byl vT_tka vT_tkl vT_tkn vT_val fT_al fT_rf) := hD
    refine lv_if_ne (tgt := 27) hx hb dX8_slips_17 (by decide) (fun c_17 => ?_) (fun c_17 => ?_)
    · have hm := it_n c_17 hm
      refine lv_lconst (v := 0) hx hb dX8_slips_27 (by decide) ?_
      refine lv_lstore_n (lv' := [(3, .long 0), (0, .ref AT), (1, .int p1), (2, .int p2)]) hx hb dX8_slips_28 rfl hl (by decide) rfl (fun ls hl => ?_)
      refine lv_iconst (v := 0) hx hb dX8_slips_29 (by decide) ?_
      refine lv_istore (lv' := [(5, .int 0), (3, .long 0), (0, .ref AT), (1, .int p1), (2, .int p2)]) hx hb dX8_slips_30 hl (by decide) rfl (fun ls hl => ?_)
      exact hL_32 FU 0 0 vT_ab vT_be fT_rf H locs ls hm hP hD hS (lv_sub hl [0, 1, 2, 3, 4] rfl)
    · have hm := it_s c_17 hm
      refine lv_aload_n hx hb dX8_slips_20 rfl (lv_at hl 0 rfl) ?_
      refine lv_bipush (v := (-2)) hx hb dX8_slips_21 (by decide) ?_
      obtain ⟨r_23, hc_23, hm⟩ := ob_s hm
      refine q_ci (q_rv (rest := []) ⟨hx, hb, hml, hown, hts⟩ hK hN hP hD (c_X8_bad l D cI cZ H.size AT AT_al AT_kp AT_ik AT_rf AT_hd AT_bs AT_se AT_bf AT_te AT_by AT_an AT_vs vT_ab vT_be vT_byl vT_tka vT_tkl vT_tkn vT_val fT_rf (-2) r_23 hc_23) mb_X8_bad mv_X8_bad wl_X8_75 [0, 2] rfl rfl rfl (Nat.le_of_ble_eq_true rfl) (Nat.le_of_ble_eq_true rfl) rfl hl.1 rfl (Nat.le_of_ble_eq_true rfl) ⟨Nat.le_refl 0, Nat.le_refl 0⟩ dX8_slips_23) hP hD hS hA [0, 2] rfl rfl (fun H locs hP hD hS => ?_)
      have hP : va_P D vwCl (wd_X8_slips cI cZ AT AT_al AT_kp AT_ik AT_rf AT_hd AT_bs AT_se AT_bf AT_te AT_by AT_an AT_vs vT_ab vT_be vT_byl vT_tka vT_tkl vT_tkn vT_val fT_al r_23.2) H := hP
      have hD : va_D A (wd_X8_slips cI cZ AT AT_al AT_kp AT_ik AT_rf AT_hd AT_bs AT_se AT_bf AT_te AT_by AT_an AT_vs vT_ab vT_be vT_byl vT_tka vT_tkl vT_tkn vT_val fT_al r_23.2) := hD
      have hm := Option.some.inj hm
      subst hm
      exact q_iret (v := r_23.1) hx hb hr hlocks hP hS dX8_slips_26
theorem mb_X8_decades : q_mb yX8_decades cX8_decades 7 (some .int) 2 := ⟨wc_X8_decades, wn_X8, by decide, by decide, by decide +kernel⟩
theorem mv_X8_decades : q_mv yX8_decades 8 := ⟨wi_X8_decades, ws_X8_decades, _, rfl, rfl⟩
def wd_X8_decades (cI cZ : ClassId) (AT AT_al AT_kp AT_ik AT_rf AT_hd AT_bs AT_se AT_bf AT_te AT_by AT_an AT_vs : Nat) (vT_ab : Int64) (vT_be : Int64) (vT_byl : Int32) (vT_tka : Int32) (vT_tkl : Int32) (vT_tkn : Int32) (vT_val : Int32) (fT_rf : Nat → Int32) (fT_al : Nat → Int32) (fT_hd : Nat → Int32) : va_W := [(AT, .inr (8, [.ref AT_al, .ref AT_kp, .ref AT_ik, .ref AT_rf, .long vT_ab, .long vT_be, .ref AT_hd, .ref AT_bs, .ref AT_se, .ref AT_bf, .ref AT_te, .ref AT_by, .int vT_byl, .int vT_tka, .int vT_tkl, .int vT_tkn, .int vT_val, .ref AT_an, .ref AT_vs])), (AT_rf, .inl (cI, 3, .inl fT_rf)), (AT_al, .inl (cI, 312, .inl fT_al)), (AT_hd, .inl (cI, 49, .inl fT_hd))]
def fL_X8_decades_41 (p1 : Int32) (p2 : Int32) (fT_al : Nat → Int32) : Nat → Int32 → Int64 → (Nat → Int32) → (Nat → Int32) → Option (Int32 × (Nat → Int32) × (Nat → Int32))
  | 0, _, _, _, _ => none
  | fu + 1, x5, x3, fT_rf, fT_hd => if p2 ≤ x5 then (Option.bind (fm_X8_manyWhoDo 49 fT_hd) (fun r_119 => some (r_119, fT_rf, fT_hd))) else (Option.bind (fm_X8_isFlower (Int64.toInt32 (((((x3 * 1103515245) + 12345) - ((x3 * 1103515245) + 12345) / 2147483648 * 2147483648) / 65536) - ((((x3 * 1103515245) + 12345) - ((x3 * 1103515245) + 12345) / 2147483648 * 2147483648) / 65536) / 6 * 6)) fT_al) (fun r_76 => if r_76 = 0 then (Option.bind (fm_X8_goNight 49 fT_hd) (fun r_106 => fL_X8_decades_41 p1 p2 fT_al fu (x5 + 1) (((x3 * 1103515245) + 12345) - ((x3 * 1103515245) + 12345) / 2147483648 * 2147483648) fT_rf r_106)) else (gd (24 + (Int64.toInt32 (((((x3 * 1103515245) + 12345) - ((x3 * 1103515245) + 12345) / 2147483648 * 2147483648) / 65536) - ((((x3 * 1103515245) + 12345) - ((x3 * 1103515245) + 12345) / 2147483648 * 2147483648) / 65536) / 6 * 6))) 49 (Option.bind (fm_X8_goNight 49 (upd fT_hd (Int32.toNatClampNeg (24 + (Int64.toInt32 (((((x3 * 1103515245) + 12345) - ((x3 * 1103515245) + 12345) / 2147483648 * 2147483648) / 65536) - ((((x3 * 1103515245) + 12345) - ((x3 * 1103515245) + 12345) / 2147483648 * 2147483648) / 65536) / 6 * 6)))) (Int64.toInt32 (((((x3 * 1103515245) + 12345) - ((x3 * 1103515245) + 12345) / 2147483648 * 2147483648) / 1048576) - ((((x3 * 1103515245) + 12345) - ((x3 * 1103515245) + 12345) / 2147483648 * 2147483648) / 1048576) / 6 * 6)))) (fun r_106 => fL_X8_decades_41 p1 p2 fT_al fu (x5 + 1) (((x3 * 1103515245) + 12345) - ((x3 * 1103515245) + 12345) / 2147483648 * 2147483648) fT_rf r_106)))))
def fm_X8_decades (p1 : Int32) (p2 : Int32) (fT_rf : Nat → Int32) (fT_al : Nat → Int32) (fT_hd : Nat → Int32) : Option (Int32 × (Nat → Int32) × (Nat → Int32)) := Option.bind (fm_X8_in (Int32.toInt64 p1) 0 999999) (fun r_6 => if r_6 = 0 then (Option.bind (fm_X8_bad (-2) fT_rf) (fun r_27 => some (r_27.1, r_27.2, fT_hd))) else (Option.bind (fm_X8_in (Int32.toInt64 p2) 0 60) (fun r_18 => if r_18 = 0 then (Option.bind (fm_X8_bad (-2) fT_rf) (fun r_27 => some (r_27.1, r_27.2, fT_hd))) else (Option.bind (fm_X8_layHand fT_al fT_hd) (fun r_35 => fL_X8_decades_41 p1 p2 fT_al FU 0 (Int32.toInt64 p1) fT_rf r_35)))))
set_option maxHeartbeats 4000000 in
set_option maxRecDepth 100000 in
theorem c_X8_decades (l : Launch) (D : va_G) (cI cZ : ClassId) (sz : Nat) (AT AT_al AT_kp AT_ik AT_rf AT_hd AT_bs AT_se AT_bf AT_te AT_by AT_an AT_vs : Nat) (vT_ab : Int64) (vT_be : Int64) (vT_byl : Int32) (vT_tka : Int32) (vT_tkl : Int32) (vT_tkn : Int32) (vT_val : Int32) (fT_rf : Nat → Int32) (fT_al : Nat → Int32) (fT_hd : Nat → Int32) (p1 : Int32) (p2 : Int32) (out : (Int32 × (Nat → Int32) × (Nat → Int32))) (hm : fm_X8_decades p1 p2 fT_rf fT_al fT_hd = some out) : Met l yX8_decades (Cond.code yX8_decades cX8_decades 7 (some .int) :: bg) { frames := 4, cells := 0, slots := 0, locals := 92 } (va_Pc [.ref AT, .int p1, .int p2] (q_pre D cI cZ sz (wd_X8_decades cI cZ AT AT_al AT_kp AT_ik AT_rf AT_hd AT_bs AT_se AT_bf AT_te AT_by AT_an AT_vs vT_ab vT_be vT_byl vT_tka vT_tkl vT_tkn vT_val fT_rf fT_al fT_hd))) (q_Qi D (wd_X8_decades cI cZ AT AT_al AT_kp AT_ik AT_rf AT_hd AT_bs AT_se AT_bf AT_te AT_by AT_an AT_vs vT_ab vT_be vT_byl vT_tka vT_tkl vT_tkn vT_val out.2.1 fT_al out.2.2) out.1 (va_A (wd_X8_decades cI cZ AT AT_al AT_kp AT_ik AT_rf AT_hd AT_bs AT_se AT_bf AT_te AT_by AT_an AT_vs vT_ab vT_be vT_byl vT_tka vT_tkl vT_tkn vT_val fT_rf fT_al fT_hd) sz)) 0 0 (va_A (wd_X8_decades cI cZ AT AT_al AT_kp AT_ik AT_rf AT_hd AT_bs AT_se AT_bf AT_te AT_by AT_an AT_vs vT_ab vT_be vT_byl vT_tka vT_tkl vT_tkn vT_val fT_rf fT_al fT_hd) sz) := by
  refine q_met (fun A => q_Qi D (wd_X8_decades cI cZ AT AT_al AT_kp AT_ik AT_rf AT_hd AT_bs AT_se AT_bf AT_te AT_by AT_an AT_vs vT_ab vT_be vT_byl vT_tka vT_tkl vT_tkn vT_val out.2.1 fT_al out.2.2) out.1 A) (by decide) (Nat.le_of_ble_eq_true rfl) ?_
  intro p e s m below meth c ls A hx hb hr hml hown hts hlocks _ hA hS hP hD hK hN hl
  have hown : s.vm.findClass RX8 = some m.cls := hown
  have hl : lv_has ls 7 [(0, .ref AT), (1, .int p1), (2, .int p2)] := hl
  have hL_41 : ∀ (fu_41 : Nat) (x5 : Int32) (x3 : Int64) (fT_rf : Nat → Int32) (fT_hd : Nat → Int32) (H : Heap) (locs : List Loc) (ls : Array Slot), fL_X8_decades_41 p1 p2 fT_al fu_41 x5 x3 fT_rf fT_hd = some out → va_P D vwCl (wd_X8_decades cI cZ AT AT_al AT_kp AT_ik AT_rf AT_hd AT_bs AT_se AT_bf AT_te AT_by AT_an AT_vs vT_ab vT_be vT_byl vT_tka vT_tkl vT_tkn vT_val fT_rf fT_al fT_hd) H → va_D A (wd_X8_decades cI cZ AT AT_al AT_kp AT_ik AT_rf AT_hd AT_bs AT_se AT_bf AT_te AT_by AT_an AT_vs vT_ab vT_be vT_byl vT_tka vT_tkl vT_tkn vT_val fT_rf fT_al fT_hd) → va_S A s.heap H locs → lv_has ls 7 [(5, .int x5), (3, .long x3), (0, .ref AT), (2, .int p2)] → W p l e { frames := 4, cells := 0, slots := 0, locals := 92 } s m ([.ref AT, .int p1, .int p2] : List Value).toArray below meth c H locs 0 0 (MQ below (q_Qi D (wd_X8_decades cI cZ AT AT_al AT_kp AT_ik AT_rf AT_hd AT_bs AT_se AT_bf AT_te AT_by AT_an AT_vs vT_ab vT_be vT_byl vT_tka vT_tkl vT_tkn vT_val out.2.1 fT_al out.2.2) out.1 A) ([.ref AT, .int p1, .int p2] : List Value).toArray s 0 0 A) (F0 m 41 ls []) := by
    intro fu_41
    induction fu_41 with
    | zero => intro x5 x3 fT_rf fT_hd H locs ls hm hP hD hS hl; exact absurd (show (none : Option (Int32 × (Nat → Int32) × (Nat → Int32))) = some out from hm) (fun h => nomatch h)
    | succ fu_41 ih_41 =>
      intro x5 x3 fT_rf fT_hd H locs ls hm hP hD hS hl
      rw [fL_X8_decades_41] at hm
      refine lv_iload hx hb dX8_decades_41 (lv_at hl 0 rfl) ?_
      refine lv_iload_n hx hb dX8_decades_43 rfl (lv_at hl 3 rfl) ?_
      refine lv_icmp_ge (tgt := 115) hx hb dX8_decades_44 (by decide) (fun c_44 => ?_) (fun c_44 => ?_)
      · have hm := it_s c_44 hm
        refine lv_aload_n hx hb dX8_decades_115 rfl (lv_at hl 2 rfl) ?_
        refine gf_X8_27 (v := .ref AT_hd) hx hb hts hown hK hN hP 0 rfl rfl dX8_decades_116 ?_
        obtain ⟨r_119, hc_119, hm⟩ := ob_s hm
        refine q_ci (q_rs (rest := []) ⟨hx, hb, hml, hown, hts⟩ hK hN hP hD (c_X8_manyWhoDo l D cI cZ H.size AT_hd 49 fT_hd r_119 hc_119) mb_X8_manyWhoDo wt_X8_manyWhoDo wl_X8_122 [3] rfl rfl (Nat.le_of_ble_eq_true rfl) (Nat.le_of_ble_eq_true rfl) rfl hl.1 rfl (Nat.le_of_ble_eq_true rfl) ⟨Nat.le_refl 0, Nat.le_refl 0⟩ dX8_decades_119) hP hD hS hA [3] rfl rfl (fun H locs hP hD hS => ?_)
        have hP : va_P D vwCl (wd_X8_decades cI cZ AT AT_al AT_kp AT_ik AT_rf AT_hd AT_bs AT_se AT_bf AT_te AT_by AT_an AT_vs vT_ab vT_be vT_byl vT_tka vT_tkl vT_tkn vT_val fT_rf fT_al fT_hd) H := hP
        have hD : va_D A (wd_X8_decades cI cZ AT AT_al AT_kp AT_ik AT_rf AT_hd AT_bs AT_se AT_bf AT_te AT_by AT_an AT_vs vT_ab vT_be vT_byl vT_tka vT_tkl vT_tkn vT_val fT_rf fT_al fT_hd) := hD
        have hm := Option.some.inj hm
        subst hm
        exact q_iret (v := r_119) hx hb hr hlocks hP hS dX8_decades_122
      · have hm := it_n c_44 hm
        refine lv_lload_n hx hb dX8_decades_47 rfl (lv_at hl 1 rfl) ?_
        refine lv_ldc2 (v := 1103515245) hx hb hown (hts _ wv_X8_206) dX8_decades_48 ?_
        refine lv_lmul hx hb dX8_decades_51 ?_
        refine lv_ldc2 (v := 12345) hx hb hown (hts _ wv_X8_208) dX8_decades_52 ?_
        refine lv_ladd hx hb dX8_decades_55 ?_
        refine lv_ldc2 (v := 2147483648) hx hb hown (hts _ wv_X8_210) dX8_decades_56 ?_
        refine lv_lrem hx hb dX8_decades_59 (by decide) ?_
        refine lv_lstore_n (lv' := [(3, .long (((x3 * 1103515245) + 12345) - ((x3 * 1103515245) + 12345) / 2147483648 * 2147483648)), (5, .int x5), (0, .ref AT), (2, .int p2)]) hx hb dX8_decades_60 rfl hl (by decide) rfl (fun ls hl => ?_)
        refine lv_lload_n hx hb dX8_decades_61 rfl (lv_at hl 0 rfl) ?_
        refine lv_ldc2 (v := 65536) hx hb hown (hts _ wv_X8_212) dX8_decades_62 ?_
        refine lv_ldiv hx hb dX8_decades_65 (by decide) ?_
        refine lv_ldc2 (v := 6) hx hb hown (hts _ wv_X8_214) dX8_decades_66 ?_
        refine lv_lrem hx hb dX8_decades_69 (by decide) ?_
        refine lv_l2i (v := (Int64.toInt32 (((((x3 * 1103515245) + 12345) - ((x3 * 1103515245) + 12345) / 2147483648 * 2147483648) / 65536) - ((((x3 * 1103515245) + 12345) - ((x3 * 1103515245) + 12345) / 2147483648 * 2147483648) / 65536) / 6 * 6))) hx hb dX8_decades_70 rfl ?_
        refine lv_istore (lv' := [(6, .int (Int64.toInt32 (((((x3 * 1103515245) + 12345) - ((x3 * 1103515245) + 12345) / 2147483648 * 2147483648) / 65536) - ((((x3 * 1103515245) + 12345) - ((x3 * 1103515245) + 12345) / 2147483648 * 2147483648) / 65536) / 6 * 6))), (3, .long (((x3 * 1103515245) + 12345) - ((x3 * 1103515245) + 12345) / 2147483648 * 2147483648)), (5, .int x5), (0, .ref AT), (2, .int p2)]) hx hb dX8_decades_71 hl (by decide) rfl (fun ls hl => ?_)
        refine lv_aload_n hx hb dX8_decades_73 rfl (lv_at hl 3 rfl) ?_
        refine lv_iload hx hb dX8_decades_74 (lv_at hl 0 rfl) ?_
        obtain ⟨r_76, hc_76, hm⟩ := ob_s hm
        refine q_ci (q_rv (rest := []) ⟨hx, hb, hml, hown, hts⟩ hK hN hP hD (c_X8_isFlower l D cI cZ H.size AT AT_al AT_kp AT_ik AT_rf AT_hd AT_bs AT_se AT_bf AT_te AT_by AT_an AT_vs vT_ab vT_be vT_byl vT_tka vT_tkl vT_tkn vT_val fT_al (Int64.toInt32 (((((x3 * 1103515245) + 12345) - ((x3 * 1103515245) + 12345) / 2147483648 * 2147483648) / 65536) - ((((x3 * 1103515245) + 12345) - ((x3 * 1103515245) + 12345) / 2147483648 * 2147483648) / 65536) / 6 * 6)) r_76 hc_76) mb_X8_isFlower mv_X8_isFlower wl_X8_138 [0, 2] rfl rfl rfl (Nat.le_of_ble_eq_true rfl) (Nat.le_of_ble_eq_true rfl) rfl hl.1 rfl (Nat.le_of_ble_eq_true rfl) ⟨Nat.le_refl 0, Nat.le_refl 0⟩ dX8_decades_76) hP hD hS hA [0, 2] rfl rfl (fun H locs hP hD hS => ?_)
        have hP : va_P D vwCl (wd_X8_decades cI cZ AT AT_al AT_kp AT_ik AT_rf AT_hd AT_bs AT_se AT_bf AT_te AT_by AT_an AT_vs vT_ab vT_be vT_byl vT_tka vT_tkl vT_tkn vT_val fT_rf fT_al fT_hd) H := hP
        have hD : va_D A (wd_X8_decades cI cZ AT AT_al AT_kp AT_ik AT_rf AT_hd AT_bs AT_se AT_bf AT_te AT_by AT_an AT_vs vT_ab vT_be vT_byl vT_tka vT_tkl vT_tkn vT_val fT_rf fT_al fT_hd) := hD
        refine lv_if_eq (tgt := 102) hx hb dX8_decades_79 (by decide) (fun c_79 => ?_) (fun c_79 => ?_)
        · have hm := it_s c_79 hm
          refine lv_aload_n hx hb dX8_decades_102 rfl (lv_at hl 3 rfl) ?_
          refine gf_X8_27 (v := .ref AT_hd) hx hb hts hown hK hN hP 0 rfl rfl dX8_decades_103 ?_
          obtain ⟨r_106, hc_106, hm⟩ := ob_s hm
          refine q_cv (q_rs (rest := []) ⟨hx, hb, hml, hown, hts⟩ hK hN hP hD (c_X8_goNight l D cI cZ H.size AT_hd 49 fT_hd r_106 hc_106) mb_X8_goNight wt_X8_goNight wl_X8_110 [3] rfl rfl (Nat.le_of_ble_eq_true rfl) (Nat.le_of_ble_eq_true rfl) rfl hl.1 rfl (Nat.le_of_ble_eq_true rfl) ⟨Nat.le_refl 0, Nat.le_refl 0⟩ dX8_decades_106) hP hD hS hA [3] rfl rfl (fun H locs hP hD hS => ?_)
          have hP : va_P D vwCl (wd_X8_decades cI cZ AT AT_al AT_kp AT_ik AT_rf AT_hd AT_bs AT_se AT_bf AT_te AT_by AT_an AT_vs vT_ab vT_be vT_byl vT_tka vT_tkl vT_tkn vT_val fT_rf fT_al r_106) H := hP
          have hD : va_D A (wd_X8_decades cI cZ AT AT_al AT_kp AT_ik AT_rf AT_hd AT_bs AT_se AT_bf AT_te AT_by AT_an AT_vs vT_ab vT_be vT_byl vT_tka vT_tkl vT_tkn vT_val fT_rf fT_al r_106) := hD
          refine lv_iinc (v := (x5 + 1)) (lv' := [(5, .int (x5 + 1)), (6, .int (Int64.toInt32 (((((x3 * 1103515245) + 12345) - ((x3 * 1103515245) + 12345) / 2147483648 * 2147483648) / 65536) - ((((x3 * 1103515245) + 12345) - ((x3 * 1103515245) + 12345) / 2147483648 * 2147483648) / 65536) / 6 * 6))), (3, .long (((x3 * 1103515245) + 12345) - ((x3 * 1103515245) + 12345) / 2147483648 * 2147483648)), (0, .ref AT), (2, .int p2)]) hx hb dX8_decades_109 hl (k := 2) rfl rfl (by decide) rfl (fun ls hl => ?_)
          refine lv_goto (tgt := 41) hx hb dX8_decades_112 (by decide) ?_
          exact ih_41 (x5 + 1) (((x3 * 1103515245) + 12345) - ((x3 * 1103515245) + 12345) / 2147483648 * 2147483648) fT_rf r_106 H locs ls hm hP hD hS (lv_sub hl [0, 2, 3, 4] rfl)
        · have hm := it_n c_79 hm
          refine lv_aload_n hx hb dX8_decades_82 rfl (lv_at hl 3 rfl) ?_
          refine gf_X8_27 (v := .ref AT_hd) hx hb hts hown hK hN hP 0 rfl rfl dX8_decades_83 ?_
          refine lv_bipush (v := 24) hx hb dX8_decades_86 (by decide) ?_
          refine lv_iload hx hb dX8_decades_88 (lv_at hl 0 rfl) ?_
          refine lv_iadd hx hb dX8_decades_90 ?_
          refine lv_lload_n hx hb dX8_decades_91 rfl (lv_at hl 1 rfl) ?_
          refine lv_ldc2 (v := 1048576) hx hb hown (hts _ wv_X8_216) dX8_decades_92 ?_
          refine lv_ldiv hx hb dX8_decades_95 (by decide) ?_
          refine lv_ldc2 (v := 6) hx hb hown (hts _ wv_X8_214) dX8_decades_96 ?_
          refine lv_lrem hx hb dX8_decades_99 (by decide) ?_
          refine lv_l2i (v := (Int64.toInt32 (((((x3 * 1103515245) + 12345) - ((x3 * 1103515245) + 12345) / 2147483648 * 2147483648) / 1048576) - ((((x3 * 1103515245) + 12345) - ((x3 * 1103515245) + 12345) / 2147483648 * 2147483648) / 1048576) / 6 * 6))) hx hb dX8_decades_100 rfl ?_
          obtain ⟨hi_101, hm⟩ := gd_s hm
          refine q_iast (j := (Int32.toNatClampNeg (24 + (Int64.toInt32 (((((x3 * 1103515245) + 12345) - ((x3 * 1103515245) + 12345) / 2147483648 * 2147483648) / 65536) - ((((x3 * 1103515245) + 12345) - ((x3 * 1103515245) + 12345) / 2147483648 * 2147483648) / 65536) / 6 * 6))))) hx hb hK hP hD hS 3 rfl hi_101 rfl dX8_decades_101 (fun H locs hP hD hS => ?_)
          have hP : va_P D vwCl (wd_X8_decades cI cZ AT AT_al AT_kp AT_ik AT_rf AT_hd AT_bs AT_se AT_bf AT_te AT_by AT_an AT_vs vT_ab vT_be vT_byl vT_tka vT_tkl vT_tkn vT_val fT_rf fT_al (upd fT_hd (Int32.toNatClampNeg (24 + (Int64.toInt32 (((((x3 * 1103515245) + 12345) - ((x3 * 1103515245) + 12345) / 2147483648 * 2147483648) / 65536) - ((((x3 * 1103515245) + 12345) - ((x3 * 1103515245) + 12345) / 2147483648 * 2147483648) / 65536) / 6 * 6)))) (Int64.toInt32 (((((x3 * 1103515245) + 12345) - ((x3 * 1103515245) + 12345) / 2147483648 * 2147483648) / 1048576) - ((((x3 * 1103515245) + 12345) - ((x3 * 1103515245) + 12345) / 2147483648 * 2147483648) / 1048576) / 6 * 6)))) H := hP
          have hD : va_D A (wd_X8_decades cI cZ AT AT_al AT_kp AT_ik AT_rf AT_hd AT_bs AT_se AT_bf AT_te AT_by AT_an AT_vs vT_ab vT_be vT_byl vT_tka vT_tkl vT_tkn vT_val fT_rf fT_al (upd fT_hd (Int32.toNatClampNeg (24 + (Int64.toInt32 (((((x3 * 1103515245) + 12345) - ((x3 * 1103515245) + 12345) / 2147483648 * 2147483648) / 65536) - ((((x3 * 1103515245) + 12345) - ((x3 * 1103515245) + 12345) / 2147483648 * 2147483648) / 65536) / 6 * 6)))) (Int64.toInt32 (((((x3 * 1103515245) + 12345) - ((x3 * 1103515245) + 12345) / 2147483648 * 2147483648) / 1048576) - ((((x3 * 1103515245) + 12345) - ((x3 * 1103515245) + 12345) / 2147483648 * 2147483648) / 1048576) / 6 * 6)))) := hD
          refine lv_aload_n hx hb dX8_decades_102 rfl (lv_at hl 3 rfl) ?_
          refine gf_X8_27 (v := .ref AT_hd) hx hb hts hown hK hN hP 0 rfl rfl dX8_decades_103 ?_
          obtain ⟨r_106, hc_106, hm⟩ := ob_s hm
          refine q_cv (q_rs (rest := []) ⟨hx, hb, hml, hown, hts⟩ hK hN hP hD (c_X8_goNight l D cI cZ H.size AT_hd 49 (upd fT_hd (Int32.toNatClampNeg (24 + (Int64.toInt32 (((((x3 * 1103515245) + 12345) - ((x3 * 1103515245) + 12345) / 2147483648 * 2147483648) / 65536) - ((((x3 * 1103515245) + 12345) - ((x3 * 1103515245) + 12345) / 2147483648 * 2147483648) / 65536) / 6 * 6)))) (Int64.toInt32 (((((x3 * 1103515245) + 12345) - ((x3 * 1103515245) + 12345) / 2147483648 * 2147483648) / 1048576) - ((((x3 * 1103515245) + 12345) - ((x3 * 1103515245) + 12345) / 2147483648 * 2147483648) / 1048576) / 6 * 6))) r_106 hc_106) mb_X8_goNight wt_X8_goNight wl_X8_110 [3] rfl rfl (Nat.le_of_ble_eq_true rfl) (Nat.le_of_ble_eq_true rfl) rfl hl.1 rfl (Nat.le_of_ble_eq_true rfl) ⟨Nat.le_refl 0, Nat.le_refl 0⟩ dX8_decades_106) hP hD hS hA [3] rfl rfl (fun H locs hP hD hS => ?_)
          have hP : va_P D vwCl (wd_X8_decades cI cZ AT AT_al AT_kp AT_ik AT_rf AT_hd AT_bs AT_se AT_bf AT_te AT_by AT_an AT_vs vT_ab vT_be vT_byl vT_tka vT_tkl vT_tkn vT_val fT_rf fT_al r_106) H := hP
          have hD : va_D A (wd_X8_decades cI cZ AT AT_al AT_kp AT_ik AT_rf AT_hd AT_bs AT_se AT_bf AT_te AT_by AT_an AT_vs vT_ab vT_be vT_byl vT_tka vT_tkl vT_tkn vT_val fT_rf fT_al r_106) := hD
          refine lv_iinc (v := (x5 + 1)) (lv' := [(5, .int (x5 + 1)), (6, .int (Int64.toInt32 (((((x3 * 1103515245) + 12345) - ((x3 * 1103515245) + 12345) / 2147483648 * 2147483648) / 65536) - ((((x3 * 1103515245) + 12345) - ((x3 * 1103515245) + 12345) / 2147483648 * 2147483648) / 65536) / 6 * 6))), (3, .long (((x3 * 1103515245) + 12345) - ((x3 * 1103515245) + 12345) / 2147483648 * 2147483648)), (0, .ref AT), (2, .int p2)]) hx hb dX8_decades_109 hl (k := 2) rfl rfl (by decide) rfl (fun ls hl => ?_)
          refine lv_goto (tgt := 41) hx hb dX8_decades_112 (by decide) ?_
          exact ih_41 (x5 + 1) (((x3 * 1103515245) + 12345) - ((x3 * 1103515245) + 12345) / 2147483648 * 2147483648) fT_rf r_106 H locs ls hm hP hD hS (lv_sub hl [0, 2, 3, 4] rfl)
  unfold fm_X8_decades at hm
  refine q_gen hS hP ?_
  intro H locs hP hS
  refine lv_iload_n hx hb dX8_decades_0 rfl (lv_at hl 1 rfl) ?_
  refine lv_i2l (v := (Int32.toInt64 p1)) hx hb dX8_decades_1 rfl ?_
  refine lv_lconst (v := 0) hx hb dX8_decades_2 (by decide) ?_
  refine lv_ldc2 (v := 999999) hx hb hown (hts _ wv_X8_204) dX8_decades_3 ?_
  obtain ⟨r_6, hc_6, hm⟩ := ob_s hm
  refine q_ci (q_rs (rest := []) ⟨hx, hb, hml, hown, hts⟩ hK hN hP hD (c_X8_in l D cI cZ H.size (Int32.toInt64 p1) 0 999999 r_6 hc_6) mb_X8_in wt_X8_in wl_X8_59 [] rfl rfl (Nat.le_of_ble_eq_true rfl) (Nat.le_of_ble_eq_true rfl) rfl hl.1 rfl (Nat.le_of_ble_eq_true rfl) ⟨Nat.le_refl 0, Nat.le_refl 0⟩ dX8_decades_6) hP hD hS hA [] rfl rfl (fun H locs hP hD hS => ?_)
  have hP : va_P D vwCl (wd_X8_decades cI cZ AT AT_al AT_kp AT_ik AT_rf AT_hd AT_bs AT_se AT_bf AT_te AT_by AT_an AT_vs vT_ab vT_be vT_byl vT_tka vT_tkl vT_tkn vT_val fT_rf fT_al fT_hd) H := hP
  have hD : va_D A (wd_X8_decades cI cZ AT AT_al AT_kp AT_ik AT_rf AT_hd AT_bs AT_se AT_bf AT_te AT_by AT_an AT_vs vT_ab vT_be vT_byl vT_tka vT_tkl vT_tkn vT_val fT_rf fT_al fT_hd) := hD
  refine lv_if_eq (tgt := 24) hx hb dX8_decades_9 (by decide) (fun c_9 => ?_) (fun c_9 => ?_)
  · have hm := it_s c_9 hm
    refine lv_aload_n hx hb dX8_decades_24 rfl (lv_at hl 0 rfl) ?_
    refine lv_bipush (v := (-2)) hx hb dX8_decades_25 (by decide) ?_
    obtain ⟨r_27, hc_27, hm⟩ := ob_s hm
    refine q_ci (q_rv (rest := []) ⟨hx, hb, hml, hown, hts⟩ hK hN hP hD (c_X8_bad l D cI cZ H.size AT AT_al AT_kp AT_ik AT_rf AT_hd AT_bs AT_se AT_bf AT_te AT_by AT_an AT_vs vT_ab vT_be vT_byl vT_tka vT_tkl vT_tkn vT_val fT_rf (-2) r_27 hc_27) mb_X8_bad mv_X8_bad wl_X8_75 [0, 1] rfl rfl rfl (Nat.le_of_ble_eq_true rfl) (Nat.le_of_ble_eq_true rfl) rfl hl.1 rfl (Nat.le_of_ble_eq_true rfl) ⟨Nat.le_refl 0, Nat.le_refl 0⟩ dX8_decades_27) hP hD hS hA [0, 1] rfl rfl (fun H locs hP hD hS => ?_)
    have hP : va_P D vwCl (wd_X8_decades cI cZ AT AT_al AT_kp AT_ik AT_rf AT_hd AT_bs AT_se AT_bf AT_te AT_by AT_an AT_vs vT_ab vT_be vT_byl vT_tka vT_tkl vT_tkn vT_val r_27.2 fT_al fT_hd) H := hP
    have hD : va_D A (wd_X8_decades cI cZ AT AT_al AT_kp AT_ik AT_rf AT_hd AT_bs AT_se AT_bf AT_te AT_by AT_an AT_vs vT_ab vT_be vT_byl vT_tka vT_tkl vT_tkn vT_val r_27.2 fT_al fT_hd) := hD
    have hm := Option.some.inj hm
    subst hm
    exact q_iret (v := r_27.1) hx hb hr hlocks hP hS dX8_decades_30
  · have hm := it_n c_9 hm
    refine lv_iload_n hx hb dX8_decades_12 rfl (lv_at hl 2 rfl) ?_
    refine lv_i2l (v := (Int32.toInt64 p2)) hx hb dX8_decades_13 rfl ?_
    refine lv_lconst (v := 0) hx hb dX8_decades_14 (by decide) ?_
    refine lv_ldc2 (v := 60) hx hb hown (hts _ wv_X8_113) dX8_decades_15 ?_
    obtain ⟨r_18, hc_18, hm⟩ := ob_s hm
    refine q_ci (q_rs (rest := []) ⟨hx, hb, hml, hown, hts⟩ hK hN hP hD (c_X8_in l D cI cZ H.size (Int32.toInt64 p2) 0 60 r_18 hc_18) mb_X8_in wt_X8_in wl_X8_59 [] rfl rfl (Nat.le_of_ble_eq_true rfl) (Nat.le_of_ble_eq_true rfl) rfl hl.1 rfl (Nat.le_of_ble_eq_true rfl) ⟨Nat.le_refl 0, Nat.le_refl 0⟩ dX8_decades_18) hP hD hS hA [] rfl rfl (fun H locs hP hD hS => ?_)
    have hP : va_P D vwCl (wd_X8_decades cI cZ AT AT_al AT_kp AT_ik AT_rf AT_hd AT_bs AT_se AT_bf AT_te AT_by AT_an AT_vs vT_ab vT_be vT_byl vT_tka vT_tkl vT_tkn vT_val fT_rf fT_al fT_hd) H := hP
    have hD : va_D A (wd_X8_decades cI cZ AT AT_al AT_kp AT_ik AT_rf AT_hd AT_bs AT_se AT_bf AT_te AT_by AT_an AT_vs vT_ab vT_be vT_byl vT_tka vT_tkl vT_tkn vT_val fT_rf fT_al fT_hd) := hD
    refine lv_if_ne (tgt := 31) hx hb dX8_decades_21 (by decide) (fun c_21 => ?_) (fun c_21 => ?_)
    · have hm := it_n c_21 hm
      refine lv_iload_n hx hb dX8_decades_31 rfl (lv_at hl 1 rfl) ?_
      refine lv_i2l (v := (Int32.toInt64 p1)) hx hb dX8_decades_32 rfl ?_
      refine lv_lstore_n (lv' := [(3, .long (Int32.toInt64 p1)), (0, .ref AT), (1, .int p1), (2, .int p2)]) hx hb dX8_decades_33 rfl hl (by decide) rfl (fun ls hl => ?_)
      refine lv_aload_n hx hb dX8_decades_34 rfl (lv_at hl 1 rfl) ?_
      obtain ⟨r_35, hc_35, hm⟩ := ob_s hm
      refine q_cv (q_rv (rest := []) ⟨hx, hb, hml, hown, hts⟩ hK hN hP hD (c_X8_layHand l D cI cZ H.size AT AT_al AT_kp AT_ik AT_rf AT_hd AT_bs AT_se AT_bf AT_te AT_by AT_an AT_vs vT_ab vT_be vT_byl vT_tka vT_tkl vT_tkn vT_val fT_al fT_hd r_35 hc_35) mb_X8_layHand mv_X8_layHand wl_X8_145 [0, 2, 3] rfl rfl rfl (Nat.le_of_ble_eq_true rfl) (Nat.le_of_ble_eq_true rfl) rfl hl.1 rfl (Nat.le_of_ble_eq_true rfl) ⟨Nat.le_refl 0, Nat.le_refl 0⟩ dX8_decades_35) hP hD hS hA [0, 2, 3] rfl rfl (fun H locs hP hD hS => ?_)
      have hP : va_P D vwCl (wd_X8_decades cI cZ AT AT_al AT_kp AT_ik AT_rf AT_hd AT_bs AT_se AT_bf AT_te AT_by AT_an AT_vs vT_ab vT_be vT_byl vT_tka vT_tkl vT_tkn vT_val fT_rf fT_al r_35) H := hP
      have hD : va_D A (wd_X8_decades cI cZ AT AT_al AT_kp AT_ik AT_rf AT_hd AT_bs AT_se AT_bf AT_te AT_by AT_an AT_vs vT_ab vT_be vT_byl vT_tka vT_tkl vT_tkn vT_val fT_rf fT_al r_35) := hD
      refine lv_iconst (v := 0) hx hb dX8_decades_38 (by decide) ?_
      refine lv_istore (lv' := [(5, .int 0), (3, .long (Int32.toInt64 p1)), (0, .ref AT), (1, .int p1), (2, .int p2)]) hx hb dX8_decades_39 hl (by decide) rfl (fun ls hl => ?_)
      exact hL_41 FU 0 (Int32.toInt64 p1) fT_rf r_35 H locs ls hm hP hD hS (lv_sub hl [0, 1, 2, 4] rfl)
    · have hm := it_s c_21 hm
      refine lv_aload_n hx hb dX8_decades_24 rfl (lv_at hl 0 rfl) ?_
      refine lv_bipush (v := (-2)) hx hb dX8_decades_25 (by decide) ?_
      obtain ⟨r_27, hc_27, hm⟩ := ob_s hm
      refine q_ci (q_rv (rest := []) ⟨hx, hb, hml, hown, hts⟩ hK hN hP hD (c_X8_bad l D cI cZ H.size AT AT_al AT_kp AT_ik AT_rf AT_hd AT_bs AT_se AT_bf AT_te AT_by AT_an AT_vs vT_ab vT_be vT_byl vT_tka vT_tkl vT_tkn vT_val fT_rf (-2) r_27 hc_27) mb_X8_bad mv_X8_bad wl_X8_75 [0, 1] rfl rfl rfl (Nat.le_of_ble_eq_true rfl) (Nat.le_of_ble_eq_true rfl) rfl hl.1 rfl (Nat.le_of_ble_eq_true rfl) ⟨Nat.le_refl 0, Nat.le_refl 0⟩ dX8_decades_27) hP hD hS hA [0, 1] rfl rfl (fun H locs hP hD hS => ?_)
      have hP : va_P D vwCl (wd_X8_decades cI cZ AT AT_al AT_kp AT_ik AT_rf AT_hd AT_bs AT_se AT_bf AT_te AT_by AT_an AT_vs vT_ab vT_be vT_byl vT_tka vT_tkl vT_tkn vT_val r_27.2 fT_al fT_hd) H := hP
      have hD : va_D A (wd_X8_decades cI cZ AT AT_al AT_kp AT_ik AT_rf AT_hd AT_bs AT_se AT_bf AT_te AT_by AT_an AT_vs vT_ab vT_be vT_byl vT_tka vT_tkl vT_tkn vT_val r_27.2 fT_al fT_hd) := hD
      have hm := Option.some.inj hm
      subst hm
      exact q_iret (v := r_27.1) hx hb hr hlocks hP hS dX8_decades_30
theorem gf_X8_220 {p : Program} {l : Launch} {e : Env} {R : Room} {s : State} {m : MethodId} {args : Array Value} {below : List Frame} {meth : Method} {c : Code} {H : Heap} {locs : List Loc} {cells slots : Nat} {Q : State → Prop} {pc : Nat} {ls : Array Slot} {cc : ByteArray} {D : va_G} {cI cZ : ClassId} {ws : va_W} {a : Nat} {rest fs : List Value} (hx : p.tables.exec = Jvm.exec) (hb : c.code = cc) (hts : ∀ w ∈ bg, w.before args s = true) (hown : s.vm.findClass RX8 = some m.cls) (hK : va_K D vwCl (q_tys cI cZ) s) (hN : q_N s) (hP : va_P D vwCl ws H) (q0 : Nat) (he : ws[q0]? = some (a, .inr (8, fs))) {v : Value} (hv : fs[12]? = some v) (hdg : decode cc pc = .ok (.getfield 220, 3)) (kk : W p l e R s m args below meth c H locs cells slots Q (F0 m (pc + 3) ls (v :: rest))) : W p l e R s m args below meth c H locs cells slots Q (F0 m pc ls (.ref a :: rest)) :=
  va_get (C := RX8) (T := TX8) (N := 19) hx hb hts wu_X8 hown hK hP q0 he rfl 12 (by decide) (hts _ wf_X8_220) (fun _ h9 => h9) hv hdg kk
theorem gf_X8_42 {p : Program} {l : Launch} {e : Env} {R : Room} {s : State} {m : MethodId} {args : Array Value} {below : List Frame} {meth : Method} {c : Code} {H : Heap} {locs : List Loc} {cells slots : Nat} {Q : State → Prop} {pc : Nat} {ls : Array Slot} {cc : ByteArray} {D : va_G} {cI cZ : ClassId} {ws : va_W} {a : Nat} {rest fs : List Value} (hx : p.tables.exec = Jvm.exec) (hb : c.code = cc) (hts : ∀ w ∈ bg, w.before args s = true) (hown : s.vm.findClass RX8 = some m.cls) (hK : va_K D vwCl (q_tys cI cZ) s) (hN : q_N s) (hP : va_P D vwCl ws H) (q0 : Nat) (he : ws[q0]? = some (a, .inr (8, fs))) {v : Value} (hv : fs[11]? = some v) (hdg : decode cc pc = .ok (.getfield 42, 3)) (kk : W p l e R s m args below meth c H locs cells slots Q (F0 m (pc + 3) ls (v :: rest))) : W p l e R s m args below meth c H locs cells slots Q (F0 m pc ls (.ref a :: rest)) :=
  va_get (C := RX8) (T := TX8) (N := 19) hx hb hts wu_X8 hown hK hP q0 he rfl 11 (by decide) (hts _ wf_X8_42) (fun _ h9 => h9) hv hdg kk
theorem pf_X8_220 {p : Program} {l : Launch} {e : Env} {R : Room} {s : State} {m : MethodId} {args : Array Value} {below : List Frame} {meth : Method} {c : Code} {H : Heap} {locs : List Loc} {cells slots : Nat} {Q : State → Prop} {pc : Nat} {ls : Array Slot} {cc : ByteArray} {D : va_G} {cI cZ : ClassId} {ws : va_W} {A : Nat → Prop} {a : Nat} {rest fs : List Value} {x : Int32} (hx : p.tables.exec = Jvm.exec) (hb : c.code = cc) (hts : ∀ w ∈ bg, w.before args s = true) (hown : s.vm.findClass RX8 = some m.cls) (hK : va_K D vwCl (q_tys cI cZ) s) (hN : q_N s) (hP : va_P D vwCl ws H) (hD : va_D A ws) (hS : va_S A s.heap H locs) (q0 : Nat) (he : ws[q0]? = some (a, .inr (8, fs))) (hdg : decode cc pc = .ok (.putfield 220, 3)) (kk : ∀ (H1 : Heap) (locs1 : List Loc), va_P D vwCl (ws.set q0 (a, .inr (8, fs.set 12 (.int x)))) H1 → va_D A (ws.set q0 (a, .inr (8, fs.set 12 (.int x)))) → va_S A s.heap H1 locs1 → W p l e R s m args below meth c H1 locs1 cells slots Q (F0 m (pc + 3) ls rest)) (hl : 12 < fs.length := by exact Nat.le_of_ble_eq_true rfl) : W p l e R s m args below meth c H locs cells slots Q (F0 m pc ls (.int x :: .ref a :: rest)) :=
  va_put (C := RX8) (T := TX8) (N := 19) (ty := .int) hx hb hts wu_X8 tyX8 tyX8_ok nmX8 hown hK hP hD hS q0 he rfl 12 (by decide) (hts _ wf_X8_220) (fun _ h9 => h9) rfl (by decide +kernel) rfl rfl hl hdg kk
theorem mb_X8_type : q_mb yX8_type cX8_type 2 (some .int) 1 := ⟨wc_X8_type, wn_X8, by decide, by decide, by decide +kernel⟩
theorem mv_X8_type : q_mv yX8_type 8 := ⟨wi_X8_type, ws_X8_type, _, rfl, rfl⟩
def wd_X8_type (cI cZ : ClassId) (AT AT_al AT_kp AT_ik AT_rf AT_hd AT_bs AT_se AT_bf AT_te AT_by AT_an AT_vs : Nat) (vT_ab : Int64) (vT_be : Int64) (vT_byl : Int32) (vT_tka : Int32) (vT_tkl : Int32) (vT_tkn : Int32) (vT_val : Int32) (fT_by : Nat → Int32) (fT_rf : Nat → Int32) : va_W := [(AT, .inr (8, [.ref AT_al, .ref AT_kp, .ref AT_ik, .ref AT_rf, .long vT_ab, .long vT_be, .ref AT_hd, .ref AT_bs, .ref AT_se, .ref AT_bf, .ref AT_te, .ref AT_by, .int vT_byl, .int vT_tka, .int vT_tkl, .int vT_tkn, .int vT_val, .ref AT_an, .ref AT_vs])), (AT_by, .inl (cI, 150, .inl fT_by)), (AT_rf, .inl (cI, 3, .inl fT_rf))]
def fm_X8_type (p1 : Int32) (vT_byl : Int32) (fT_by : Nat → Int32) (fT_rf : Nat → Int32) : Option (Int32 × Int32 × (Nat → Int32) × (Nat → Int32)) := Option.bind (fm_X8_in (Int32.toInt64 p1) 0 127) (fun r_6 => if r_6 = 0 then (Option.bind (fm_X8_bad (-2) fT_rf) (fun r_15 => some (r_15.1, vT_byl, fT_by, r_15.2))) else (if vT_byl = 150 then (Option.bind (fm_X8_full fT_rf) (fun r_30 => some (r_30.1, vT_byl, fT_by, r_30.2))) else (gd vT_byl 150 (some ((vT_byl + 1), (vT_byl + 1), (upd fT_by (Int32.toNatClampNeg vT_byl) p1), fT_rf)))))
set_option maxHeartbeats 4000000 in
set_option maxRecDepth 100000 in
theorem c_X8_type (l : Launch) (D : va_G) (cI cZ : ClassId) (sz : Nat) (AT AT_al AT_kp AT_ik AT_rf AT_hd AT_bs AT_se AT_bf AT_te AT_by AT_an AT_vs : Nat) (vT_ab : Int64) (vT_be : Int64) (vT_byl : Int32) (vT_tka : Int32) (vT_tkl : Int32) (vT_tkn : Int32) (vT_val : Int32) (fT_by : Nat → Int32) (fT_rf : Nat → Int32) (p1 : Int32) (out : (Int32 × Int32 × (Nat → Int32) × (Nat → Int32))) (hm : fm_X8_type p1 vT_byl fT_by fT_rf = some out) : Met l yX8_type (Cond.code yX8_type cX8_type 2 (some .int) :: bg) { frames := 1, cells := 0, slots := 0, locals := 25 } (va_Pc [.ref AT, .int p1] (q_pre D cI cZ sz (wd_X8_type cI cZ AT AT_al AT_kp AT_ik AT_rf AT_hd AT_bs AT_se AT_bf AT_te AT_by AT_an AT_vs vT_ab vT_be vT_byl vT_tka vT_tkl vT_tkn vT_val fT_by fT_rf))) (q_Qi D (wd_X8_type cI cZ AT AT_al AT_kp AT_ik AT_rf AT_hd AT_bs AT_se AT_bf AT_te AT_by AT_an AT_vs vT_ab vT_be out.2.1 vT_tka vT_tkl vT_tkn vT_val out.2.2.1 out.2.2.2) out.1 (va_A (wd_X8_type cI cZ AT AT_al AT_kp AT_ik AT_rf AT_hd AT_bs AT_se AT_bf AT_te AT_by AT_an AT_vs vT_ab vT_be vT_byl vT_tka vT_tkl vT_tkn vT_val fT_by fT_rf) sz)) 0 0 (va_A (wd_X8_type cI cZ AT AT_al AT_kp AT_ik AT_rf AT_hd AT_bs AT_se AT_bf AT_te AT_by AT_an AT_vs vT_ab vT_be vT_byl vT_tka vT_tkl vT_tkn vT_val fT_by fT_rf) sz) := by
  refine q_met (fun A => q_Qi D (wd_X8_type cI cZ AT AT_al AT_kp AT_ik AT_rf AT_hd AT_bs AT_se AT_bf AT_te AT_by AT_an AT_vs vT_ab vT_be out.2.1 vT_tka vT_tkl vT_tkn vT_val out.2.2.1 out.2.2.2) out.1 A) (by decide) (Nat.le_of_ble_eq_true rfl) ?_
  intro p e s m below meth c ls A hx hb hr hml hown hts hlocks _ hA hS hP hD hK hN hl
  have hown : s.vm.findClass RX8 = some m.cls := hown
  have hl : lv_has ls 2 [(0, .ref AT), (1, .int p1)] := hl
  unfold fm_X8_type at hm
  refine q_gen hS hP ?_
  intro H locs hP hS
  refine lv_iload_n hx hb dX8_type_0 rfl (lv_at hl 1 rfl) ?_
  refine lv_i2l (v := (Int32.toInt64 p1)) hx hb dX8_type_1 rfl ?_
  refine lv_lconst (v := 0) hx hb dX8_type_2 (by decide) ?_
  refine lv_ldc2 (v := 127) hx hb hown (hts _ wv_X8_218) dX8_type_3 ?_
  obtain ⟨r_6, hc_6, hm⟩ := ob_s hm
  refine q_ci (q_rs (rest := []) ⟨hx, hb, hml, hown, hts⟩ hK hN hP hD (c_X8_in l D cI cZ H.size (Int32.toInt64 p1) 0 127 r_6 hc_6) mb_X8_in wt_X8_in wl_X8_59 [] rfl rfl (Nat.le_of_ble_eq_true rfl) (Nat.le_of_ble_eq_true rfl) rfl hl.1 rfl (Nat.le_of_ble_eq_true rfl) ⟨Nat.le_refl 0, Nat.le_refl 0⟩ dX8_type_6) hP hD hS hA [] rfl rfl (fun H locs hP hD hS => ?_)
  have hP : va_P D vwCl (wd_X8_type cI cZ AT AT_al AT_kp AT_ik AT_rf AT_hd AT_bs AT_se AT_bf AT_te AT_by AT_an AT_vs vT_ab vT_be vT_byl vT_tka vT_tkl vT_tkn vT_val fT_by fT_rf) H := hP
  have hD : va_D A (wd_X8_type cI cZ AT AT_al AT_kp AT_ik AT_rf AT_hd AT_bs AT_se AT_bf AT_te AT_by AT_an AT_vs vT_ab vT_be vT_byl vT_tka vT_tkl vT_tkn vT_val fT_by fT_rf) := hD
  refine lv_if_ne (tgt := 19) hx hb dX8_type_9 (by decide) (fun c_9 => ?_) (fun c_9 => ?_)
  · have hm := it_n c_9 hm
    refine lv_aload_n hx hb dX8_type_19 rfl (lv_at hl 0 rfl) ?_
    refine gf_X8_220 (v := .int vT_byl) hx hb hts hown hK hN hP 0 rfl rfl dX8_type_20 ?_
    refine lv_sipush (v := 150) hx hb dX8_type_23 (by decide) ?_
    refine lv_icmp_ne (tgt := 34) hx hb dX8_type_26 (by decide) (fun c_26 => ?_) (fun c_26 => ?_)
    · have hm := it_n c_26 hm
      refine lv_aload_n hx hb dX8_type_34 rfl (lv_at hl 0 rfl) ?_
      refine gf_X8_42 (v := .ref AT_by) hx hb hts hown hK hN hP 0 rfl rfl dX8_type_35 ?_
      refine lv_aload_n hx hb dX8_type_38 rfl (lv_at hl 0 rfl) ?_
      refine gf_X8_220 (v := .int vT_byl) hx hb hts hown hK hN hP 0 rfl rfl dX8_type_39 ?_
      refine lv_iload_n hx hb dX8_type_42 rfl (lv_at hl 1 rfl) ?_
      obtain ⟨hi_43, hm⟩ := gd_s hm
      refine q_iast (j := (Int32.toNatClampNeg vT_byl)) hx hb hK hP hD hS 1 rfl hi_43 rfl dX8_type_43 (fun H locs hP hD hS => ?_)
      have hP : va_P D vwCl (wd_X8_type cI cZ AT AT_al AT_kp AT_ik AT_rf AT_hd AT_bs AT_se AT_bf AT_te AT_by AT_an AT_vs vT_ab vT_be vT_byl vT_tka vT_tkl vT_tkn vT_val (upd fT_by (Int32.toNatClampNeg vT_byl) p1) fT_rf) H := hP
      have hD : va_D A (wd_X8_type cI cZ AT AT_al AT_kp AT_ik AT_rf AT_hd AT_bs AT_se AT_bf AT_te AT_by AT_an AT_vs vT_ab vT_be vT_byl vT_tka vT_tkl vT_tkn vT_val (upd fT_by (Int32.toNatClampNeg vT_byl) p1) fT_rf) := hD
      refine lv_aload_n hx hb dX8_type_44 rfl (lv_at hl 0 rfl) ?_
      refine lv_dup hx hb dX8_type_45 rfl ?_
      refine gf_X8_220 (v := .int vT_byl) hx hb hts hown hK hN hP 0 rfl rfl dX8_type_46 ?_
      refine lv_iconst (v := 1) hx hb dX8_type_49 (by decide) ?_
      refine lv_iadd hx hb dX8_type_50 ?_
      refine pf_X8_220 hx hb hts hown hK hN hP hD hS 0 rfl dX8_type_51 (fun H locs hP hD hS => ?_)
      have hP : va_P D vwCl (wd_X8_type cI cZ AT AT_al AT_kp AT_ik AT_rf AT_hd AT_bs AT_se AT_bf AT_te AT_by AT_an AT_vs vT_ab vT_be (vT_byl + 1) vT_tka vT_tkl vT_tkn vT_val (upd fT_by (Int32.toNatClampNeg vT_byl) p1) fT_rf) H := hP
      have hD : va_D A (wd_X8_type cI cZ AT AT_al AT_kp AT_ik AT_rf AT_hd AT_bs AT_se AT_bf AT_te AT_by AT_an AT_vs vT_ab vT_be (vT_byl + 1) vT_tka vT_tkl vT_tkn vT_val (upd fT_by (Int32.toNatClampNeg vT_byl) p1) fT_rf) := hD
      refine lv_aload_n hx hb dX8_type_54 rfl (lv_at hl 0 rfl) ?_
      refine gf_X8_220 (v := .int (vT_byl + 1)) hx hb hts hown hK hN hP 0 rfl rfl dX8_type_55 ?_
      have hm := Option.some.inj hm
      subst hm
      exact q_iret (v := (vT_byl + 1)) hx hb hr hlocks hP hS dX8_type_58
    · have hm := it_s c_26 hm
      refine lv_aload_n hx hb dX8_type_29 rfl (lv_at hl 0 rfl) ?_
      obtain ⟨r_30, hc_30, hm⟩ := ob_s hm
      refine q_ci (q_rv (rest := []) ⟨hx, hb, hml, hown, hts⟩ hK hN hP hD (c_X8_full l D cI cZ H.size AT AT_al AT_kp AT_ik AT_rf AT_hd AT_bs AT_se AT_bf AT_te AT_by AT_an AT_vs vT_ab vT_be vT_byl vT_tka vT_tkl vT_tkn vT_val fT_rf r_30 hc_30) mb_X8_full mv_X8_full wl_X8_79 [0, 2] rfl rfl rfl (Nat.le_of_ble_eq_true rfl) (Nat.le_of_ble_eq_true rfl) rfl hl.1 rfl (Nat.le_of_ble_eq_true rfl) ⟨Nat.le_refl 0, Nat.le_refl 0⟩ dX8_type_30) hP hD hS hA [0, 2] rfl rfl (fun H locs hP hD hS => ?_)
      have hP : va_P D vwCl (wd_X8_type cI cZ AT AT_al AT_kp AT_ik AT_rf AT_hd AT_bs AT_se AT_bf AT_te AT_by AT_an AT_vs vT_ab vT_be vT_byl vT_tka vT_tkl vT_tkn vT_val fT_by r_30.2) H := hP
      have hD : va_D A (wd_X8_type cI cZ AT AT_al AT_kp AT_ik AT_rf AT_hd AT_bs AT_se AT_bf AT_te AT_by AT_an AT_vs vT_ab vT_be vT_byl vT_tka vT_tkl vT_tkn vT_val fT_by r_30.2) := hD
      have hm := Option.some.inj hm
      subst hm
      exact q_iret (v := r_30.1) hx hb hr hlocks hP hS dX8_type_33
  · have hm := it_s c_9 hm
    refine lv_aload_n hx hb dX8_type_12 rfl (lv_at hl 0 rfl) ?_
    refine lv_bipush (v := (-2)) hx hb dX8_type_13 (by decide) ?_
    obtain ⟨r_15, hc_15, hm⟩ := ob_s hm
    refine q_ci (q_rv (rest := []) ⟨hx, hb, hml, hown, hts⟩ hK hN hP hD (c_X8_bad l D cI cZ H.size AT AT_al AT_kp AT_ik AT_rf AT_hd AT_bs AT_se AT_bf AT_te AT_by AT_an AT_vs vT_ab vT_be vT_byl vT_tka vT_tkl vT_tkn vT_val fT_rf (-2) r_15 hc_15) mb_X8_bad mv_X8_bad wl_X8_75 [0, 2] rfl rfl rfl (Nat.le_of_ble_eq_true rfl) (Nat.le_of_ble_eq_true rfl) rfl hl.1 rfl (Nat.le_of_ble_eq_true rfl) ⟨Nat.le_refl 0, Nat.le_refl 0⟩ dX8_type_15) hP hD hS hA [0, 2] rfl rfl (fun H locs hP hD hS => ?_)
    have hP : va_P D vwCl (wd_X8_type cI cZ AT AT_al AT_kp AT_ik AT_rf AT_hd AT_bs AT_se AT_bf AT_te AT_by AT_an AT_vs vT_ab vT_be vT_byl vT_tka vT_tkl vT_tkn vT_val fT_by r_15.2) H := hP
    have hD : va_D A (wd_X8_type cI cZ AT AT_al AT_kp AT_ik AT_rf AT_hd AT_bs AT_se AT_bf AT_te AT_by AT_an AT_vs vT_ab vT_be vT_byl vT_tka vT_tkl vT_tkn vT_val fT_by r_15.2) := hD
    have hm := Option.some.inj hm
    subst hm
    exact q_iret (v := r_15.1) hx hb hr hlocks hP hS dX8_type_18
theorem mb_X8_clear : q_mb yX8_clear cX8_clear 2 (some .int) 0 := ⟨wc_X8_clear, wn_X8, by decide, by decide, by decide +kernel⟩
theorem mv_X8_clear : q_mv yX8_clear 8 := ⟨wi_X8_clear, ws_X8_clear, _, rfl, rfl⟩
def wd_X8_clear (cI cZ : ClassId) (AT AT_al AT_kp AT_ik AT_rf AT_hd AT_bs AT_se AT_bf AT_te AT_by AT_an AT_vs : Nat) (vT_ab : Int64) (vT_be : Int64) (vT_byl : Int32) (vT_tka : Int32) (vT_tkl : Int32) (vT_tkn : Int32) (vT_val : Int32) : va_W := [(AT, .inr (8, [.ref AT_al, .ref AT_kp, .ref AT_ik, .ref AT_rf, .long vT_ab, .long vT_be, .ref AT_hd, .ref AT_bs, .ref AT_se, .ref AT_bf, .ref AT_te, .ref AT_by, .int vT_byl, .int vT_tka, .int vT_tkl, .int vT_tkn, .int vT_val, .ref AT_an, .ref AT_vs]))]
def fm_X8_clear (vT_byl : Int32) : Option (Int32 × Int32) := some (vT_byl, 0)
set_option maxHeartbeats 4000000 in
set_option maxRecDepth 100000 in
theorem c_X8_clear (l : Launch) (D : va_G) (cI cZ : ClassId) (sz : Nat) (AT AT_al AT_kp AT_ik AT_rf AT_hd AT_bs AT_se AT_bf AT_te AT_by AT_an AT_vs : Nat) (vT_ab : Int64) (vT_be : Int64) (vT_byl : Int32) (vT_tka : Int32) (vT_tkl : Int32) (vT_tkn : Int32) (vT_val : Int32) (out : (Int32 × Int32)) (hm : fm_X8_clear vT_byl = some out) : Met l yX8_clear (Cond.code yX8_clear cX8_clear 2 (some .int) :: bg) { frames := 0, cells := 0, slots := 0, locals := 0 } (va_Pc [.ref AT] (q_pre D cI cZ sz (wd_X8_clear cI cZ AT AT_al AT_kp AT_ik AT_rf AT_hd AT_bs AT_se AT_bf AT_te AT_by AT_an AT_vs vT_ab vT_be vT_byl vT_tka vT_tkl vT_tkn vT_val))) (q_Qi D (wd_X8_clear cI cZ AT AT_al AT_kp AT_ik AT_rf AT_hd AT_bs AT_se AT_bf AT_te AT_by AT_an AT_vs vT_ab vT_be out.2 vT_tka vT_tkl vT_tkn vT_val) out.1 (va_A (wd_X8_clear cI cZ AT AT_al AT_kp AT_ik AT_rf AT_hd AT_bs AT_se AT_bf AT_te AT_by AT_an AT_vs vT_ab vT_be vT_byl vT_tka vT_tkl vT_tkn vT_val) sz)) 0 0 (va_A (wd_X8_clear cI cZ AT AT_al AT_kp AT_ik AT_rf AT_hd AT_bs AT_se AT_bf AT_te AT_by AT_an AT_vs vT_ab vT_be vT_byl vT_tka vT_tkl vT_tkn vT_val) sz) := by
  refine q_met (fun A => q_Qi D (wd_X8_clear cI cZ AT AT_al AT_kp AT_ik AT_rf AT_hd AT_bs AT_se AT_bf AT_te AT_by AT_an AT_vs vT_ab vT_be out.2 vT_tka vT_tkl vT_tkn vT_val) out.1 A) (by decide) (Nat.le_of_ble_eq_true rfl) ?_
  intro p e s m below meth c ls A hx hb hr hml hown hts hlocks _ hA hS hP hD hK hN hl
  have hown : s.vm.findClass RX8 = some m.cls := hown
  have hl : lv_has ls 2 [(0, .ref AT)] := hl
  unfold fm_X8_clear at hm
  refine q_gen hS hP ?_
  intro H locs hP hS
  refine lv_aload_n hx hb dX8_clear_0 rfl (lv_at hl 0 rfl) ?_
  refine gf_X8_220 (v := .int vT_byl) hx hb hts hown hK hN hP 0 rfl rfl dX8_clear_1 ?_
  refine lv_istore_n (lv' := [(1, .int vT_byl), (0, .ref AT)]) hx hb dX8_clear_4 rfl hl (by decide) rfl (fun ls hl => ?_)
  refine lv_aload_n hx hb dX8_clear_5 rfl (lv_at hl 1 rfl) ?_
  refine lv_iconst (v := 0) hx hb dX8_clear_6 (by decide) ?_
  refine pf_X8_220 hx hb hts hown hK hN hP hD hS 0 rfl dX8_clear_7 (fun H locs hP hD hS => ?_)
  have hP : va_P D vwCl (wd_X8_clear cI cZ AT AT_al AT_kp AT_ik AT_rf AT_hd AT_bs AT_se AT_bf AT_te AT_by AT_an AT_vs vT_ab vT_be 0 vT_tka vT_tkl vT_tkn vT_val) H := hP
  have hD : va_D A (wd_X8_clear cI cZ AT AT_al AT_kp AT_ik AT_rf AT_hd AT_bs AT_se AT_bf AT_te AT_by AT_an AT_vs vT_ab vT_be 0 vT_tka vT_tkl vT_tkn vT_val) := hD
  refine lv_iload_n hx hb dX8_clear_10 rfl (lv_at hl 0 rfl) ?_
  have hm := Option.some.inj hm
  subst hm
  exact q_iret (v := vT_byl) hx hb hr hlocks hP hS dX8_clear_11
theorem mb_X8_isSmall : q_mb yX8_isSmall cX8_isSmall 1 (some .boolean) 1 := ⟨wc_X8_isSmall, wn_X8, by decide, by decide, by decide +kernel⟩
def wd_X8_isSmall (cI cZ : ClassId) : va_W := []
def fm_X8_isSmall (p0 : Int32) : Option (Int32) := Option.bind (fm_X8_in (Int32.toInt64 p0) 97 122) (fun r_8 => bz r_8 (some (r_8)))
set_option maxHeartbeats 4000000 in
set_option maxRecDepth 100000 in
theorem c_X8_isSmall (l : Launch) (D : va_G) (cI cZ : ClassId) (sz : Nat) (p0 : Int32) (out : (Int32)) (hm : fm_X8_isSmall p0 = some out) : Met l yX8_isSmall (Cond.code yX8_isSmall cX8_isSmall 1 (some .boolean) :: bg) { frames := 1, cells := 0, slots := 0, locals := 25 } (va_Pc [.int p0] (q_pre D cI cZ sz (wd_X8_isSmall cI cZ))) (q_Qi D (wd_X8_isSmall cI cZ) out (va_A (wd_X8_isSmall cI cZ) sz)) 0 0 (va_A (wd_X8_isSmall cI cZ) sz) := by
  refine q_met (fun A => q_Qi D (wd_X8_isSmall cI cZ) out A) (by decide) (Nat.le_of_ble_eq_true rfl) ?_
  intro p e s m below meth c ls A hx hb hr hml hown hts hlocks _ hA hS hP hD hK hN hl
  have hown : s.vm.findClass RX8 = some m.cls := hown
  have hl : lv_has ls 1 [(0, .int p0)] := hl
  unfold fm_X8_isSmall at hm
  refine q_gen hS hP ?_
  intro H locs hP hS
  refine lv_iload_n hx hb dX8_isSmall_0 rfl (lv_at hl 0 rfl) ?_
  refine lv_i2l (v := (Int32.toInt64 p0)) hx hb dX8_isSmall_1 rfl ?_
  refine lv_ldc2 (v := 97) hx hb hown (hts _ wv_X8_224) dX8_isSmall_2 ?_
  refine lv_ldc2 (v := 122) hx hb hown (hts _ wv_X8_226) dX8_isSmall_5 ?_
  obtain ⟨r_8, hc_8, hm⟩ := ob_s hm
  refine q_ci (q_rs (rest := []) ⟨hx, hb, hml, hown, hts⟩ hK hN hP hD (c_X8_in l D cI cZ H.size (Int32.toInt64 p0) 97 122 r_8 hc_8) mb_X8_in wt_X8_in wl_X8_59 [] rfl rfl (Nat.le_of_ble_eq_true rfl) (Nat.le_of_ble_eq_true rfl) rfl hl.1 rfl (Nat.le_of_ble_eq_true rfl) ⟨Nat.le_refl 0, Nat.le_refl 0⟩ dX8_isSmall_8) hP hD hS hA [] rfl rfl (fun H locs hP hD hS => ?_)
  have hP : va_P D vwCl (wd_X8_isSmall cI cZ) H := hP
  have hD : va_D A (wd_X8_isSmall cI cZ) := hD
  obtain ⟨hz, hm⟩ := bz_s hm
  have hm := Option.some.inj hm
  subst hm
  exact q_zret (v := r_8) hx hb hr hlocks hz hP hS dX8_isSmall_11
theorem mb_X8_isFigure : q_mb yX8_isFigure cX8_isFigure 1 (some .boolean) 1 := ⟨wc_X8_isFigure, wn_X8, by decide, by decide, by decide +kernel⟩
def wd_X8_isFigure (cI cZ : ClassId) : va_W := []
def fm_X8_isFigure (p0 : Int32) : Option (Int32) := Option.bind (fm_X8_in (Int32.toInt64 p0) 48 57) (fun r_8 => bz r_8 (some (r_8)))
set_option maxHeartbeats 4000000 in
set_option maxRecDepth 100000 in
theorem c_X8_isFigure (l : Launch) (D : va_G) (cI cZ : ClassId) (sz : Nat) (p0 : Int32) (out : (Int32)) (hm : fm_X8_isFigure p0 = some out) : Met l yX8_isFigure (Cond.code yX8_isFigure cX8_isFigure 1 (some .boolean) :: bg) { frames := 1, cells := 0, slots := 0, locals := 25 } (va_Pc [.int p0] (q_pre D cI cZ sz (wd_X8_isFigure cI cZ))) (q_Qi D (wd_X8_isFigure cI cZ) out (va_A (wd_X8_isFigure cI cZ) sz)) 0 0 (va_A (wd_X8_isFigure cI cZ) sz) := by
  refine q_met (fun A => q_Qi D (wd_X8_isFigure cI cZ) out A) (by decide) (Nat.le_of_ble_eq_true rfl) ?_
  intro p e s m below meth c ls A hx hb hr hml hown hts hlocks _ hA hS hP hD hK hN hl
  have hown : s.vm.findClass RX8 = some m.cls := hown
  have hl : lv_has ls 1 [(0, .int p0)] := hl
  unfold fm_X8_isFigure at hm
  refine q_gen hS hP ?_
  intro H locs hP hS
  refine lv_iload_n hx hb dX8_isFigure_0 rfl (lv_at hl 0 rfl) ?_
  refine lv_i2l (v := (Int32.toInt64 p0)) hx hb dX8_isFigure_1 rfl ?_
  refine lv_ldc2 (v := 48) hx hb hown (hts _ wv_X8_228) dX8_isFigure_2 ?_
  refine lv_ldc2 (v := 57) hx hb hown (hts _ wv_X8_230) dX8_isFigure_5 ?_
  obtain ⟨r_8, hc_8, hm⟩ := ob_s hm
  refine q_ci (q_rs (rest := []) ⟨hx, hb, hml, hown, hts⟩ hK hN hP hD (c_X8_in l D cI cZ H.size (Int32.toInt64 p0) 48 57 r_8 hc_8) mb_X8_in wt_X8_in wl_X8_59 [] rfl rfl (Nat.le_of_ble_eq_true rfl) (Nat.le_of_ble_eq_true rfl) rfl hl.1 rfl (Nat.le_of_ble_eq_true rfl) ⟨Nat.le_refl 0, Nat.le_refl 0⟩ dX8_isFigure_8) hP hD hS hA [] rfl rfl (fun H locs hP hD hS => ?_)
  have hP : va_P D vwCl (wd_X8_isFigure cI cZ) H := hP
  have hD : va_D A (wd_X8_isFigure cI cZ) := hD
  obtain ⟨hz, hm⟩ := bz_s hm
  have hm := Option.some.inj hm
  subst hm
  exact q_zret (v := r_8) hx hb hr hlocks hz hP hS dX8_isFigure_11
theorem gf_X8_232 {p : Program} {l : Launch} {e : Env} {R : Room} {s : State} {m : MethodId} {args : Array Value} {below : List Frame} {meth : Method} {c : Code} {H : Heap} {locs : List Loc} {cells slots : Nat} {Q : State → Prop} {pc : Nat} {ls : Array Slot} {cc : ByteArray} {D : va_G} {cI cZ : ClassId} {ws : va_W} {a : Nat} {rest fs : List Value} (hx : p.tables.exec = Jvm.exec) (hb : c.code = cc) (hts : ∀ w ∈ bg, w.before args s = true) (hown : s.vm.findClass RX8 = some m.cls) (hK : va_K D vwCl (q_tys cI cZ) s) (hN : q_N s) (hP : va_P D vwCl ws H) (q0 : Nat) (he : ws[q0]? = some (a, .inr (8, fs))) {v : Value} (hv : fs[13]? = some v) (hdg : decode cc pc = .ok (.getfield 232, 3)) (kk : W p l e R s m args below meth c H locs cells slots Q (F0 m (pc + 3) ls (v :: rest))) : W p l e R s m args below meth c H locs cells slots Q (F0 m pc ls (.ref a :: rest)) :=
  va_get (C := RX8) (T := TX8) (N := 19) hx hb hts wu_X8 hown hK hP q0 he rfl 13 (by decide) (hts _ wf_X8_232) (fun _ h9 => h9) hv hdg kk
theorem gf_X8_238 {p : Program} {l : Launch} {e : Env} {R : Room} {s : State} {m : MethodId} {args : Array Value} {below : List Frame} {meth : Method} {c : Code} {H : Heap} {locs : List Loc} {cells slots : Nat} {Q : State → Prop} {pc : Nat} {ls : Array Slot} {cc : ByteArray} {D : va_G} {cI cZ : ClassId} {ws : va_W} {a : Nat} {rest fs : List Value} (hx : p.tables.exec = Jvm.exec) (hb : c.code = cc) (hts : ∀ w ∈ bg, w.before args s = true) (hown : s.vm.findClass RX8 = some m.cls) (hK : va_K D vwCl (q_tys cI cZ) s) (hN : q_N s) (hP : va_P D vwCl ws H) (q0 : Nat) (he : ws[q0]? = some (a, .inr (8, fs))) {v : Value} (hv : fs[15]? = some v) (hdg : decode cc pc = .ok (.getfield 238, 3)) (kk : W p l e R s m args below meth c H locs cells slots Q (F0 m (pc + 3) ls (v :: rest))) : W p l e R s m args below meth c H locs cells slots Q (F0 m pc ls (.ref a :: rest)) :=
  va_get (C := RX8) (T := TX8) (N := 19) hx hb hts wu_X8 hown hK hP q0 he rfl 15 (by decide) (hts _ wf_X8_238) (fun _ h9 => h9) hv hdg kk
theorem gf_X8_235 {p : Program} {l : Launch} {e : Env} {R : Room} {s : State} {m : MethodId} {args : Array Value} {below : List Frame} {meth : Method} {c : Code} {H : Heap} {locs : List Loc} {cells slots : Nat} {Q : State → Prop} {pc : Nat} {ls : Array Slot} {cc : ByteArray} {D : va_G} {cI cZ : ClassId} {ws : va_W} {a : Nat} {rest fs : List Value} (hx : p.tables.exec = Jvm.exec) (hb : c.code = cc) (hts : ∀ w ∈ bg, w.before args s = true) (hown : s.vm.findClass RX8 = some m.cls) (hK : va_K D vwCl (q_tys cI cZ) s) (hN : q_N s) (hP : va_P D vwCl ws H) (q0 : Nat) (he : ws[q0]? = some (a, .inr (8, fs))) {v : Value} (hv : fs[14]? = some v) (hdg : decode cc pc = .ok (.getfield 235, 3)) (kk : W p l e R s m args below meth c H locs cells slots Q (F0 m (pc + 3) ls (v :: rest))) : W p l e R s m args below meth c H locs cells slots Q (F0 m pc ls (.ref a :: rest)) :=
  va_get (C := RX8) (T := TX8) (N := 19) hx hb hts wu_X8 hown hK hP q0 he rfl 14 (by decide) (hts _ wf_X8_235) (fun _ h9 => h9) hv hdg kk
theorem gf_X8_241 {p : Program} {l : Launch} {e : Env} {R : Room} {s : State} {m : MethodId} {args : Array Value} {below : List Frame} {meth : Method} {c : Code} {H : Heap} {locs : List Loc} {cells slots : Nat} {Q : State → Prop} {pc : Nat} {ls : Array Slot} {cc : ByteArray} {D : va_G} {cI cZ : ClassId} {ws : va_W} {a : Nat} {rest fs : List Value} (hx : p.tables.exec = Jvm.exec) (hb : c.code = cc) (hts : ∀ w ∈ bg, w.before args s = true) (hown : s.vm.findClass RX8 = some m.cls) (hK : va_K D vwCl (q_tys cI cZ) s) (hN : q_N s) (hP : va_P D vwCl ws H) (q0 : Nat) (he : ws[q0]? = some (a, .inr (8, fs))) {v : Value} (hv : fs[16]? = some v) (hdg : decode cc pc = .ok (.getfield 241, 3)) (kk : W p l e R s m args below meth c H locs cells slots Q (F0 m (pc + 3) ls (v :: rest))) : W p l e R s m args below meth c H locs cells slots Q (F0 m pc ls (.ref a :: rest)) :=
  va_get (C := RX8) (T := TX8) (N := 19) hx hb hts wu_X8 hown hK hP q0 he rfl 16 (by decide) (hts _ wf_X8_241) (fun _ h9 => h9) hv hdg kk
theorem pf_X8_232 {p : Program} {l : Launch} {e : Env} {R : Room} {s : State} {m : MethodId} {args : Array Value} {below : List Frame} {meth : Method} {c : Code} {H : Heap} {locs : List Loc} {cells slots : Nat} {Q : State → Prop} {pc : Nat} {ls : Array Slot} {cc : ByteArray} {D : va_G} {cI cZ : ClassId} {ws : va_W} {A : Nat → Prop} {a : Nat} {rest fs : List Value} {x : Int32} (hx : p.tables.exec = Jvm.exec) (hb : c.code = cc) (hts : ∀ w ∈ bg, w.before args s = true) (hown : s.vm.findClass RX8 = some m.cls) (hK : va_K D vwCl (q_tys cI cZ) s) (hN : q_N s) (hP : va_P D vwCl ws H) (hD : va_D A ws) (hS : va_S A s.heap H locs) (q0 : Nat) (he : ws[q0]? = some (a, .inr (8, fs))) (hdg : decode cc pc = .ok (.putfield 232, 3)) (kk : ∀ (H1 : Heap) (locs1 : List Loc), va_P D vwCl (ws.set q0 (a, .inr (8, fs.set 13 (.int x)))) H1 → va_D A (ws.set q0 (a, .inr (8, fs.set 13 (.int x)))) → va_S A s.heap H1 locs1 → W p l e R s m args below meth c H1 locs1 cells slots Q (F0 m (pc + 3) ls rest)) (hl : 13 < fs.length := by exact Nat.le_of_ble_eq_true rfl) : W p l e R s m args below meth c H locs cells slots Q (F0 m pc ls (.int x :: .ref a :: rest)) :=
  va_put (C := RX8) (T := TX8) (N := 19) (ty := .int) hx hb hts wu_X8 tyX8 tyX8_ok nmX8 hown hK hP hD hS q0 he rfl 13 (by decide) (hts _ wf_X8_232) (fun _ h9 => h9) rfl (by decide +kernel) rfl rfl hl hdg kk
theorem pf_X8_235 {p : Program} {l : Launch} {e : Env} {R : Room} {s : State} {m : MethodId} {args : Array Value} {below : List Frame} {meth : Method} {c : Code} {H : Heap} {locs : List Loc} {cells slots : Nat} {Q : State → Prop} {pc : Nat} {ls : Array Slot} {cc : ByteArray} {D : va_G} {cI cZ : ClassId} {ws : va_W} {A : Nat → Prop} {a : Nat} {rest fs : List Value} {x : Int32} (hx : p.tables.exec = Jvm.exec) (hb : c.code = cc) (hts : ∀ w ∈ bg, w.before args s = true) (hown : s.vm.findClass RX8 = some m.cls) (hK : va_K D vwCl (q_tys cI cZ) s) (hN : q_N s) (hP : va_P D vwCl ws H) (hD : va_D A ws) (hS : va_S A s.heap H locs) (q0 : Nat) (he : ws[q0]? = some (a, .inr (8, fs))) (hdg : decode cc pc = .ok (.putfield 235, 3)) (kk : ∀ (H1 : Heap) (locs1 : List Loc), va_P D vwCl (ws.set q0 (a, .inr (8, fs.set 14 (.int x)))) H1 → va_D A (ws.set q0 (a, .inr (8, fs.set 14 (.int x)))) → va_S A s.heap H1 locs1 → W p l e R s m args below meth c H1 locs1 cells slots Q (F0 m (pc + 3) ls rest)) (hl : 14 < fs.length := by exact Nat.le_of_ble_eq_true rfl) : W p l e R s m args below meth c H locs cells slots Q (F0 m pc ls (.int x :: .ref a :: rest)) :=
  va_put (C := RX8) (T := TX8) (N := 19) (ty := .int) hx hb hts wu_X8 tyX8 tyX8_ok nmX8 hown hK hP hD hS q0 he rfl 14 (by decide) (hts _ wf_X8_235) (fun _ h9 => h9) rfl (by decide +kernel) rfl rfl hl hdg kk
theorem pf_X8_238 {p : Program} {l : Launch} {e : Env} {R : Room} {s : State} {m : MethodId} {args : Array Value} {below : List Frame} {meth : Method} {c : Code} {H : Heap} {locs : List Loc} {cells slots : Nat} {Q : State → Prop} {pc : Nat} {ls : Array Slot} {cc : ByteArray} {D : va_G} {cI cZ : ClassId} {ws : va_W} {A : Nat → Prop} {a : Nat} {rest fs : List Value} {x : Int32} (hx : p.tables.exec = Jvm.exec) (hb : c.code = cc) (hts : ∀ w ∈ bg, w.before args s = true) (hown : s.vm.findClass RX8 = some m.cls) (hK : va_K D vwCl (q_tys cI cZ) s) (hN : q_N s) (hP : va_P D vwCl ws H) (hD : va_D A ws) (hS : va_S A s.heap H locs) (q0 : Nat) (he : ws[q0]? = some (a, .inr (8, fs))) (hdg : decode cc pc = .ok (.putfield 238, 3)) (kk : ∀ (H1 : Heap) (locs1 : List Loc), va_P D vwCl (ws.set q0 (a, .inr (8, fs.set 15 (.int x)))) H1 → va_D A (ws.set q0 (a, .inr (8, fs.set 15 (.int x)))) → va_S A s.heap H1 locs1 → W p l e R s m args below meth c H1 locs1 cells slots Q (F0 m (pc + 3) ls rest)) (hl : 15 < fs.length := by exact Nat.le_of_ble_eq_true rfl) : W p l e R s m args below meth c H locs cells slots Q (F0 m pc ls (.int x :: .ref a :: rest)) :=
  va_put (C := RX8) (T := TX8) (N := 19) (ty := .int) hx hb hts wu_X8 tyX8 tyX8_ok nmX8 hown hK hP hD hS q0 he rfl 15 (by decide) (hts _ wf_X8_238) (fun _ h9 => h9) rfl (by decide +kernel) rfl rfl hl hdg kk
theorem pf_X8_241 {p : Program} {l : Launch} {e : Env} {R : Room} {s : State} {m : MethodId} {args : Array Value} {below : List Frame} {meth : Method} {c : Code} {H : Heap} {locs : List Loc} {cells slots : Nat} {Q : State → Prop} {pc : Nat} {ls : Array Slot} {cc : ByteArray} {D : va_G} {cI cZ : ClassId} {ws : va_W} {A : Nat → Prop} {a : Nat} {rest fs : List Value} {x : Int32} (hx : p.tables.exec = Jvm.exec) (hb : c.code = cc) (hts : ∀ w ∈ bg, w.before args s = true) (hown : s.vm.findClass RX8 = some m.cls) (hK : va_K D vwCl (q_tys cI cZ) s) (hN : q_N s) (hP : va_P D vwCl ws H) (hD : va_D A ws) (hS : va_S A s.heap H locs) (q0 : Nat) (he : ws[q0]? = some (a, .inr (8, fs))) (hdg : decode cc pc = .ok (.putfield 241, 3)) (kk : ∀ (H1 : Heap) (locs1 : List Loc), va_P D vwCl (ws.set q0 (a, .inr (8, fs.set 16 (.int x)))) H1 → va_D A (ws.set q0 (a, .inr (8, fs.set 16 (.int x)))) → va_S A s.heap H1 locs1 → W p l e R s m args below meth c H1 locs1 cells slots Q (F0 m (pc + 3) ls rest)) (hl : 16 < fs.length := by exact Nat.le_of_ble_eq_true rfl) : W p l e R s m args below meth c H locs cells slots Q (F0 m pc ls (.int x :: .ref a :: rest)) :=
  va_put (C := RX8) (T := TX8) (N := 19) (ty := .int) hx hb hts wu_X8 tyX8 tyX8_ok nmX8 hown hK hP hD hS q0 he rfl 16 (by decide) (hts _ wf_X8_241) (fun _ h9 => h9) rfl (by decide +kernel) rfl rfl hl hdg kk
theorem mb_X8_lookAt : q_mb yX8_lookAt cX8_lookAt 5 none 1 := ⟨wc_X8_lookAt, wn_X8, by decide, by decide, by decide +kernel⟩
theorem mv_X8_lookAt : q_mv yX8_lookAt 8 := ⟨wi_X8_lookAt, ws_X8_lookAt, _, rfl, rfl⟩
def wd_X8_lookAt (cI cZ : ClassId) (AT AT_al AT_kp AT_ik AT_rf AT_hd AT_bs AT_se AT_bf AT_te AT_by AT_an AT_vs : Nat) (vT_ab : Int64) (vT_be : Int64) (vT_byl : Int32) (vT_tka : Int32) (vT_tkl : Int32) (vT_tkn : Int32) (vT_val : Int32) (fT_by : Nat → Int32) : va_W := [(AT, .inr (8, [.ref AT_al, .ref AT_kp, .ref AT_ik, .ref AT_rf, .long vT_ab, .long vT_be, .ref AT_hd, .ref AT_bs, .ref AT_se, .ref AT_bf, .ref AT_te, .ref AT_by, .int vT_byl, .int vT_tka, .int vT_tkl, .int vT_tkn, .int vT_val, .ref AT_an, .ref AT_vs])), (AT_by, .inl (cI, 150, .inl fT_by))]
def fL_X8_lookAt_218 (p1 : Int32) (vT_byl : Int32) (fT_by : Nat → Int32) : Nat → Int32 → Int32 → Int32 → Int32 → Int32 → Option (Int32 × Int32 × Int32 × Int32)
  | 0, _, _, _, _, _ => none
  | fu + 1, x4, vT_tka, vT_tkl, vT_tkn, vT_val => if vT_tkl ≤ x4 then (if vT_tkn = 2 then (if vT_tkl ≤ 2 then (some (vT_tka, vT_tkl, vT_tkn, vT_val)) else (some (vT_tka, vT_tkl, 4, vT_val))) else (some (vT_tka, vT_tkl, vT_tkn, vT_val))) else (if 2 ≤ x4 then (if vT_tkn = 2 then (if vT_tkl ≤ 2 then (some (vT_tka, vT_tkl, vT_tkn, vT_val)) else (some (vT_tka, vT_tkl, 4, vT_val))) else (some (vT_tka, vT_tkl, vT_tkn, vT_val))) else (if vT_tkn = 2 then (gd (vT_tka + x4) 150 (fL_X8_lookAt_218 p1 vT_byl fT_by fu (x4 + 1) vT_tka vT_tkl vT_tkn (((10 * vT_val) + (fT_by (Int32.toNatClampNeg (vT_tka + x4)))) - 48))) else (some (vT_tka, vT_tkl, vT_tkn, vT_val))))
def fL_X8_lookAt_136 (p1 : Int32) (vT_byl : Int32) (fT_by : Nat → Int32) : Nat → Int32 → Int32 → Int32 → Int32 → Int32 → Option (Int32 × Int32 × Int32 × Int32)
  | 0, _, _, _, _, _ => none
  | fu + 1, x3, vT_tka, vT_tkl, vT_tkn, vT_val => if x3 = 0 then (fL_X8_lookAt_218 p1 vT_byl fT_by FU 0 vT_tka vT_tkl vT_tkn vT_val) else (if vT_byl ≤ (vT_tka + vT_tkl) then (fL_X8_lookAt_218 p1 vT_byl fT_by FU 0 vT_tka vT_tkl vT_tkn vT_val) else (gd (vT_tka + vT_tkl) 150 (if vT_tkn = 1 then (Option.bind (fm_X8_isSmall (fT_by (Int32.toNatClampNeg (vT_tka + vT_tkl)))) (fun r_182 => if r_182 = 0 then (fL_X8_lookAt_136 p1 vT_byl fT_by fu r_182 vT_tka (vT_tkl + 0) vT_tkn vT_val) else (fL_X8_lookAt_136 p1 vT_byl fT_by fu r_182 vT_tka (vT_tkl + 1) vT_tkn vT_val))) else (Option.bind (fm_X8_isFigure (fT_by (Int32.toNatClampNeg (vT_tka + vT_tkl)))) (fun r_190 => if r_190 = 0 then (fL_X8_lookAt_136 p1 vT_byl fT_by fu r_190 vT_tka (vT_tkl + 0) vT_tkn vT_val) else (fL_X8_lookAt_136 p1 vT_byl fT_by fu r_190 vT_tka (vT_tkl + 1) vT_tkn vT_val))))))
def fL_X8_lookAt_5 (p1 : Int32) (vT_byl : Int32) (fT_by : Nat → Int32) : Nat → Int32 → Int32 → Int32 → Int32 → Option (Int32 × Int32 × Int32 × Int32)
  | 0, _, _, _, _ => none
  | fu + 1, vT_tka, vT_tkl, vT_tkn, vT_val => if vT_byl ≤ vT_tka then (if vT_tka = vT_byl then (some (vT_tka, 0, 0, 0)) else (gd vT_tka 150 (Option.bind (fm_X8_isSmall (fT_by (Int32.toNatClampNeg vT_tka))) (fun r_82 => if r_82 = 0 then (Option.bind (fm_X8_isFigure (fT_by (Int32.toNatClampNeg vT_tka))) (fun r_93 => if r_93 = 0 then (if (fT_by (Int32.toNatClampNeg vT_tka)) = 59 then (fL_X8_lookAt_136 p1 vT_byl fT_by FU 0 vT_tka 1 3 0) else (fL_X8_lookAt_136 p1 vT_byl fT_by FU 0 vT_tka 1 4 0)) else (fL_X8_lookAt_136 p1 vT_byl fT_by FU 1 vT_tka 1 2 0))) else (fL_X8_lookAt_136 p1 vT_byl fT_by FU 1 vT_tka 1 1 0))))) else (gd vT_tka 150 (if (fT_by (Int32.toNatClampNeg vT_tka)) = 32 then (fL_X8_lookAt_5 p1 vT_byl fT_by fu (vT_tka + 1) vT_tkl vT_tkn vT_val) else (if vT_tka = vT_byl then (some (vT_tka, 0, 0, 0)) else (Option.bind (fm_X8_isSmall (fT_by (Int32.toNatClampNeg vT_tka))) (fun r_82 => if r_82 = 0 then (Option.bind (fm_X8_isFigure (fT_by (Int32.toNatClampNeg vT_tka))) (fun r_93 => if r_93 = 0 then (if (fT_by (Int32.toNatClampNeg vT_tka)) = 59 then (fL_X8_lookAt_136 p1 vT_byl fT_by FU 0 vT_tka 1 3 0) else (fL_X8_lookAt_136 p1 vT_byl fT_by FU 0 vT_tka 1 4 0)) else (fL_X8_lookAt_136 p1 vT_byl fT_by FU 1 vT_tka 1 2 0))) else (fL_X8_lookAt_136 p1 vT_byl fT_by FU 1 vT_tka 1 1 0))))))
def fm_X8_lookAt (p1 : Int32) (vT_byl : Int32) (vT_tka : Int32) (vT_tkl : Int32) (vT_tkn : Int32) (vT_val : Int32) (fT_by : Nat → Int32) : Option (Int32 × Int32 × Int32 × Int32) := fL_X8_lookAt_5 p1 vT_byl fT_by FU p1 vT_tkl vT_tkn vT_val
set_option maxHeartbeats 4000000 in
set_option maxRecDepth 100000 in
theorem c_X8_lookAt (l : Launch) (D : va_G) (cI cZ : ClassId) (sz : Nat) (AT AT_al AT_kp AT_ik AT_rf AT_hd AT_bs AT_se AT_bf AT_te AT_by AT_an AT_vs : Nat) (vT_ab : Int64) (vT_be : Int64) (vT_byl : Int32) (vT_tka : Int32) (vT_tkl : Int32) (vT_tkn : Int32) (vT_val : Int32) (fT_by : Nat → Int32) (p1 : Int32) (out : (Int32 × Int32 × Int32 × Int32)) (hm : fm_X8_lookAt p1 vT_byl vT_tka vT_tkl vT_tkn vT_val fT_by = some out) : Met l yX8_lookAt (Cond.code yX8_lookAt cX8_lookAt 5 none :: bg) { frames := 2, cells := 0, slots := 0, locals := 45 } (va_Pc [.ref AT, .int p1] (q_pre D cI cZ sz (wd_X8_lookAt cI cZ AT AT_al AT_kp AT_ik AT_rf AT_hd AT_bs AT_se AT_bf AT_te AT_by AT_an AT_vs vT_ab vT_be vT_byl vT_tka vT_tkl vT_tkn vT_val fT_by))) (q_Qv D (wd_X8_lookAt cI cZ AT AT_al AT_kp AT_ik AT_rf AT_hd AT_bs AT_se AT_bf AT_te AT_by AT_an AT_vs vT_ab vT_be vT_byl out.1 out.2.1 out.2.2.1 out.2.2.2 fT_by) (va_A (wd_X8_lookAt cI cZ AT AT_al AT_kp AT_ik AT_rf AT_hd AT_bs AT_se AT_bf AT_te AT_by AT_an AT_vs vT_ab vT_be vT_byl vT_tka vT_tkl vT_tkn vT_val fT_by) sz)) 0 0 (va_A (wd_X8_lookAt cI cZ AT AT_al AT_kp AT_ik AT_rf AT_hd AT_bs AT_se AT_bf AT_te AT_by AT_an AT_vs vT_ab vT_be vT_byl vT_tka vT_tkl vT_tkn vT_val fT_by) sz) := by
  refine q_met (fun A => q_Qv D (wd_X8_lookAt cI cZ AT AT_al AT_kp AT_ik AT_rf AT_hd AT_bs AT_se AT_bf AT_te AT_by AT_an AT_vs vT_ab vT_be vT_byl out.1 out.2.1 out.2.2.1 out.2.2.2 fT_by) A) (by decide) (Nat.le_of_ble_eq_true rfl) ?_
  intro p e s m below meth c ls A hx hb hr hml hown hts hlocks _ hA hS hP hD hK hN hl
  have hown : s.vm.findClass RX8 = some m.cls := hown
  have hl : lv_has ls 5 [(0, .ref AT), (1, .int p1)] := hl
  have hL_218 : ∀ (fu_218 : Nat) (x4 : Int32) (vT_tka : Int32) (vT_tkl : Int32) (vT_tkn : Int32) (vT_val : Int32) (H : Heap) (locs : List Loc) (ls : Array Slot), fL_X8_lookAt_218 p1 vT_byl fT_by fu_218 x4 vT_tka vT_tkl vT_tkn vT_val = some out → va_P D vwCl (wd_X8_lookAt cI cZ AT AT_al AT_kp AT_ik AT_rf AT_hd AT_bs AT_se AT_bf AT_te AT_by AT_an AT_vs vT_ab vT_be vT_byl vT_tka vT_tkl vT_tkn vT_val fT_by) H → va_D A (wd_X8_lookAt cI cZ AT AT_al AT_kp AT_ik AT_rf AT_hd AT_bs AT_se AT_bf AT_te AT_by AT_an AT_vs vT_ab vT_be vT_byl vT_tka vT_tkl vT_tkn vT_val fT_by) → va_S A s.heap H locs → lv_has ls 5 [(4, .int x4), (0, .ref AT)] → W p l e { frames := 2, cells := 0, slots := 0, locals := 45 } s m ([.ref AT, .int p1] : List Value).toArray below meth c H locs 0 0 (MQ below (q_Qv D (wd_X8_lookAt cI cZ AT AT_al AT_kp AT_ik AT_rf AT_hd AT_bs AT_se AT_bf AT_te AT_by AT_an AT_vs vT_ab vT_be vT_byl out.1 out.2.1 out.2.2.1 out.2.2.2 fT_by) A) ([.ref AT, .int p1] : List Value).toArray s 0 0 A) (F0 m 218 ls []) := by
    intro fu_218
    induction fu_218 with
    | zero => intro x4 vT_tka vT_tkl vT_tkn vT_val H locs ls hm hP hD hS hl; exact absurd (show (none : Option (Int32 × Int32 × Int32 × Int32)) = some out from hm) (fun h => nomatch h)
    | succ fu_218 ih_218 =>
      intro x4 vT_tka vT_tkl vT_tkn vT_val H locs ls hm hP hD hS hl
      rw [fL_X8_lookAt_218] at hm
      refine lv_iload hx hb dX8_lookAt_218 (lv_at hl 0 rfl) ?_
      refine lv_aload_n hx hb dX8_lookAt_220 rfl (lv_at hl 1 rfl) ?_
      refine gf_X8_235 (v := .int vT_tkl) hx hb hts hown hK hN hP 0 rfl rfl dX8_lookAt_221 ?_
      refine lv_icmp_ge (tgt := 274) hx hb dX8_lookAt_224 (by decide) (fun c_224 => ?_) (fun c_224 => ?_)
      · have hm := it_s c_224 hm
        refine lv_aload_n hx hb dX8_lookAt_274 rfl (lv_at hl 1 rfl) ?_
        refine lv_aload_n hx hb dX8_lookAt_275 rfl (lv_at hl 1 rfl) ?_
        refine gf_X8_238 (v := .int vT_tkn) hx hb hts hown hK hN hP 0 rfl rfl dX8_lookAt_276 ?_
        refine lv_iconst (v := 2) hx hb dX8_lookAt_279 (by decide) ?_
        refine lv_icmp_ne (tgt := 295) hx hb dX8_lookAt_280 (by decide) (fun c_280 => ?_) (fun c_280 => ?_)
        · have hm := it_n c_280 hm
          refine lv_aload_n hx hb dX8_lookAt_295 rfl (lv_at hl 1 rfl) ?_
          refine gf_X8_238 (v := .int vT_tkn) hx hb hts hown hK hN hP 0 rfl rfl dX8_lookAt_296 ?_
          refine pf_X8_238 hx hb hts hown hK hN hP hD hS 0 rfl dX8_lookAt_299 (fun H locs hP hD hS => ?_)
          have hP : va_P D vwCl (wd_X8_lookAt cI cZ AT AT_al AT_kp AT_ik AT_rf AT_hd AT_bs AT_se AT_bf AT_te AT_by AT_an AT_vs vT_ab vT_be vT_byl vT_tka vT_tkl vT_tkn vT_val fT_by) H := hP
          have hD : va_D A (wd_X8_lookAt cI cZ AT AT_al AT_kp AT_ik AT_rf AT_hd AT_bs AT_se AT_bf AT_te AT_by AT_an AT_vs vT_ab vT_be vT_byl vT_tka vT_tkl vT_tkn vT_val fT_by) := hD
          have hm := Option.some.inj hm
          subst hm
          exact q_vret hx hb hr hlocks hP hS dX8_lookAt_302
        · have hm := it_s c_280 hm
          refine lv_aload_n hx hb dX8_lookAt_283 rfl (lv_at hl 1 rfl) ?_
          refine gf_X8_235 (v := .int vT_tkl) hx hb hts hown hK hN hP 0 rfl rfl dX8_lookAt_284 ?_
          refine lv_iconst (v := 2) hx hb dX8_lookAt_287 (by decide) ?_
          refine lv_icmp_le (tgt := 295) hx hb dX8_lookAt_288 (by decide) (fun c_288 => ?_) (fun c_288 => ?_)
          · have hm := it_s c_288 hm
            refine lv_aload_n hx hb dX8_lookAt_295 rfl (lv_at hl 1 rfl) ?_
            refine gf_X8_238 (v := .int vT_tkn) hx hb hts hown hK hN hP 0 rfl rfl dX8_lookAt_296 ?_
            refine pf_X8_238 hx hb hts hown hK hN hP hD hS 0 rfl dX8_lookAt_299 (fun H locs hP hD hS => ?_)
            have hP : va_P D vwCl (wd_X8_lookAt cI cZ AT AT_al AT_kp AT_ik AT_rf AT_hd AT_bs AT_se AT_bf AT_te AT_by AT_an AT_vs vT_ab vT_be vT_byl vT_tka vT_tkl vT_tkn vT_val fT_by) H := hP
            have hD : va_D A (wd_X8_lookAt cI cZ AT AT_al AT_kp AT_ik AT_rf AT_hd AT_bs AT_se AT_bf AT_te AT_by AT_an AT_vs vT_ab vT_be vT_byl vT_tka vT_tkl vT_tkn vT_val fT_by) := hD
            have hm := Option.some.inj hm
            subst hm
            exact q_vret hx hb hr hlocks hP hS dX8_lookAt_302
          · have hm := it_n c_288 hm
            refine lv_iconst (v := 4) hx hb dX8_lookAt_291 (by decide) ?_
            refine lv_goto (tgt := 299) hx hb dX8_lookAt_292 (by decide) ?_
            refine pf_X8_238 hx hb hts hown hK hN hP hD hS 0 rfl dX8_lookAt_299 (fun H locs hP hD hS => ?_)
            have hP : va_P D vwCl (wd_X8_lookAt cI cZ AT AT_al AT_kp AT_ik AT_rf AT_hd AT_bs AT_se AT_bf AT_te AT_by AT_an AT_vs vT_ab vT_be vT_byl vT_tka vT_tkl 4 vT_val fT_by) H := hP
            have hD : va_D A (wd_X8_lookAt cI cZ AT AT_al AT_kp AT_ik AT_rf AT_hd AT_bs AT_se AT_bf AT_te AT_by AT_an AT_vs vT_ab vT_be vT_byl vT_tka vT_tkl 4 vT_val fT_by) := hD
            have hm := Option.some.inj hm
            subst hm
            exact q_vret hx hb hr hlocks hP hS dX8_lookAt_302
      · have hm := it_n c_224 hm
        refine lv_iload hx hb dX8_lookAt_227 (lv_at hl 0 rfl) ?_
        refine lv_iconst (v := 2) hx hb dX8_lookAt_229 (by decide) ?_
        refine lv_icmp_ge (tgt := 274) hx hb dX8_lookAt_230 (by decide) (fun c_230 => ?_) (fun c_230 => ?_)
        · have hm := it_s c_230 hm
          refine lv_aload_n hx hb dX8_lookAt_274 rfl (lv_at hl 1 rfl) ?_
          refine lv_aload_n hx hb dX8_lookAt_275 rfl (lv_at hl 1 rfl) ?_
          refine gf_X8_238 (v := .int vT_tkn) hx hb hts hown hK hN hP 0 rfl rfl dX8_lookAt_276 ?_
          refine lv_iconst (v := 2) hx hb dX8_lookAt_279 (by decide) ?_
          refine lv_icmp_ne (tgt := 295) hx hb dX8_lookAt_280 (by decide) (fun c_280 => ?_) (fun c_280 => ?_)
          · have hm := it_n c_280 hm
            refine lv_aload_n hx hb dX8_lookAt_295 rfl (lv_at hl 1 rfl) ?_
            refine gf_X8_238 (v := .int vT_tkn) hx hb hts hown hK hN hP 0 rfl rfl dX8_lookAt_296 ?_
            refine pf_X8_238 hx hb hts hown hK hN hP hD hS 0 rfl dX8_lookAt_299 (fun H locs hP hD hS => ?_)
            have hP : va_P D vwCl (wd_X8_lookAt cI cZ AT AT_al AT_kp AT_ik AT_rf AT_hd AT_bs AT_se AT_bf AT_te AT_by AT_an AT_vs vT_ab vT_be vT_byl vT_tka vT_tkl vT_tkn vT_val fT_by) H := hP
            have hD : va_D A (wd_X8_lookAt cI cZ AT AT_al AT_kp AT_ik AT_rf AT_hd AT_bs AT_se AT_bf AT_te AT_by AT_an AT_vs vT_ab vT_be vT_byl vT_tka vT_tkl vT_tkn vT_val fT_by) := hD
            have hm := Option.some.inj hm
            subst hm
            exact q_vret hx hb hr hlocks hP hS dX8_lookAt_302
          · have hm := it_s c_280 hm
            refine lv_aload_n hx hb dX8_lookAt_283 rfl (lv_at hl 1 rfl) ?_
            refine gf_X8_235 (v := .int vT_tkl) hx hb hts hown hK hN hP 0 rfl rfl dX8_lookAt_284 ?_
            refine lv_iconst (v := 2) hx hb dX8_lookAt_287 (by decide) ?_
            refine lv_icmp_le (tgt := 295) hx hb dX8_lookAt_288 (by decide) (fun c_288 => ?_) (fun c_288 => ?_)
            · have hm := it_s c_288 hm
              refine lv_aload_n hx hb dX8_lookAt_295 rfl (lv_at hl 1 rfl) ?_
              refine gf_X8_238 (v := .int vT_tkn) hx hb hts hown hK hN hP 0 rfl rfl dX8_lookAt_296 ?_
              refine pf_X8_238 hx hb hts hown hK hN hP hD hS 0 rfl dX8_lookAt_299 (fun H locs hP hD hS => ?_)
              have hP : va_P D vwCl (wd_X8_lookAt cI cZ AT AT_al AT_kp AT_ik AT_rf AT_hd AT_bs AT_se AT_bf AT_te AT_by AT_an AT_vs vT_ab vT_be vT_byl vT_tka vT_tkl vT_tkn vT_val fT_by) H := hP
              have hD : va_D A (wd_X8_lookAt cI cZ AT AT_al AT_kp AT_ik AT_rf AT_hd AT_bs AT_se AT_bf AT_te AT_by AT_an AT_vs vT_ab vT_be vT_byl vT_tka vT_tkl vT_tkn vT_val fT_by) := hD
              have hm := Option.some.inj hm
              subst hm
              exact q_vret hx hb hr hlocks hP hS dX8_lookAt_302
            · have hm := it_n c_288 hm
              refine lv_iconst (v := 4) hx hb dX8_lookAt_291 (by decide) ?_
              refine lv_goto (tgt := 299) hx hb dX8_lookAt_292 (by decide) ?_
              refine pf_X8_238 hx hb hts hown hK hN hP hD hS 0 rfl dX8_lookAt_299 (fun H locs hP hD hS => ?_)
              have hP : va_P D vwCl (wd_X8_lookAt cI cZ AT AT_al AT_kp AT_ik AT_rf AT_hd AT_bs AT_se AT_bf AT_te AT_by AT_an AT_vs vT_ab vT_be vT_byl vT_tka vT_tkl 4 vT_val fT_by) H := hP
              have hD : va_D A (wd_X8_lookAt cI cZ AT AT_al AT_kp AT_ik AT_rf AT_hd AT_bs AT_se AT_bf AT_te AT_by AT_an AT_vs vT_ab vT_be vT_byl vT_tka vT_tkl 4 vT_val fT_by) := hD
              have hm := Option.some.inj hm
              subst hm
              exact q_vret hx hb hr hlocks hP hS dX8_lookAt_302
        · have hm := it_n c_230 hm
          refine lv_aload_n hx hb dX8_lookAt_233 rfl (lv_at hl 1 rfl) ?_
          refine gf_X8_238 (v := .int vT_tkn) hx hb hts hown hK hN hP 0 rfl rfl dX8_lookAt_234 ?_
          refine lv_iconst (v := 2) hx hb dX8_lookAt_237 (by decide) ?_
          refine lv_icmp_ne (tgt := 274) hx hb dX8_lookAt_238 (by decide) (fun c_238 => ?_) (fun c_238 => ?_)
          · have hm := it_n c_238 hm
            refine lv_aload_n hx hb dX8_lookAt_274 rfl (lv_at hl 1 rfl) ?_
            refine lv_aload_n hx hb dX8_lookAt_275 rfl (lv_at hl 1 rfl) ?_
            refine gf_X8_238 (v := .int vT_tkn) hx hb hts hown hK hN hP 0 rfl rfl dX8_lookAt_276 ?_
            refine lv_iconst (v := 2) hx hb dX8_lookAt_279 (by decide) ?_
            refine lv_icmp_ne (tgt := 295) hx hb dX8_lookAt_280 (by decide) (fun _ => ?_) (fun c => absurd c c_238)
            refine lv_aload_n hx hb dX8_lookAt_295 rfl (lv_at hl 1 rfl) ?_
            refine gf_X8_238 (v := .int vT_tkn) hx hb hts hown hK hN hP 0 rfl rfl dX8_lookAt_296 ?_
            refine pf_X8_238 hx hb hts hown hK hN hP hD hS 0 rfl dX8_lookAt_299 (fun H locs hP hD hS => ?_)
            have hP : va_P D vwCl (wd_X8_lookAt cI cZ AT AT_al AT_kp AT_ik AT_rf AT_hd AT_bs AT_se AT_bf AT_te AT_by AT_an AT_vs vT_ab vT_be vT_byl vT_tka vT_tkl vT_tkn vT_val fT_by) H := hP
            have hD : va_D A (wd_X8_lookAt cI cZ AT AT_al AT_kp AT_ik AT_rf AT_hd AT_bs AT_se AT_bf AT_te AT_by AT_an AT_vs vT_ab vT_be vT_byl vT_tka vT_tkl vT_tkn vT_val fT_by) := hD
            have hm := Option.some.inj hm
            subst hm
            exact q_vret hx hb hr hlocks hP hS dX8_lookAt_302
          · have hm := it_s c_238 hm
            refine lv_aload_n hx hb dX8_lookAt_241 rfl (lv_at hl 1 rfl) ?_
            refine lv_bipush (v := 10) hx hb dX8_lookAt_242 (by decide) ?_
            refine lv_aload_n hx hb dX8_lookAt_244 rfl (lv_at hl 1 rfl) ?_
            refine gf_X8_241 (v := .int vT_val) hx hb hts hown hK hN hP 0 rfl rfl dX8_lookAt_245 ?_
            refine lv_imul hx hb dX8_lookAt_248 ?_
            refine lv_aload_n hx hb dX8_lookAt_249 rfl (lv_at hl 1 rfl) ?_
            refine gf_X8_42 (v := .ref AT_by) hx hb hts hown hK hN hP 0 rfl rfl dX8_lookAt_250 ?_
            refine lv_aload_n hx hb dX8_lookAt_253 rfl (lv_at hl 1 rfl) ?_
            refine gf_X8_232 (v := .int vT_tka) hx hb hts hown hK hN hP 0 rfl rfl dX8_lookAt_254 ?_
            refine lv_iload hx hb dX8_lookAt_257 (lv_at hl 0 rfl) ?_
            refine lv_iadd hx hb dX8_lookAt_259 ?_
            obtain ⟨hi_260, hm⟩ := gd_s hm
            refine q_iald (j := (Int32.toNatClampNeg (vT_tka + x4))) hx hb hK hP 1 rfl hi_260 rfl dX8_lookAt_260 ?_
            refine lv_iadd hx hb dX8_lookAt_261 ?_
            refine lv_bipush (v := 48) hx hb dX8_lookAt_262 (by decide) ?_
            refine lv_isub hx hb dX8_lookAt_264 ?_
            refine pf_X8_241 hx hb hts hown hK hN hP hD hS 0 rfl dX8_lookAt_265 (fun H locs hP hD hS => ?_)
            have hP : va_P D vwCl (wd_X8_lookAt cI cZ AT AT_al AT_kp AT_ik AT_rf AT_hd AT_bs AT_se AT_bf AT_te AT_by AT_an AT_vs vT_ab vT_be vT_byl vT_tka vT_tkl vT_tkn (((10 * vT_val) + (fT_by (Int32.toNatClampNeg (vT_tka + x4)))) - 48) fT_by) H := hP
            have hD : va_D A (wd_X8_lookAt cI cZ AT AT_al AT_kp AT_ik AT_rf AT_hd AT_bs AT_se AT_bf AT_te AT_by AT_an AT_vs vT_ab vT_be vT_byl vT_tka vT_tkl vT_tkn (((10 * vT_val) + (fT_by (Int32.toNatClampNeg (vT_tka + x4)))) - 48) fT_by) := hD
            refine lv_iinc (v := (x4 + 1)) (lv' := [(4, .int (x4 + 1)), (0, .ref AT)]) hx hb dX8_lookAt_268 hl (k := 0) rfl rfl (by decide) rfl (fun ls hl => ?_)
            refine lv_goto (tgt := 218) hx hb dX8_lookAt_271 (by decide) ?_
            exact ih_218 (x4 + 1) vT_tka vT_tkl vT_tkn (((10 * vT_val) + (fT_by (Int32.toNatClampNeg (vT_tka + x4)))) - 48) H locs ls hm hP hD hS (lv_sub hl [0, 1] rfl)
  have hL_136 : ∀ (fu_136 : Nat) (x3 : Int32) (vT_tka : Int32) (vT_tkl : Int32) (vT_tkn : Int32) (vT_val : Int32) (H : Heap) (locs : List Loc) (ls : Array Slot), fL_X8_lookAt_136 p1 vT_byl fT_by fu_136 x3 vT_tka vT_tkl vT_tkn vT_val = some out → va_P D vwCl (wd_X8_lookAt cI cZ AT AT_al AT_kp AT_ik AT_rf AT_hd AT_bs AT_se AT_bf AT_te AT_by AT_an AT_vs vT_ab vT_be vT_byl vT_tka vT_tkl vT_tkn vT_val fT_by) H → va_D A (wd_X8_lookAt cI cZ AT AT_al AT_kp AT_ik AT_rf AT_hd AT_bs AT_se AT_bf AT_te AT_by AT_an AT_vs vT_ab vT_be vT_byl vT_tka vT_tkl vT_tkn vT_val fT_by) → va_S A s.heap H locs → lv_has ls 5 [(3, .int x3), (0, .ref AT)] → W p l e { frames := 2, cells := 0, slots := 0, locals := 45 } s m ([.ref AT, .int p1] : List Value).toArray below meth c H locs 0 0 (MQ below (q_Qv D (wd_X8_lookAt cI cZ AT AT_al AT_kp AT_ik AT_rf AT_hd AT_bs AT_se AT_bf AT_te AT_by AT_an AT_vs vT_ab vT_be vT_byl out.1 out.2.1 out.2.2.1 out.2.2.2 fT_by) A) ([.ref AT, .int p1] : List Value).toArray s 0 0 A) (F0 m 136 ls []) := by
    intro fu_136
    induction fu_136 with
    | zero => intro x3 vT_tka vT_tkl vT_tkn vT_val H locs ls hm hP hD hS hl; exact absurd (show (none : Option (Int32 × Int32 × Int32 × Int32)) = some out from hm) (fun h => nomatch h)
    | succ fu_136 ih_136 =>
      intro x3 vT_tka vT_tkl vT_tkn vT_val H locs ls hm hP hD hS hl
      rw [fL_X8_lookAt_136] at hm
      refine lv_iload_n hx hb dX8_lookAt_136 rfl (lv_at hl 0 rfl) ?_
      refine lv_if_eq (tgt := 215) hx hb dX8_lookAt_137 (by decide) (fun c_137 => ?_) (fun c_137 => ?_)
      · have hm := it_s c_137 hm
        refine lv_iconst (v := 0) hx hb dX8_lookAt_215 (by decide) ?_
        refine lv_istore (lv' := [(4, .int 0), (3, .int x3), (0, .ref AT)]) hx hb dX8_lookAt_216 hl (by decide) rfl (fun ls hl => ?_)
        exact hL_218 FU 0 vT_tka vT_tkl vT_tkn vT_val H locs ls hm hP hD hS (lv_sub hl [0, 2] rfl)
      · have hm := it_n c_137 hm
        refine lv_aload_n hx hb dX8_lookAt_140 rfl (lv_at hl 1 rfl) ?_
        refine gf_X8_232 (v := .int vT_tka) hx hb hts hown hK hN hP 0 rfl rfl dX8_lookAt_141 ?_
        refine lv_aload_n hx hb dX8_lookAt_144 rfl (lv_at hl 1 rfl) ?_
        refine gf_X8_235 (v := .int vT_tkl) hx hb hts hown hK hN hP 0 rfl rfl dX8_lookAt_145 ?_
        refine lv_iadd hx hb dX8_lookAt_148 ?_
        refine lv_aload_n hx hb dX8_lookAt_149 rfl (lv_at hl 1 rfl) ?_
        refine gf_X8_220 (v := .int vT_byl) hx hb hts hown hK hN hP 0 rfl rfl dX8_lookAt_150 ?_
        refine lv_icmp_ge (tgt := 215) hx hb dX8_lookAt_153 (by decide) (fun c_153 => ?_) (fun c_153 => ?_)
        · have hm := it_s c_153 hm
          refine lv_iconst (v := 0) hx hb dX8_lookAt_215 (by decide) ?_
          refine lv_istore (lv' := [(4, .int 0), (3, .int x3), (0, .ref AT)]) hx hb dX8_lookAt_216 hl (by decide) rfl (fun ls hl => ?_)
          exact hL_218 FU 0 vT_tka vT_tkl vT_tkn vT_val H locs ls hm hP hD hS (lv_sub hl [0, 2] rfl)
        · have hm := it_n c_153 hm
          refine lv_aload_n hx hb dX8_lookAt_156 rfl (lv_at hl 1 rfl) ?_
          refine gf_X8_42 (v := .ref AT_by) hx hb hts hown hK hN hP 0 rfl rfl dX8_lookAt_157 ?_
          refine lv_aload_n hx hb dX8_lookAt_160 rfl (lv_at hl 1 rfl) ?_
          refine gf_X8_232 (v := .int vT_tka) hx hb hts hown hK hN hP 0 rfl rfl dX8_lookAt_161 ?_
          refine lv_aload_n hx hb dX8_lookAt_164 rfl (lv_at hl 1 rfl) ?_
          refine gf_X8_235 (v := .int vT_tkl) hx hb hts hown hK hN hP 0 rfl rfl dX8_lookAt_165 ?_
          refine lv_iadd hx hb dX8_lookAt_168 ?_
          obtain ⟨hi_169, hm⟩ := gd_s hm
          refine q_iald (j := (Int32.toNatClampNeg (vT_tka + vT_tkl))) hx hb hK hP 1 rfl hi_169 rfl dX8_lookAt_169 ?_
          refine lv_istore (lv' := [(4, .int (fT_by (Int32.toNatClampNeg (vT_tka + vT_tkl)))), (3, .int x3), (0, .ref AT)]) hx hb dX8_lookAt_170 hl (by decide) rfl (fun ls hl => ?_)
          refine lv_aload_n hx hb dX8_lookAt_172 rfl (lv_at hl 2 rfl) ?_
          refine gf_X8_238 (v := .int vT_tkn) hx hb hts hown hK hN hP 0 rfl rfl dX8_lookAt_173 ?_
          refine lv_iconst (v := 1) hx hb dX8_lookAt_176 (by decide) ?_
          refine lv_icmp_ne (tgt := 188) hx hb dX8_lookAt_177 (by decide) (fun c_177 => ?_) (fun c_177 => ?_)
          · have hm := it_n c_177 hm
            refine lv_iload hx hb dX8_lookAt_188 (lv_at hl 0 rfl) ?_
            obtain ⟨r_190, hc_190, hm⟩ := ob_s hm
            refine q_ci (q_rs (rest := []) ⟨hx, hb, hml, hown, hts⟩ hK hN hP hD (c_X8_isFigure l D cI cZ H.size (fT_by (Int32.toNatClampNeg (vT_tka + vT_tkl))) r_190 hc_190) mb_X8_isFigure wt_X8_isFigure wl_X8_247 [] rfl rfl (Nat.le_of_ble_eq_true rfl) (Nat.le_of_ble_eq_true rfl) rfl hl.1 rfl (Nat.le_of_ble_eq_true rfl) ⟨Nat.le_refl 0, Nat.le_refl 0⟩ dX8_lookAt_190) hP hD hS hA [] rfl rfl (fun H locs hP hD hS => ?_)
            have hP : va_P D vwCl (wd_X8_lookAt cI cZ AT AT_al AT_kp AT_ik AT_rf AT_hd AT_bs AT_se AT_bf AT_te AT_by AT_an AT_vs vT_ab vT_be vT_byl vT_tka vT_tkl vT_tkn vT_val fT_by) H := hP
            have hD : va_D A (wd_X8_lookAt cI cZ AT AT_al AT_kp AT_ik AT_rf AT_hd AT_bs AT_se AT_bf AT_te AT_by AT_an AT_vs vT_ab vT_be vT_byl vT_tka vT_tkl vT_tkn vT_val fT_by) := hD
            refine lv_istore_n (lv' := [(3, .int r_190), (4, .int (fT_by (Int32.toNatClampNeg (vT_tka + vT_tkl)))), (0, .ref AT)]) hx hb dX8_lookAt_193 rfl hl (by decide) rfl (fun ls hl => ?_)
            refine lv_aload_n hx hb dX8_lookAt_194 rfl (lv_at hl 2 rfl) ?_
            refine lv_dup hx hb dX8_lookAt_195 rfl ?_
            refine gf_X8_235 (v := .int vT_tkl) hx hb hts hown hK hN hP 0 rfl rfl dX8_lookAt_196 ?_
            refine lv_iload_n hx hb dX8_lookAt_199 rfl (lv_at hl 0 rfl) ?_
            refine lv_if_eq (tgt := 207) hx hb dX8_lookAt_200 (by decide) (fun c_200 => ?_) (fun c_200 => ?_)
            · have hm := it_s c_200 hm
              refine lv_iconst (v := 0) hx hb dX8_lookAt_207 (by decide) ?_
              refine lv_iadd hx hb dX8_lookAt_208 ?_
              refine pf_X8_235 hx hb hts hown hK hN hP hD hS 0 rfl dX8_lookAt_209 (fun H locs hP hD hS => ?_)
              have hP : va_P D vwCl (wd_X8_lookAt cI cZ AT AT_al AT_kp AT_ik AT_rf AT_hd AT_bs AT_se AT_bf AT_te AT_by AT_an AT_vs vT_ab vT_be vT_byl vT_tka (vT_tkl + 0) vT_tkn vT_val fT_by) H := hP
              have hD : va_D A (wd_X8_lookAt cI cZ AT AT_al AT_kp AT_ik AT_rf AT_hd AT_bs AT_se AT_bf AT_te AT_by AT_an AT_vs vT_ab vT_be vT_byl vT_tka (vT_tkl + 0) vT_tkn vT_val fT_by) := hD
              refine lv_goto (tgt := 136) hx hb dX8_lookAt_212 (by decide) ?_
              exact ih_136 r_190 vT_tka (vT_tkl + 0) vT_tkn vT_val H locs ls hm hP hD hS (lv_sub hl [0, 2] rfl)
            · have hm := it_n c_200 hm
              refine lv_iconst (v := 1) hx hb dX8_lookAt_203 (by decide) ?_
              refine lv_goto (tgt := 208) hx hb dX8_lookAt_204 (by decide) ?_
              refine lv_iadd hx hb dX8_lookAt_208 ?_
              refine pf_X8_235 hx hb hts hown hK hN hP hD hS 0 rfl dX8_lookAt_209 (fun H locs hP hD hS => ?_)
              have hP : va_P D vwCl (wd_X8_lookAt cI cZ AT AT_al AT_kp AT_ik AT_rf AT_hd AT_bs AT_se AT_bf AT_te AT_by AT_an AT_vs vT_ab vT_be vT_byl vT_tka (vT_tkl + 1) vT_tkn vT_val fT_by) H := hP
              have hD : va_D A (wd_X8_lookAt cI cZ AT AT_al AT_kp AT_ik AT_rf AT_hd AT_bs AT_se AT_bf AT_te AT_by AT_an AT_vs vT_ab vT_be vT_byl vT_tka (vT_tkl + 1) vT_tkn vT_val fT_by) := hD
              refine lv_goto (tgt := 136) hx hb dX8_lookAt_212 (by decide) ?_
              exact ih_136 r_190 vT_tka (vT_tkl + 1) vT_tkn vT_val H locs ls hm hP hD hS (lv_sub hl [0, 2] rfl)
          · have hm := it_s c_177 hm
            refine lv_iload hx hb dX8_lookAt_180 (lv_at hl 0 rfl) ?_
            obtain ⟨r_182, hc_182, hm⟩ := ob_s hm
            refine q_ci (q_rs (rest := []) ⟨hx, hb, hml, hown, hts⟩ hK hN hP hD (c_X8_isSmall l D cI cZ H.size (fT_by (Int32.toNatClampNeg (vT_tka + vT_tkl))) r_182 hc_182) mb_X8_isSmall wt_X8_isSmall wl_X8_244 [] rfl rfl (Nat.le_of_ble_eq_true rfl) (Nat.le_of_ble_eq_true rfl) rfl hl.1 rfl (Nat.le_of_ble_eq_true rfl) ⟨Nat.le_refl 0, Nat.le_refl 0⟩ dX8_lookAt_182) hP hD hS hA [] rfl rfl (fun H locs hP hD hS => ?_)
            have hP : va_P D vwCl (wd_X8_lookAt cI cZ AT AT_al AT_kp AT_ik AT_rf AT_hd AT_bs AT_se AT_bf AT_te AT_by AT_an AT_vs vT_ab vT_be vT_byl vT_tka vT_tkl vT_tkn vT_val fT_by) H := hP
            have hD : va_D A (wd_X8_lookAt cI cZ AT AT_al AT_kp AT_ik AT_rf AT_hd AT_bs AT_se AT_bf AT_te AT_by AT_an AT_vs vT_ab vT_be vT_byl vT_tka vT_tkl vT_tkn vT_val fT_by) := hD
            refine lv_goto (tgt := 193) hx hb dX8_lookAt_185 (by decide) ?_
            refine lv_istore_n (lv' := [(3, .int r_182), (4, .int (fT_by (Int32.toNatClampNeg (vT_tka + vT_tkl)))), (0, .ref AT)]) hx hb dX8_lookAt_193 rfl hl (by decide) rfl (fun ls hl => ?_)
            refine lv_aload_n hx hb dX8_lookAt_194 rfl (lv_at hl 2 rfl) ?_
            refine lv_dup hx hb dX8_lookAt_195 rfl ?_
            refine gf_X8_235 (v := .int vT_tkl) hx hb hts hown hK hN hP 0 rfl rfl dX8_lookAt_196 ?_
            refine lv_iload_n hx hb dX8_lookAt_199 rfl (lv_at hl 0 rfl) ?_
            refine lv_if_eq (tgt := 207) hx hb dX8_lookAt_200 (by decide) (fun c_200 => ?_) (fun c_200 => ?_)
            · have hm := it_s c_200 hm
              refine lv_iconst (v := 0) hx hb dX8_lookAt_207 (by decide) ?_
              refine lv_iadd hx hb dX8_lookAt_208 ?_
              refine pf_X8_235 hx hb hts hown hK hN hP hD hS 0 rfl dX8_lookAt_209 (fun H locs hP hD hS => ?_)
              have hP : va_P D vwCl (wd_X8_lookAt cI cZ AT AT_al AT_kp AT_ik AT_rf AT_hd AT_bs AT_se AT_bf AT_te AT_by AT_an AT_vs vT_ab vT_be vT_byl vT_tka (vT_tkl + 0) vT_tkn vT_val fT_by) H := hP
              have hD : va_D A (wd_X8_lookAt cI cZ AT AT_al AT_kp AT_ik AT_rf AT_hd AT_bs AT_se AT_bf AT_te AT_by AT_an AT_vs vT_ab vT_be vT_byl vT_tka (vT_tkl + 0) vT_tkn vT_val fT_by) := hD
              refine lv_goto (tgt := 136) hx hb dX8_lookAt_212 (by decide) ?_
              exact ih_136 r_182 vT_tka (vT_tkl + 0) vT_tkn vT_val H locs ls hm hP hD hS (lv_sub hl [0, 2] rfl)
            · have hm := it_n c_200 hm
              refine lv_iconst (v := 1) hx hb dX8_lookAt_203 (by decide) ?_
              refine lv_goto (tgt := 208) hx hb dX8_lookAt_204 (by decide) ?_
              refine lv_iadd hx hb dX8_lookAt_208 ?_
              refine pf_X8_235 hx hb hts hown hK hN hP hD hS 0 rfl dX8_lookAt_209 (fun H locs hP hD hS => ?_)
              have hP : va_P D vwCl (wd_X8_lookAt cI cZ AT AT_al AT_kp AT_ik AT_rf AT_hd AT_bs AT_se AT_bf AT_te AT_by AT_an AT_vs vT_ab vT_be vT_byl vT_tka (vT_tkl + 1) vT_tkn vT_val fT_by) H := hP
              have hD : va_D A (wd_X8_lookAt cI cZ AT AT_al AT_kp AT_ik AT_rf AT_hd AT_bs AT_se AT_bf AT_te AT_by AT_an AT_vs vT_ab vT_be vT_byl vT_tka (vT_tkl + 1) vT_tkn vT_val fT_by) := hD
              refine lv_goto (tgt := 136) hx hb dX8_lookAt_212 (by decide) ?_
              exact ih_136 r_182 vT_tka (vT_tkl + 1) vT_tkn vT_val H locs ls hm hP hD hS (lv_sub hl [0, 2] rfl)
  have hL_5 : ∀ (fu_5 : Nat) (vT_tka : Int32) (vT_tkl : Int32) (vT_tkn : Int32) (vT_val : Int32) (H : Heap) (locs : List Loc) (ls : Array Slot), fL_X8_lookAt_5 p1 vT_byl fT_by fu_5 vT_tka vT_tkl vT_tkn vT_val = some out → va_P D vwCl (wd_X8_lookAt cI cZ AT AT_al AT_kp AT_ik AT_rf AT_hd AT_bs AT_se AT_bf AT_te AT_by AT_an AT_vs vT_ab vT_be vT_byl vT_tka vT_tkl vT_tkn vT_val fT_by) H → va_D A (wd_X8_lookAt cI cZ AT AT_al AT_kp AT_ik AT_rf AT_hd AT_bs AT_se AT_bf AT_te AT_by AT_an AT_vs vT_ab vT_be vT_byl vT_tka vT_tkl vT_tkn vT_val fT_by) → va_S A s.heap H locs → lv_has ls 5 [(0, .ref AT)] → W p l e { frames := 2, cells := 0, slots := 0, locals := 45 } s m ([.ref AT, .int p1] : List Value).toArray below meth c H locs 0 0 (MQ below (q_Qv D (wd_X8_lookAt cI cZ AT AT_al AT_kp AT_ik AT_rf AT_hd AT_bs AT_se AT_bf AT_te AT_by AT_an AT_vs vT_ab vT_be vT_byl out.1 out.2.1 out.2.2.1 out.2.2.2 fT_by) A) ([.ref AT, .int p1] : List Value).toArray s 0 0 A) (F0 m 5 ls []) := by
    intro fu_5
    induction fu_5 with
    | zero => intro vT_tka vT_tkl vT_tkn vT_val H locs ls hm hP hD hS hl; exact absurd (show (none : Option (Int32 × Int32 × Int32 × Int32)) = some out from hm) (fun h => nomatch h)
    | succ fu_5 ih_5 =>
      intro vT_tka vT_tkl vT_tkn vT_val H locs ls hm hP hD hS hl
      rw [fL_X8_lookAt_5] at hm
      refine lv_aload_n hx hb dX8_lookAt_5 rfl (lv_at hl 0 rfl) ?_
      refine gf_X8_232 (v := .int vT_tka) hx hb hts hown hK hN hP 0 rfl rfl dX8_lookAt_6 ?_
      refine lv_aload_n hx hb dX8_lookAt_9 rfl (lv_at hl 0 rfl) ?_
      refine gf_X8_220 (v := .int vT_byl) hx hb hts hown hK hN hP 0 rfl rfl dX8_lookAt_10 ?_
      refine lv_icmp_ge (tgt := 43) hx hb dX8_lookAt_13 (by decide) (fun c_13 => ?_) (fun c_13 => ?_)
      · have hm := it_s c_13 hm
        refine lv_aload_n hx hb dX8_lookAt_43 rfl (lv_at hl 0 rfl) ?_
        refine lv_iconst (v := 0) hx hb dX8_lookAt_44 (by decide) ?_
        refine pf_X8_235 hx hb hts hown hK hN hP hD hS 0 rfl dX8_lookAt_45 (fun H locs hP hD hS => ?_)
        have hP : va_P D vwCl (wd_X8_lookAt cI cZ AT AT_al AT_kp AT_ik AT_rf AT_hd AT_bs AT_se AT_bf AT_te AT_by AT_an AT_vs vT_ab vT_be vT_byl vT_tka 0 vT_tkn vT_val fT_by) H := hP
        have hD : va_D A (wd_X8_lookAt cI cZ AT AT_al AT_kp AT_ik AT_rf AT_hd AT_bs AT_se AT_bf AT_te AT_by AT_an AT_vs vT_ab vT_be vT_byl vT_tka 0 vT_tkn vT_val fT_by) := hD
        refine lv_aload_n hx hb dX8_lookAt_48 rfl (lv_at hl 0 rfl) ?_
        refine lv_iconst (v := 0) hx hb dX8_lookAt_49 (by decide) ?_
        refine pf_X8_238 hx hb hts hown hK hN hP hD hS 0 rfl dX8_lookAt_50 (fun H locs hP hD hS => ?_)
        have hP : va_P D vwCl (wd_X8_lookAt cI cZ AT AT_al AT_kp AT_ik AT_rf AT_hd AT_bs AT_se AT_bf AT_te AT_by AT_an AT_vs vT_ab vT_be vT_byl vT_tka 0 0 vT_val fT_by) H := hP
        have hD : va_D A (wd_X8_lookAt cI cZ AT AT_al AT_kp AT_ik AT_rf AT_hd AT_bs AT_se AT_bf AT_te AT_by AT_an AT_vs vT_ab vT_be vT_byl vT_tka 0 0 vT_val fT_by) := hD
        refine lv_aload_n hx hb dX8_lookAt_53 rfl (lv_at hl 0 rfl) ?_
        refine lv_iconst (v := 0) hx hb dX8_lookAt_54 (by decide) ?_
        refine pf_X8_241 hx hb hts hown hK hN hP hD hS 0 rfl dX8_lookAt_55 (fun H locs hP hD hS => ?_)
        have hP : va_P D vwCl (wd_X8_lookAt cI cZ AT AT_al AT_kp AT_ik AT_rf AT_hd AT_bs AT_se AT_bf AT_te AT_by AT_an AT_vs vT_ab vT_be vT_byl vT_tka 0 0 0 fT_by) H := hP
        have hD : va_D A (wd_X8_lookAt cI cZ AT AT_al AT_kp AT_ik AT_rf AT_hd AT_bs AT_se AT_bf AT_te AT_by AT_an AT_vs vT_ab vT_be vT_byl vT_tka 0 0 0 fT_by) := hD
        refine lv_aload_n hx hb dX8_lookAt_58 rfl (lv_at hl 0 rfl) ?_
        refine gf_X8_232 (v := .int vT_tka) hx hb hts hown hK hN hP 0 rfl rfl dX8_lookAt_59 ?_
        refine lv_aload_n hx hb dX8_lookAt_62 rfl (lv_at hl 0 rfl) ?_
        refine gf_X8_220 (v := .int vT_byl) hx hb hts hown hK hN hP 0 rfl rfl dX8_lookAt_63 ?_
        refine lv_icmp_ne (tgt := 70) hx hb dX8_lookAt_66 (by decide) (fun c_66 => ?_) (fun c_66 => ?_)
        · have hm := it_n c_66 hm
          refine lv_aload_n hx hb dX8_lookAt_70 rfl (lv_at hl 0 rfl) ?_
          refine gf_X8_42 (v := .ref AT_by) hx hb hts hown hK hN hP 0 rfl rfl dX8_lookAt_71 ?_
          refine lv_aload_n hx hb dX8_lookAt_74 rfl (lv_at hl 0 rfl) ?_
          refine gf_X8_232 (v := .int vT_tka) hx hb hts hown hK hN hP 0 rfl rfl dX8_lookAt_75 ?_
          obtain ⟨hi_78, hm⟩ := gd_s hm
          refine q_iald (j := (Int32.toNatClampNeg vT_tka)) hx hb hK hP 1 rfl hi_78 rfl dX8_lookAt_78 ?_
          refine lv_istore_n (lv' := [(2, .int (fT_by (Int32.toNatClampNeg vT_tka))), (0, .ref AT)]) hx hb dX8_lookAt_79 rfl hl (by decide) rfl (fun ls hl => ?_)
          refine lv_aload_n hx hb dX8_lookAt_80 rfl (lv_at hl 1 rfl) ?_
          refine lv_iload_n hx hb dX8_lookAt_81 rfl (lv_at hl 0 rfl) ?_
          obtain ⟨r_82, hc_82, hm⟩ := ob_s hm
          refine q_ci (q_rs (rest := [.ref AT]) ⟨hx, hb, hml, hown, hts⟩ hK hN hP hD (c_X8_isSmall l D cI cZ H.size (fT_by (Int32.toNatClampNeg vT_tka)) r_82 hc_82) mb_X8_isSmall wt_X8_isSmall wl_X8_244 [] rfl rfl (Nat.le_of_ble_eq_true rfl) (Nat.le_of_ble_eq_true rfl) rfl hl.1 rfl (Nat.le_of_ble_eq_true rfl) ⟨Nat.le_refl 0, Nat.le_refl 0⟩ dX8_lookAt_82) hP hD hS hA [] rfl rfl (fun H locs hP hD hS => ?_)
          have hP : va_P D vwCl (wd_X8_lookAt cI cZ AT AT_al AT_kp AT_ik AT_rf AT_hd AT_bs AT_se AT_bf AT_te AT_by AT_an AT_vs vT_ab vT_be vT_byl vT_tka 0 0 0 fT_by) H := hP
          have hD : va_D A (wd_X8_lookAt cI cZ AT AT_al AT_kp AT_ik AT_rf AT_hd AT_bs AT_se AT_bf AT_te AT_by AT_an AT_vs vT_ab vT_be vT_byl vT_tka 0 0 0 fT_by) := hD
          refine lv_if_eq (tgt := 92) hx hb dX8_lookAt_85 (by decide) (fun c_85 => ?_) (fun c_85 => ?_)
          · have hm := it_s c_85 hm
            refine lv_iload_n hx hb dX8_lookAt_92 rfl (lv_at hl 0 rfl) ?_
            obtain ⟨r_93, hc_93, hm⟩ := ob_s hm
            refine q_ci (q_rs (rest := [.ref AT]) ⟨hx, hb, hml, hown, hts⟩ hK hN hP hD (c_X8_isFigure l D cI cZ H.size (fT_by (Int32.toNatClampNeg vT_tka)) r_93 hc_93) mb_X8_isFigure wt_X8_isFigure wl_X8_247 [] rfl rfl (Nat.le_of_ble_eq_true rfl) (Nat.le_of_ble_eq_true rfl) rfl hl.1 rfl (Nat.le_of_ble_eq_true rfl) ⟨Nat.le_refl 0, Nat.le_refl 0⟩ dX8_lookAt_93) hP hD hS hA [] rfl rfl (fun H locs hP hD hS => ?_)
            have hP : va_P D vwCl (wd_X8_lookAt cI cZ AT AT_al AT_kp AT_ik AT_rf AT_hd AT_bs AT_se AT_bf AT_te AT_by AT_an AT_vs vT_ab vT_be vT_byl vT_tka 0 0 0 fT_by) H := hP
            have hD : va_D A (wd_X8_lookAt cI cZ AT AT_al AT_kp AT_ik AT_rf AT_hd AT_bs AT_se AT_bf AT_te AT_by AT_an AT_vs vT_ab vT_be vT_byl vT_tka 0 0 0 fT_by) := hD
            refine lv_if_eq (tgt := 103) hx hb dX8_lookAt_96 (by decide) (fun c_96 => ?_) (fun c_96 => ?_)
            · have hm := it_s c_96 hm
              refine lv_iload_n hx hb dX8_lookAt_103 rfl (lv_at hl 0 rfl) ?_
              refine lv_bipush (v := 59) hx hb dX8_lookAt_104 (by decide) ?_
              refine lv_icmp_ne (tgt := 113) hx hb dX8_lookAt_106 (by decide) (fun c_106 => ?_) (fun c_106 => ?_)
              · have hm := it_n c_106 hm
                refine lv_iconst (v := 4) hx hb dX8_lookAt_113 (by decide) ?_
                refine pf_X8_238 hx hb hts hown hK hN hP hD hS 0 rfl dX8_lookAt_114 (fun H locs hP hD hS => ?_)
                have hP : va_P D vwCl (wd_X8_lookAt cI cZ AT AT_al AT_kp AT_ik AT_rf AT_hd AT_bs AT_se AT_bf AT_te AT_by AT_an AT_vs vT_ab vT_be vT_byl vT_tka 0 4 0 fT_by) H := hP
                have hD : va_D A (wd_X8_lookAt cI cZ AT AT_al AT_kp AT_ik AT_rf AT_hd AT_bs AT_se AT_bf AT_te AT_by AT_an AT_vs vT_ab vT_be vT_byl vT_tka 0 4 0 fT_by) := hD
                refine lv_aload_n hx hb dX8_lookAt_117 rfl (lv_at hl 1 rfl) ?_
                refine lv_iconst (v := 1) hx hb dX8_lookAt_118 (by decide) ?_
                refine pf_X8_235 hx hb hts hown hK hN hP hD hS 0 rfl dX8_lookAt_119 (fun H locs hP hD hS => ?_)
                have hP : va_P D vwCl (wd_X8_lookAt cI cZ AT AT_al AT_kp AT_ik AT_rf AT_hd AT_bs AT_se AT_bf AT_te AT_by AT_an AT_vs vT_ab vT_be vT_byl vT_tka 1 4 0 fT_by) H := hP
                have hD : va_D A (wd_X8_lookAt cI cZ AT AT_al AT_kp AT_ik AT_rf AT_hd AT_bs AT_se AT_bf AT_te AT_by AT_an AT_vs vT_ab vT_be vT_byl vT_tka 1 4 0 fT_by) := hD
                refine lv_aload_n hx hb dX8_lookAt_122 rfl (lv_at hl 1 rfl) ?_
                refine gf_X8_238 (v := .int 4) hx hb hts hown hK hN hP 0 rfl rfl dX8_lookAt_123 ?_
                refine lv_iconst (v := 3) hx hb dX8_lookAt_126 (by decide) ?_
                refine lv_icmp_ge (tgt := 134) hx hb dX8_lookAt_127 (by decide) (fun _ => ?_) (fun c => absurd c (by decide))
                refine lv_iconst (v := 0) hx hb dX8_lookAt_134 (by decide) ?_
                refine lv_istore_n (lv' := [(3, .int 0), (2, .int (fT_by (Int32.toNatClampNeg vT_tka))), (0, .ref AT)]) hx hb dX8_lookAt_135 rfl hl (by decide) rfl (fun ls hl => ?_)
                exact hL_136 FU 0 vT_tka 1 4 0 H locs ls hm hP hD hS (lv_sub hl [0, 2] rfl)
              · have hm := it_s c_106 hm
                refine lv_iconst (v := 3) hx hb dX8_lookAt_109 (by decide) ?_
                refine lv_goto (tgt := 114) hx hb dX8_lookAt_110 (by decide) ?_
                refine pf_X8_238 hx hb hts hown hK hN hP hD hS 0 rfl dX8_lookAt_114 (fun H locs hP hD hS => ?_)
                have hP : va_P D vwCl (wd_X8_lookAt cI cZ AT AT_al AT_kp AT_ik AT_rf AT_hd AT_bs AT_se AT_bf AT_te AT_by AT_an AT_vs vT_ab vT_be vT_byl vT_tka 0 3 0 fT_by) H := hP
                have hD : va_D A (wd_X8_lookAt cI cZ AT AT_al AT_kp AT_ik AT_rf AT_hd AT_bs AT_se AT_bf AT_te AT_by AT_an AT_vs vT_ab vT_be vT_byl vT_tka 0 3 0 fT_by) := hD
                refine lv_aload_n hx hb dX8_lookAt_117 rfl (lv_at hl 1 rfl) ?_
                refine lv_iconst (v := 1) hx hb dX8_lookAt_118 (by decide) ?_
                refine pf_X8_235 hx hb hts hown hK hN hP hD hS 0 rfl dX8_lookAt_119 (fun H locs hP hD hS => ?_)
                have hP : va_P D vwCl (wd_X8_lookAt cI cZ AT AT_al AT_kp AT_ik AT_rf AT_hd AT_bs AT_se AT_bf AT_te AT_by AT_an AT_vs vT_ab vT_be vT_byl vT_tka 1 3 0 fT_by) H := hP
                have hD : va_D A (wd_X8_lookAt cI cZ AT AT_al AT_kp AT_ik AT_rf AT_hd AT_bs AT_se AT_bf AT_te AT_by AT_an AT_vs vT_ab vT_be vT_byl vT_tka 1 3 0 fT_by) := hD
                refine lv_aload_n hx hb dX8_lookAt_122 rfl (lv_at hl 1 rfl) ?_
                refine gf_X8_238 (v := .int 3) hx hb hts hown hK hN hP 0 rfl rfl dX8_lookAt_123 ?_
                refine lv_iconst (v := 3) hx hb dX8_lookAt_126 (by decide) ?_
                refine lv_icmp_ge (tgt := 134) hx hb dX8_lookAt_127 (by decide) (fun _ => ?_) (fun c => absurd c (by decide))
                refine lv_iconst (v := 0) hx hb dX8_lookAt_134 (by decide) ?_
                refine lv_istore_n (lv' := [(3, .int 0), (2, .int (fT_by (Int32.toNatClampNeg vT_tka))), (0, .ref AT)]) hx hb dX8_lookAt_135 rfl hl (by decide) rfl (fun ls hl => ?_)
                exact hL_136 FU 0 vT_tka 1 3 0 H locs ls hm hP hD hS (lv_sub hl [0, 2] rfl)
            · have hm := it_n c_96 hm
              refine lv_iconst (v := 2) hx hb dX8_lookAt_99 (by decide) ?_
              refine lv_goto (tgt := 114) hx hb dX8_lookAt_100 (by decide) ?_
              refine pf_X8_238 hx hb hts hown hK hN hP hD hS 0 rfl dX8_lookAt_114 (fun H locs hP hD hS => ?_)
              have hP : va_P D vwCl (wd_X8_lookAt cI cZ AT AT_al AT_kp AT_ik AT_rf AT_hd AT_bs AT_se AT_bf AT_te AT_by AT_an AT_vs vT_ab vT_be vT_byl vT_tka 0 2 0 fT_by) H := hP
              have hD : va_D A (wd_X8_lookAt cI cZ AT AT_al AT_kp AT_ik AT_rf AT_hd AT_bs AT_se AT_bf AT_te AT_by AT_an AT_vs vT_ab vT_be vT_byl vT_tka 0 2 0 fT_by) := hD
              refine lv_aload_n hx hb dX8_lookAt_117 rfl (lv_at hl 1 rfl) ?_
              refine lv_iconst (v := 1) hx hb dX8_lookAt_118 (by decide) ?_
              refine pf_X8_235 hx hb hts hown hK hN hP hD hS 0 rfl dX8_lookAt_119 (fun H locs hP hD hS => ?_)
              have hP : va_P D vwCl (wd_X8_lookAt cI cZ AT AT_al AT_kp AT_ik AT_rf AT_hd AT_bs AT_se AT_bf AT_te AT_by AT_an AT_vs vT_ab vT_be vT_byl vT_tka 1 2 0 fT_by) H := hP
              have hD : va_D A (wd_X8_lookAt cI cZ AT AT_al AT_kp AT_ik AT_rf AT_hd AT_bs AT_se AT_bf AT_te AT_by AT_an AT_vs vT_ab vT_be vT_byl vT_tka 1 2 0 fT_by) := hD
              refine lv_aload_n hx hb dX8_lookAt_122 rfl (lv_at hl 1 rfl) ?_
              refine gf_X8_238 (v := .int 2) hx hb hts hown hK hN hP 0 rfl rfl dX8_lookAt_123 ?_
              refine lv_iconst (v := 3) hx hb dX8_lookAt_126 (by decide) ?_
              refine lv_icmp_ge (tgt := 134) hx hb dX8_lookAt_127 (by decide) (fun c => absurd c (by decide)) (fun _ => ?_)
              refine lv_iconst (v := 1) hx hb dX8_lookAt_130 (by decide) ?_
              refine lv_goto (tgt := 135) hx hb dX8_lookAt_131 (by decide) ?_
              refine lv_istore_n (lv' := [(3, .int 1), (2, .int (fT_by (Int32.toNatClampNeg vT_tka))), (0, .ref AT)]) hx hb dX8_lookAt_135 rfl hl (by decide) rfl (fun ls hl => ?_)
              exact hL_136 FU 1 vT_tka 1 2 0 H locs ls hm hP hD hS (lv_sub hl [0, 2] rfl)
          · have hm := it_n c_85 hm
            refine lv_iconst (v := 1) hx hb dX8_lookAt_88 (by decide) ?_
            refine lv_goto (tgt := 114) hx hb dX8_lookAt_89 (by decide) ?_
            refine pf_X8_238 hx hb hts hown hK hN hP hD hS 0 rfl dX8_lookAt_114 (fun H locs hP hD hS => ?_)
            have hP : va_P D vwCl (wd_X8_lookAt cI cZ AT AT_al AT_kp AT_ik AT_rf AT_hd AT_bs AT_se AT_bf AT_te AT_by AT_an AT_vs vT_ab vT_be vT_byl vT_tka 0 1 0 fT_by) H := hP
            have hD : va_D A (wd_X8_lookAt cI cZ AT AT_al AT_kp AT_ik AT_rf AT_hd AT_bs AT_se AT_bf AT_te AT_by AT_an AT_vs vT_ab vT_be vT_byl vT_tka 0 1 0 fT_by) := hD
            refine lv_aload_n hx hb dX8_lookAt_117 rfl (lv_at hl 1 rfl) ?_
            refine lv_iconst (v := 1) hx hb dX8_lookAt_118 (by decide) ?_
            refine pf_X8_235 hx hb hts hown hK hN hP hD hS 0 rfl dX8_lookAt_119 (fun H locs hP hD hS => ?_)
            have hP : va_P D vwCl (wd_X8_lookAt cI cZ AT AT_al AT_kp AT_ik AT_rf AT_hd AT_bs AT_se AT_bf AT_te AT_by AT_an AT_vs vT_ab vT_be vT_byl vT_tka 1 1 0 fT_by) H := hP
            have hD : va_D A (wd_X8_lookAt cI cZ AT AT_al AT_kp AT_ik AT_rf AT_hd AT_bs AT_se AT_bf AT_te AT_by AT_an AT_vs vT_ab vT_be vT_byl vT_tka 1 1 0 fT_by) := hD
            refine lv_aload_n hx hb dX8_lookAt_122 rfl (lv_at hl 1 rfl) ?_
            refine gf_X8_238 (v := .int 1) hx hb hts hown hK hN hP 0 rfl rfl dX8_lookAt_123 ?_
            refine lv_iconst (v := 3) hx hb dX8_lookAt_126 (by decide) ?_
            refine lv_icmp_ge (tgt := 134) hx hb dX8_lookAt_127 (by decide) (fun c => absurd c (by decide)) (fun _ => ?_)
            refine lv_iconst (v := 1) hx hb dX8_lookAt_130 (by decide) ?_
            refine lv_goto (tgt := 135) hx hb dX8_lookAt_131 (by decide) ?_
            refine lv_istore_n (lv' := [(3, .int 1), (2, .int (fT_by (Int32.toNatClampNeg vT_tka))), (0, .ref AT)]) hx hb dX8_lookAt_135 rfl hl (by decide) rfl (fun ls hl => ?_)
            exact hL_136 FU 1 vT_tka 1 1 0 H locs ls hm hP hD hS (lv_sub hl [0, 2] rfl)
        · have hm := it_s c_66 hm
          have hm := Option.some.inj hm
          subst hm
          exact q_vret hx hb hr hlocks hP hS dX8_lookAt_69
      · have hm := it_n c_13 hm
        refine lv_aload_n hx hb dX8_lookAt_16 rfl (lv_at hl 0 rfl) ?_
        refine gf_X8_42 (v := .ref AT_by) hx hb hts hown hK hN hP 0 rfl rfl dX8_lookAt_17 ?_
        refine lv_aload_n hx hb dX8_lookAt_20 rfl (lv_at hl 0 rfl) ?_
        refine gf_X8_232 (v := .int vT_tka) hx hb hts hown hK hN hP 0 rfl rfl dX8_lookAt_21 ?_
        obtain ⟨hi_24, hm⟩ := gd_s hm
        refine q_iald (j := (Int32.toNatClampNeg vT_tka)) hx hb hK hP 1 rfl hi_24 rfl dX8_lookAt_24 ?_
        refine lv_bipush (v := 32) hx hb dX8_lookAt_25 (by decide) ?_
        refine lv_icmp_ne (tgt := 43) hx hb dX8_lookAt_27 (by decide) (fun c_27 => ?_) (fun c_27 => ?_)
        · have hm := it_n c_27 hm
          refine lv_aload_n hx hb dX8_lookAt_43 rfl (lv_at hl 0 rfl) ?_
          refine lv_iconst (v := 0) hx hb dX8_lookAt_44 (by decide) ?_
          refine pf_X8_235 hx hb hts hown hK hN hP hD hS 0 rfl dX8_lookAt_45 (fun H locs hP hD hS => ?_)
          have hP : va_P D vwCl (wd_X8_lookAt cI cZ AT AT_al AT_kp AT_ik AT_rf AT_hd AT_bs AT_se AT_bf AT_te AT_by AT_an AT_vs vT_ab vT_be vT_byl vT_tka 0 vT_tkn vT_val fT_by) H := hP
          have hD : va_D A (wd_X8_lookAt cI cZ AT AT_al AT_kp AT_ik AT_rf AT_hd AT_bs AT_se AT_bf AT_te AT_by AT_an AT_vs vT_ab vT_be vT_byl vT_tka 0 vT_tkn vT_val fT_by) := hD
          refine lv_aload_n hx hb dX8_lookAt_48 rfl (lv_at hl 0 rfl) ?_
          refine lv_iconst (v := 0) hx hb dX8_lookAt_49 (by decide) ?_
          refine pf_X8_238 hx hb hts hown hK hN hP hD hS 0 rfl dX8_lookAt_50 (fun H locs hP hD hS => ?_)
          have hP : va_P D vwCl (wd_X8_lookAt cI cZ AT AT_al AT_kp AT_ik AT_rf AT_hd AT_bs AT_se AT_bf AT_te AT_by AT_an AT_vs vT_ab vT_be vT_byl vT_tka 0 0 vT_val fT_by) H := hP
          have hD : va_D A (wd_X8_lookAt cI cZ AT AT_al AT_kp AT_ik AT_rf AT_hd AT_bs AT_se AT_bf AT_te AT_by AT_an AT_vs vT_ab vT_be vT_byl vT_tka 0 0 vT_val fT_by) := hD
          refine lv_aload_n hx hb dX8_lookAt_53 rfl (lv_at hl 0 rfl) ?_
          refine lv_iconst (v := 0) hx hb dX8_lookAt_54 (by decide) ?_
          refine pf_X8_241 hx hb hts hown hK hN hP hD hS 0 rfl dX8_lookAt_55 (fun H locs hP hD hS => ?_)
          have hP : va_P D vwCl (wd_X8_lookAt cI cZ AT AT_al AT_kp AT_ik AT_rf AT_hd AT_bs AT_se AT_bf AT_te AT_by AT_an AT_vs vT_ab vT_be vT_byl vT_tka 0 0 0 fT_by) H := hP
          have hD : va_D A (wd_X8_lookAt cI cZ AT AT_al AT_kp AT_ik AT_rf AT_hd AT_bs AT_se AT_bf AT_te AT_by AT_an AT_vs vT_ab vT_be vT_byl vT_tka 0 0 0 fT_by) := hD
          refine lv_aload_n hx hb dX8_lookAt_58 rfl (lv_at hl 0 rfl) ?_
          refine gf_X8_232 (v := .int vT_tka) hx hb hts hown hK hN hP 0 rfl rfl dX8_lookAt_59 ?_
          refine lv_aload_n hx hb dX8_lookAt_62 rfl (lv_at hl 0 rfl) ?_
          refine gf_X8_220 (v := .int vT_byl) hx hb hts hown hK hN hP 0 rfl rfl dX8_lookAt_63 ?_
          refine lv_icmp_ne (tgt := 70) hx hb dX8_lookAt_66 (by decide) (fun c_66 => ?_) (fun c_66 => ?_)
          · have hm := it_n c_66 hm
            refine lv_aload_n hx hb dX8_lookAt_70 rfl (lv_at hl 0 rfl) ?_
            refine gf_X8_42 (v := .ref AT_by) hx hb hts hown hK hN hP 0 rfl rfl dX8_lookAt_71 ?_
            refine lv_aload_n hx hb dX8_lookAt_74 rfl (lv_at hl 0 rfl) ?_
            refine gf_X8_232 (v := .int vT_tka) hx hb hts hown hK hN hP 0 rfl rfl dX8_lookAt_75 ?_
            refine q_iald (j := (Int32.toNatClampNeg vT_tka)) hx hb hK hP 1 rfl hi_24 rfl dX8_lookAt_78 ?_
            refine lv_istore_n (lv' := [(2, .int (fT_by (Int32.toNatClampNeg vT_tka))), (0, .ref AT)]) hx hb dX8_lookAt_79 rfl hl (by decide) rfl (fun ls hl => ?_)
            refine lv_aload_n hx hb dX8_lookAt_80 rfl (lv_at hl 1 rfl) ?_
            refine lv_iload_n hx hb dX8_lookAt_81 rfl (lv_at hl 0 rfl) ?_
            obtain ⟨r_82, hc_82, hm⟩ := ob_s hm
            refine q_ci (q_rs (rest := [.ref AT]) ⟨hx, hb, hml, hown, hts⟩ hK hN hP hD (c_X8_isSmall l D cI cZ H.size (fT_by (Int32.toNatClampNeg vT_tka)) r_82 hc_82) mb_X8_isSmall wt_X8_isSmall wl_X8_244 [] rfl rfl (Nat.le_of_ble_eq_true rfl) (Nat.le_of_ble_eq_true rfl) rfl hl.1 rfl (Nat.le_of_ble_eq_true rfl) ⟨Nat.le_refl 0, Nat.le_refl 0⟩ dX8_lookAt_82) hP hD hS hA [] rfl rfl (fun H locs hP hD hS => ?_)
            have hP : va_P D vwCl (wd_X8_lookAt cI cZ AT AT_al AT_kp AT_ik AT_rf AT_hd AT_bs AT_se AT_bf AT_te AT_by AT_an AT_vs vT_ab vT_be vT_byl vT_tka 0 0 0 fT_by) H := hP
            have hD : va_D A (wd_X8_lookAt cI cZ AT AT_al AT_kp AT_ik AT_rf AT_hd AT_bs AT_se AT_bf AT_te AT_by AT_an AT_vs vT_ab vT_be vT_byl vT_tka 0 0 0 fT_by) := hD
            refine lv_if_eq (tgt := 92) hx hb dX8_lookAt_85 (by decide) (fun c_85 => ?_) (fun c_85 => ?_)
            · have hm := it_s c_85 hm
              refine lv_iload_n hx hb dX8_lookAt_92 rfl (lv_at hl 0 rfl) ?_
              obtain ⟨r_93, hc_93, hm⟩ := ob_s hm
              refine q_ci (q_rs (rest := [.ref AT]) ⟨hx, hb, hml, hown, hts⟩ hK hN hP hD (c_X8_isFigure l D cI cZ H.size (fT_by (Int32.toNatClampNeg vT_tka)) r_93 hc_93) mb_X8_isFigure wt_X8_isFigure wl_X8_247 [] rfl rfl (Nat.le_of_ble_eq_true rfl) (Nat.le_of_ble_eq_true rfl) rfl hl.1 rfl (Nat.le_of_ble_eq_true rfl) ⟨Nat.le_refl 0, Nat.le_refl 0⟩ dX8_lookAt_93) hP hD hS hA [] rfl rfl (fun H locs hP hD hS => ?_)
              have hP : va_P D vwCl (wd_X8_lookAt cI cZ AT AT_al AT_kp AT_ik AT_rf AT_hd AT_bs AT_se AT_bf AT_te AT_by AT_an AT_vs vT_ab vT_be vT_byl vT_tka 0 0 0 fT_by) H := hP
              have hD : va_D A (wd_X8_lookAt cI cZ AT AT_al AT_kp AT_ik AT_rf AT_hd AT_bs AT_se AT_bf AT_te AT_by AT_an AT_vs vT_ab vT_be vT_byl vT_tka 0 0 0 fT_by) := hD
              refine lv_if_eq (tgt := 103) hx hb dX8_lookAt_96 (by decide) (fun c_96 => ?_) (fun c_96 => ?_)
              · have hm := it_s c_96 hm
                refine lv_iload_n hx hb dX8_lookAt_103 rfl (lv_at hl 0 rfl) ?_
                refine lv_bipush (v := 59) hx hb dX8_lookAt_104 (by decide) ?_
                refine lv_icmp_ne (tgt := 113) hx hb dX8_lookAt_106 (by decide) (fun c_106 => ?_) (fun c_106 => ?_)
                · have hm := it_n c_106 hm
                  refine lv_iconst (v := 4) hx hb dX8_lookAt_113 (by decide) ?_
                  refine pf_X8_238 hx hb hts hown hK hN hP hD hS 0 rfl dX8_lookAt_114 (fun H locs hP hD hS => ?_)
                  have hP : va_P D vwCl (wd_X8_lookAt cI cZ AT AT_al AT_kp AT_ik AT_rf AT_hd AT_bs AT_se AT_bf AT_te AT_by AT_an AT_vs vT_ab vT_be vT_byl vT_tka 0 4 0 fT_by) H := hP
                  have hD : va_D A (wd_X8_lookAt cI cZ AT AT_al AT_kp AT_ik AT_rf AT_hd AT_bs AT_se AT_bf AT_te AT_by AT_an AT_vs vT_ab vT_be vT_byl vT_tka 0 4 0 fT_by) := hD
                  refine lv_aload_n hx hb dX8_lookAt_117 rfl (lv_at hl 1 rfl) ?_
                  refine lv_iconst (v := 1) hx hb dX8_lookAt_118 (by decide) ?_
                  refine pf_X8_235 hx hb hts hown hK hN hP hD hS 0 rfl dX8_lookAt_119 (fun H locs hP hD hS => ?_)
                  have hP : va_P D vwCl (wd_X8_lookAt cI cZ AT AT_al AT_kp AT_ik AT_rf AT_hd AT_bs AT_se AT_bf AT_te AT_by AT_an AT_vs vT_ab vT_be vT_byl vT_tka 1 4 0 fT_by) H := hP
                  have hD : va_D A (wd_X8_lookAt cI cZ AT AT_al AT_kp AT_ik AT_rf AT_hd AT_bs AT_se AT_bf AT_te AT_by AT_an AT_vs vT_ab vT_be vT_byl vT_tka 1 4 0 fT_by) := hD
                  refine lv_aload_n hx hb dX8_lookAt_122 rfl (lv_at hl 1 rfl) ?_
                  refine gf_X8_238 (v := .int 4) hx hb hts hown hK hN hP 0 rfl rfl dX8_lookAt_123 ?_
                  refine lv_iconst (v := 3) hx hb dX8_lookAt_126 (by decide) ?_
                  refine lv_icmp_ge (tgt := 134) hx hb dX8_lookAt_127 (by decide) (fun _ => ?_) (fun c => absurd c (by decide))
                  refine lv_iconst (v := 0) hx hb dX8_lookAt_134 (by decide) ?_
                  refine lv_istore_n (lv' := [(3, .int 0), (2, .int (fT_by (Int32.toNatClampNeg vT_tka))), (0, .ref AT)]) hx hb dX8_lookAt_135 rfl hl (by decide) rfl (fun ls hl => ?_)
                  exact hL_136 FU 0 vT_tka 1 4 0 H locs ls hm hP hD hS (lv_sub hl [0, 2] rfl)
                · have hm := it_s c_106 hm
                  refine lv_iconst (v := 3) hx hb dX8_lookAt_109 (by decide) ?_
                  refine lv_goto (tgt := 114) hx hb dX8_lookAt_110 (by decide) ?_
                  refine pf_X8_238 hx hb hts hown hK hN hP hD hS 0 rfl dX8_lookAt_114 (fun H locs hP hD hS => ?_)
                  have hP : va_P D vwCl (wd_X8_lookAt cI cZ AT AT_al AT_kp AT_ik AT_rf AT_hd AT_bs AT_se AT_bf AT_te AT_by AT_an AT_vs vT_ab vT_be vT_byl vT_tka 0 3 0 fT_by) H := hP
                  have hD : va_D A (wd_X8_lookAt cI cZ AT AT_al AT_kp AT_ik AT_rf AT_hd AT_bs AT_se AT_bf AT_te AT_by AT_an AT_vs vT_ab vT_be vT_byl vT_tka 0 3 0 fT_by) := hD
                  refine lv_aload_n hx hb dX8_lookAt_117 rfl (lv_at hl 1 rfl) ?_
                  refine lv_iconst (v := 1) hx hb dX8_lookAt_118 (by decide) ?_
                  refine pf_X8_235 hx hb hts hown hK hN hP hD hS 0 rfl dX8_lookAt_119 (fun H locs hP hD hS => ?_)
                  have hP : va_P D vwCl (wd_X8_lookAt cI cZ AT AT_al AT_kp AT_ik AT_rf AT_hd AT_bs AT_se AT_bf AT_te AT_by AT_an AT_vs vT_ab vT_be vT_byl vT_tka 1 3 0 fT_by) H := hP
                  have hD : va_D A (wd_X8_lookAt cI cZ AT AT_al AT_kp AT_ik AT_rf AT_hd AT_bs AT_se AT_bf AT_te AT_by AT_an AT_vs vT_ab vT_be vT_byl vT_tka 1 3 0 fT_by) := hD
                  refine lv_aload_n hx hb dX8_lookAt_122 rfl (lv_at hl 1 rfl) ?_
                  refine gf_X8_238 (v := .int 3) hx hb hts hown hK hN hP 0 rfl rfl dX8_lookAt_123 ?_
                  refine lv_iconst (v := 3) hx hb dX8_lookAt_126 (by decide) ?_
                  refine lv_icmp_ge (tgt := 134) hx hb dX8_lookAt_127 (by decide) (fun _ => ?_) (fun c => absurd c (by decide))
                  refine lv_iconst (v := 0) hx hb dX8_lookAt_134 (by decide) ?_
                  refine lv_istore_n (lv' := [(3, .int 0), (2, .int (fT_by (Int32.toNatClampNeg vT_tka))), (0, .ref AT)]) hx hb dX8_lookAt_135 rfl hl (by decide) rfl (fun ls hl => ?_)
                  exact hL_136 FU 0 vT_tka 1 3 0 H locs ls hm hP hD hS (lv_sub hl [0, 2] rfl)
              · have hm := it_n c_96 hm
                refine lv_iconst (v := 2) hx hb dX8_lookAt_99 (by decide) ?_
                refine lv_goto (tgt := 114) hx hb dX8_lookAt_100 (by decide) ?_
                refine pf_X8_238 hx hb hts hown hK hN hP hD hS 0 rfl dX8_lookAt_114 (fun H locs hP hD hS => ?_)
                have hP : va_P D vwCl (wd_X8_lookAt cI cZ AT AT_al AT_kp AT_ik AT_rf AT_hd AT_bs AT_se AT_bf AT_te AT_by AT_an AT_vs vT_ab vT_be vT_byl vT_tka 0 2 0 fT_by) H := hP
                have hD : va_D A (wd_X8_lookAt cI cZ AT AT_al AT_kp AT_ik AT_rf AT_hd AT_bs AT_se AT_bf AT_te AT_by AT_an AT_vs vT_ab vT_be vT_byl vT_tka 0 2 0 fT_by) := hD
                refine lv_aload_n hx hb dX8_lookAt_117 rfl (lv_at hl 1 rfl) ?_
                refine lv_iconst (v := 1) hx hb dX8_lookAt_118 (by decide) ?_
                refine pf_X8_235 hx hb hts hown hK hN hP hD hS 0 rfl dX8_lookAt_119 (fun H locs hP hD hS => ?_)
                have hP : va_P D vwCl (wd_X8_lookAt cI cZ AT AT_al AT_kp AT_ik AT_rf AT_hd AT_bs AT_se AT_bf AT_te AT_by AT_an AT_vs vT_ab vT_be vT_byl vT_tka 1 2 0 fT_by) H := hP
                have hD : va_D A (wd_X8_lookAt cI cZ AT AT_al AT_kp AT_ik AT_rf AT_hd AT_bs AT_se AT_bf AT_te AT_by AT_an AT_vs vT_ab vT_be vT_byl vT_tka 1 2 0 fT_by) := hD
                refine lv_aload_n hx hb dX8_lookAt_122 rfl (lv_at hl 1 rfl) ?_
                refine gf_X8_238 (v := .int 2) hx hb hts hown hK hN hP 0 rfl rfl dX8_lookAt_123 ?_
                refine lv_iconst (v := 3) hx hb dX8_lookAt_126 (by decide) ?_
                refine lv_icmp_ge (tgt := 134) hx hb dX8_lookAt_127 (by decide) (fun c => absurd c (by decide)) (fun _ => ?_)
                refine lv_iconst (v := 1) hx hb dX8_lookAt_130 (by decide) ?_
                refine lv_goto (tgt := 135) hx hb dX8_lookAt_131 (by decide) ?_
                refine lv_istore_n (lv' := [(3, .int 1), (2, .int (fT_by (Int32.toNatClampNeg vT_tka))), (0, .ref AT)]) hx hb dX8_lookAt_135 rfl hl (by decide) rfl (fun ls hl => ?_)
                exact hL_136 FU 1 vT_tka 1 2 0 H locs ls hm hP hD hS (lv_sub hl [0, 2] rfl)
            · have hm := it_n c_85 hm
              refine lv_iconst (v := 1) hx hb dX8_lookAt_88 (by decide) ?_
              refine lv_goto (tgt := 114) hx hb dX8_lookAt_89 (by decide) ?_
              refine pf_X8_238 hx hb hts hown hK hN hP hD hS 0 rfl dX8_lookAt_114 (fun H locs hP hD hS => ?_)
              have hP : va_P D vwCl (wd_X8_lookAt cI cZ AT AT_al AT_kp AT_ik AT_rf AT_hd AT_bs AT_se AT_bf AT_te AT_by AT_an AT_vs vT_ab vT_be vT_byl vT_tka 0 1 0 fT_by) H := hP
              have hD : va_D A (wd_X8_lookAt cI cZ AT AT_al AT_kp AT_ik AT_rf AT_hd AT_bs AT_se AT_bf AT_te AT_by AT_an AT_vs vT_ab vT_be vT_byl vT_tka 0 1 0 fT_by) := hD
              refine lv_aload_n hx hb dX8_lookAt_117 rfl (lv_at hl 1 rfl) ?_
              refine lv_iconst (v := 1) hx hb dX8_lookAt_118 (by decide) ?_
              refine pf_X8_235 hx hb hts hown hK hN hP hD hS 0 rfl dX8_lookAt_119 (fun H locs hP hD hS => ?_)
              have hP : va_P D vwCl (wd_X8_lookAt cI cZ AT AT_al AT_kp AT_ik AT_rf AT_hd AT_bs AT_se AT_bf AT_te AT_by AT_an AT_vs vT_ab vT_be vT_byl vT_tka 1 1 0 fT_by) H := hP
              have hD : va_D A (wd_X8_lookAt cI cZ AT AT_al AT_kp AT_ik AT_rf AT_hd AT_bs AT_se AT_bf AT_te AT_by AT_an AT_vs vT_ab vT_be vT_byl vT_tka 1 1 0 fT_by) := hD
              refine lv_aload_n hx hb dX8_lookAt_122 rfl (lv_at hl 1 rfl) ?_
              refine gf_X8_238 (v := .int 1) hx hb hts hown hK hN hP 0 rfl rfl dX8_lookAt_123 ?_
              refine lv_iconst (v := 3) hx hb dX8_lookAt_126 (by decide) ?_
              refine lv_icmp_ge (tgt := 134) hx hb dX8_lookAt_127 (by decide) (fun c => absurd c (by decide)) (fun _ => ?_)
              refine lv_iconst (v := 1) hx hb dX8_lookAt_130 (by decide) ?_
              refine lv_goto (tgt := 135) hx hb dX8_lookAt_131 (by decide) ?_
              refine lv_istore_n (lv' := [(3, .int 1), (2, .int (fT_by (Int32.toNatClampNeg vT_tka))), (0, .ref AT)]) hx hb dX8_lookAt_135 rfl hl (by decide) rfl (fun ls hl => ?_)
              exact hL_136 FU 1 vT_tka 1 1 0 H locs ls hm hP hD hS (lv_sub hl [0, 2] rfl)
          · have hm := it_s c_66 hm
            have hm := Option.some.inj hm
            subst hm
            exact q_vret hx hb hr hlocks hP hS dX8_lookAt_69
        · have hm := it_s c_27 hm
          refine lv_aload_n hx hb dX8_lookAt_30 rfl (lv_at hl 0 rfl) ?_
          refine lv_dup hx hb dX8_lookAt_31 rfl ?_
          refine gf_X8_232 (v := .int vT_tka) hx hb hts hown hK hN hP 0 rfl rfl dX8_lookAt_32 ?_
          refine lv_iconst (v := 1) hx hb dX8_lookAt_35 (by decide) ?_
          refine lv_iadd hx hb dX8_lookAt_36 ?_
          refine pf_X8_232 hx hb hts hown hK hN hP hD hS 0 rfl dX8_lookAt_37 (fun H locs hP hD hS => ?_)
          have hP : va_P D vwCl (wd_X8_lookAt cI cZ AT AT_al AT_kp AT_ik AT_rf AT_hd AT_bs AT_se AT_bf AT_te AT_by AT_an AT_vs vT_ab vT_be vT_byl (vT_tka + 1) vT_tkl vT_tkn vT_val fT_by) H := hP
          have hD : va_D A (wd_X8_lookAt cI cZ AT AT_al AT_kp AT_ik AT_rf AT_hd AT_bs AT_se AT_bf AT_te AT_by AT_an AT_vs vT_ab vT_be vT_byl (vT_tka + 1) vT_tkl vT_tkn vT_val fT_by) := hD
          refine lv_goto (tgt := 5) hx hb dX8_lookAt_40 (by decide) ?_
          exact ih_5 (vT_tka + 1) vT_tkl vT_tkn vT_val H locs ls hm hP hD hS (lv_sub hl [0] rfl)
  unfold fm_X8_lookAt at hm
  refine q_gen hS hP ?_
  intro H locs hP hS
  refine lv_aload_n hx hb dX8_lookAt_0 rfl (lv_at hl 0 rfl) ?_
  refine lv_iload_n hx hb dX8_lookAt_1 rfl (lv_at hl 1 rfl) ?_
  refine pf_X8_232 hx hb hts hown hK hN hP hD hS 0 rfl dX8_lookAt_2 (fun H locs hP hD hS => ?_)
  have hP : va_P D vwCl (wd_X8_lookAt cI cZ AT AT_al AT_kp AT_ik AT_rf AT_hd AT_bs AT_se AT_bf AT_te AT_by AT_an AT_vs vT_ab vT_be vT_byl p1 vT_tkl vT_tkn vT_val fT_by) H := hP
  have hD : va_D A (wd_X8_lookAt cI cZ AT AT_al AT_kp AT_ik AT_rf AT_hd AT_bs AT_se AT_bf AT_te AT_by AT_an AT_vs vT_ab vT_be vT_byl p1 vT_tkl vT_tkn vT_val fT_by) := hD
  exact hL_5 FU p1 vT_tkl vT_tkn vT_val H locs ls hm hP hD hS (lv_sub hl [0] rfl)
theorem mb_X8_goBehind : q_mb yX8_goBehind cX8_goBehind 1 none 0 := ⟨wc_X8_goBehind, wn_X8, by decide, by decide, by decide +kernel⟩
theorem mv_X8_goBehind : q_mv yX8_goBehind 8 := ⟨wi_X8_goBehind, ws_X8_goBehind, _, rfl, rfl⟩
def wd_X8_goBehind (cI cZ : ClassId) (AT AT_al AT_kp AT_ik AT_rf AT_hd AT_bs AT_se AT_bf AT_te AT_by AT_an AT_vs : Nat) (vT_ab : Int64) (vT_be : Int64) (vT_byl : Int32) (vT_tka : Int32) (vT_tkl : Int32) (vT_tkn : Int32) (vT_val : Int32) (fT_by : Nat → Int32) : va_W := [(AT, .inr (8, [.ref AT_al, .ref AT_kp, .ref AT_ik, .ref AT_rf, .long vT_ab, .long vT_be, .ref AT_hd, .ref AT_bs, .ref AT_se, .ref AT_bf, .ref AT_te, .ref AT_by, .int vT_byl, .int vT_tka, .int vT_tkl, .int vT_tkn, .int vT_val, .ref AT_an, .ref AT_vs])), (AT_by, .inl (cI, 150, .inl fT_by))]
def fm_X8_goBehind (vT_byl : Int32) (vT_tka : Int32) (vT_tkl : Int32) (vT_tkn : Int32) (vT_val : Int32) (fT_by : Nat → Int32) : Option (Int32 × Int32 × Int32 × Int32) := Option.bind (fm_X8_lookAt (vT_tka + vT_tkl) vT_byl vT_tka vT_tkl vT_tkn vT_val fT_by) (fun r_10 => some (r_10.1, r_10.2.1, r_10.2.2.1, r_10.2.2.2))
set_option maxHeartbeats 4000000 in
set_option maxRecDepth 100000 in
theorem c_X8_goBehind (l : Launch) (D : va_G) (cI cZ : ClassId) (sz : Nat) (AT AT_al AT_kp AT_ik AT_rf AT_hd AT_bs AT_se AT_bf AT_te AT_by AT_an AT_vs : Nat) (vT_ab : Int64) (vT_be : Int64) (vT_byl : Int32) (vT_tka : Int32) (vT_tkl : Int32) (vT_tkn : Int32) (vT_val : Int32) (fT_by : Nat → Int32) (out : (Int32 × Int32 × Int32 × Int32)) (hm : fm_X8_goBehind vT_byl vT_tka vT_tkl vT_tkn vT_val fT_by = some out) : Met l yX8_goBehind (Cond.code yX8_goBehind cX8_goBehind 1 none :: bg) { frames := 3, cells := 0, slots := 0, locals := 69 } (va_Pc [.ref AT] (q_pre D cI cZ sz (wd_X8_goBehind cI cZ AT AT_al AT_kp AT_ik AT_rf AT_hd AT_bs AT_se AT_bf AT_te AT_by AT_an AT_vs vT_ab vT_be vT_byl vT_tka vT_tkl vT_tkn vT_val fT_by))) (q_Qv D (wd_X8_goBehind cI cZ AT AT_al AT_kp AT_ik AT_rf AT_hd AT_bs AT_se AT_bf AT_te AT_by AT_an AT_vs vT_ab vT_be vT_byl out.1 out.2.1 out.2.2.1 out.2.2.2 fT_by) (va_A (wd_X8_goBehind cI cZ AT AT_al AT_kp AT_ik AT_rf AT_hd AT_bs AT_se AT_bf AT_te AT_by AT_an AT_vs vT_ab vT_be vT_byl vT_tka vT_tkl vT_tkn vT_val fT_by) sz)) 0 0 (va_A (wd_X8_goBehind cI cZ AT AT_al AT_kp AT_ik AT_rf AT_hd AT_bs AT_se AT_bf AT_te AT_by AT_an AT_vs vT_ab vT_be vT_byl vT_tka vT_tkl vT_tkn vT_val fT_by) sz) := by
  refine q_met (fun A => q_Qv D (wd_X8_goBehind cI cZ AT AT_al AT_kp AT_ik AT_rf AT_hd AT_bs AT_se AT_bf AT_te AT_by AT_an AT_vs vT_ab vT_be vT_byl out.1 out.2.1 out.2.2.1 out.2.2.2 fT_by) A) (by decide) (Nat.le_of_ble_eq_true rfl) ?_
  intro p e s m below meth c ls A hx hb hr hml hown hts hlocks _ hA hS hP hD hK hN hl
  have hown : s.vm.findClass RX8 = some m.cls := hown
  have hl : lv_has ls 1 [(0, .ref AT)] := hl
  unfold fm_X8_goBehind at hm
  refine q_gen hS hP ?_
  intro H locs hP hS
  refine lv_aload_n hx hb dX8_goBehind_0 rfl (lv_at hl 0 rfl) ?_
  refine lv_aload_n hx hb dX8_goBehind_1 rfl (lv_at hl 0 rfl) ?_
  refine gf_X8_232 (v := .int vT_tka) hx hb hts hown hK hN hP 0 rfl rfl dX8_goBehind_2 ?_
  refine lv_aload_n hx hb dX8_goBehind_5 rfl (lv_at hl 0 rfl) ?_
  refine gf_X8_235 (v := .int vT_tkl) hx hb hts hown hK hN hP 0 rfl rfl dX8_goBehind_6 ?_
  refine lv_iadd hx hb dX8_goBehind_9 ?_
  obtain ⟨r_10, hc_10, hm⟩ := ob_s hm
  refine q_cv (q_rv (rest := []) ⟨hx, hb, hml, hown, hts⟩ hK hN hP hD (c_X8_lookAt l D cI cZ H.size AT AT_al AT_kp AT_ik AT_rf AT_hd AT_bs AT_se AT_bf AT_te AT_by AT_an AT_vs vT_ab vT_be vT_byl vT_tka vT_tkl vT_tkn vT_val fT_by (vT_tka + vT_tkl) r_10 hc_10) mb_X8_lookAt mv_X8_lookAt wl_X8_250 [0, 1] rfl rfl rfl (Nat.le_of_ble_eq_true rfl) (Nat.le_of_ble_eq_true rfl) rfl hl.1 rfl (Nat.le_of_ble_eq_true rfl) ⟨Nat.le_refl 0, Nat.le_refl 0⟩ dX8_goBehind_10) hP hD hS hA [0, 1] rfl rfl (fun H locs hP hD hS => ?_)
  have hP : va_P D vwCl (wd_X8_goBehind cI cZ AT AT_al AT_kp AT_ik AT_rf AT_hd AT_bs AT_se AT_bf AT_te AT_by AT_an AT_vs vT_ab vT_be vT_byl r_10.1 r_10.2.1 r_10.2.2.1 r_10.2.2.2 fT_by) H := hP
  have hD : va_D A (wd_X8_goBehind cI cZ AT AT_al AT_kp AT_ik AT_rf AT_hd AT_bs AT_se AT_bf AT_te AT_by AT_an AT_vs vT_ab vT_be vT_byl r_10.1 r_10.2.1 r_10.2.2.1 r_10.2.2.2 fT_by) := hD
  have hm := Option.some.inj hm
  subst hm
  exact q_vret hx hb hr hlocks hP hS dX8_goBehind_13
theorem mb_X8_spells : q_mb yX8_spells cX8_spells 10 (some .boolean) 7 := ⟨wc_X8_spells, wn_X8, by decide, by decide, by decide +kernel⟩
theorem mv_X8_spells : q_mv yX8_spells 8 := ⟨wi_X8_spells, ws_X8_spells, _, rfl, rfl⟩
def wd_X8_spells (cI cZ : ClassId) (AT AT_al AT_kp AT_ik AT_rf AT_hd AT_bs AT_se AT_bf AT_te AT_by AT_an AT_vs : Nat) (vT_ab : Int64) (vT_be : Int64) (vT_byl : Int32) (vT_tka : Int32) (vT_tkl : Int32) (vT_tkn : Int32) (vT_val : Int32) (fT_by : Nat → Int32) : va_W := [(AT, .inr (8, [.ref AT_al, .ref AT_kp, .ref AT_ik, .ref AT_rf, .long vT_ab, .long vT_be, .ref AT_hd, .ref AT_bs, .ref AT_se, .ref AT_bf, .ref AT_te, .ref AT_by, .int vT_byl, .int vT_tka, .int vT_tkl, .int vT_tkn, .int vT_val, .ref AT_an, .ref AT_vs])), (AT_by, .inl (cI, 150, .inl fT_by))]
def fL_X8_spells_26 (p1 : Int32) (p2 : Int32) (p3 : Int32) (p4 : Int32) (p5 : Int32) (p6 : Int32) (p7 : Int32) (vT_tka : Int32) (vT_tkl : Int32) (vT_tkn : Int32) (fT_by : Nat → Int32) : Nat → Int32 → Int32 → Option (Int32)
  | 0, _, _ => none
  | fu + 1, x9, x8 => if p1 ≤ x9 then (bz x8 (some (x8))) else (if x8 = 0 then (bz x8 (some (x8))) else (gd (vT_tka + x9) 150 (if x9 = 0 then (if (fT_by (Int32.toNatClampNeg (vT_tka + x9))) = p2 then (fL_X8_spells_26 p1 p2 p3 p4 p5 p6 p7 vT_tka vT_tkl vT_tkn fT_by fu (x9 + 1) 1) else (fL_X8_spells_26 p1 p2 p3 p4 p5 p6 p7 vT_tka vT_tkl vT_tkn fT_by fu (x9 + 1) 0)) else (if x9 = 1 then (if (fT_by (Int32.toNatClampNeg (vT_tka + x9))) = p3 then (fL_X8_spells_26 p1 p2 p3 p4 p5 p6 p7 vT_tka vT_tkl vT_tkn fT_by fu (x9 + 1) 1) else (fL_X8_spells_26 p1 p2 p3 p4 p5 p6 p7 vT_tka vT_tkl vT_tkn fT_by fu (x9 + 1) 0)) else (if x9 = 2 then (if (fT_by (Int32.toNatClampNeg (vT_tka + x9))) = p4 then (fL_X8_spells_26 p1 p2 p3 p4 p5 p6 p7 vT_tka vT_tkl vT_tkn fT_by fu (x9 + 1) 1) else (fL_X8_spells_26 p1 p2 p3 p4 p5 p6 p7 vT_tka vT_tkl vT_tkn fT_by fu (x9 + 1) 0)) else (if x9 = 3 then (if (fT_by (Int32.toNatClampNeg (vT_tka + x9))) = p5 then (fL_X8_spells_26 p1 p2 p3 p4 p5 p6 p7 vT_tka vT_tkl vT_tkn fT_by fu (x9 + 1) 1) else (fL_X8_spells_26 p1 p2 p3 p4 p5 p6 p7 vT_tka vT_tkl vT_tkn fT_by fu (x9 + 1) 0)) else (if x9 = 4 then (if (fT_by (Int32.toNatClampNeg (vT_tka + x9))) = p6 then (fL_X8_spells_26 p1 p2 p3 p4 p5 p6 p7 vT_tka vT_tkl vT_tkn fT_by fu (x9 + 1) 1) else (fL_X8_spells_26 p1 p2 p3 p4 p5 p6 p7 vT_tka vT_tkl vT_tkn fT_by fu (x9 + 1) 0)) else (if (fT_by (Int32.toNatClampNeg (vT_tka + x9))) = p7 then (fL_X8_spells_26 p1 p2 p3 p4 p5 p6 p7 vT_tka vT_tkl vT_tkn fT_by fu (x9 + 1) 1) else (fL_X8_spells_26 p1 p2 p3 p4 p5 p6 p7 vT_tka vT_tkl vT_tkn fT_by fu (x9 + 1) 0)))))))))
def fm_X8_spells (p1 : Int32) (p2 : Int32) (p3 : Int32) (p4 : Int32) (p5 : Int32) (p6 : Int32) (p7 : Int32) (vT_tka : Int32) (vT_tkl : Int32) (vT_tkn : Int32) (fT_by : Nat → Int32) : Option (Int32) := if vT_tkn = 1 then (if vT_tkl = p1 then (fL_X8_spells_26 p1 p2 p3 p4 p5 p6 p7 vT_tka vT_tkl vT_tkn fT_by FU 0 1) else (fL_X8_spells_26 p1 p2 p3 p4 p5 p6 p7 vT_tka vT_tkl vT_tkn fT_by FU 0 0)) else (fL_X8_spells_26 p1 p2 p3 p4 p5 p6 p7 vT_tka vT_tkl vT_tkn fT_by FU 0 0)
set_option maxHeartbeats 4000000 in
set_option maxRecDepth 100000 in
theorem c_X8_spells (l : Launch) (D : va_G) (cI cZ : ClassId) (sz : Nat) (AT AT_al AT_kp AT_ik AT_rf AT_hd AT_bs AT_se AT_bf AT_te AT_by AT_an AT_vs : Nat) (vT_ab : Int64) (vT_be : Int64) (vT_byl : Int32) (vT_tka : Int32) (vT_tkl : Int32) (vT_tkn : Int32) (vT_val : Int32) (fT_by : Nat → Int32) (p1 : Int32) (p2 : Int32) (p3 : Int32) (p4 : Int32) (p5 : Int32) (p6 : Int32) (p7 : Int32) (out : (Int32)) (hm : fm_X8_spells p1 p2 p3 p4 p5 p6 p7 vT_tka vT_tkl vT_tkn fT_by = some out) : Met l yX8_spells (Cond.code yX8_spells cX8_spells 10 (some .boolean) :: bg) { frames := 0, cells := 0, slots := 0, locals := 0 } (va_Pc [.ref AT, .int p1, .int p2, .int p3, .int p4, .int p5, .int p6, .int p7] (q_pre D cI cZ sz (wd_X8_spells cI cZ AT AT_al AT_kp AT_ik AT_rf AT_hd AT_bs AT_se AT_bf AT_te AT_by AT_an AT_vs vT_ab vT_be vT_byl vT_tka vT_tkl vT_tkn vT_val fT_by))) (q_Qi D (wd_X8_spells cI cZ AT AT_al AT_kp AT_ik AT_rf AT_hd AT_bs AT_se AT_bf AT_te AT_by AT_an AT_vs vT_ab vT_be vT_byl vT_tka vT_tkl vT_tkn vT_val fT_by) out (va_A (wd_X8_spells cI cZ AT AT_al AT_kp AT_ik AT_rf AT_hd AT_bs AT_se AT_bf AT_te AT_by AT_an AT_vs vT_ab vT_be vT_byl vT_tka vT_tkl vT_tkn vT_val fT_by) sz)) 0 0 (va_A (wd_X8_spells cI cZ AT AT_al AT_kp AT_ik AT_rf AT_hd AT_bs AT_se AT_bf AT_te AT_by AT_an AT_vs vT_ab vT_be vT_byl vT_tka vT_tkl vT_tkn vT_val fT_by) sz) := by
  refine q_met (fun A => q_Qi D (wd_X8_spells cI cZ AT AT_al AT_kp AT_ik AT_rf AT_hd AT_bs AT_se AT_bf AT_te AT_by AT_an AT_vs vT_ab vT_be vT_byl vT_tka vT_tkl vT_tkn vT_val fT_by) out A) (by decide) (Nat.le_of_ble_eq_true rfl) ?_
  intro p e s m below meth c ls A hx hb hr hml hown hts hlocks _ hA hS hP hD hK hN hl
  have hown : s.vm.findClass RX8 = some m.cls := hown
  have hl : lv_has ls 10 [(0, .ref AT), (1, .int p1), (2, .int p2), (3, .int p3), (4, .int p4), (5, .int p5), (6, .int p6), (7, .int p7)] := hl
  have hL_26 : ∀ (fu_26 : Nat) (x9 : Int32) (x8 : Int32) (H : Heap) (locs : List Loc) (ls : Array Slot), fL_X8_spells_26 p1 p2 p3 p4 p5 p6 p7 vT_tka vT_tkl vT_tkn fT_by fu_26 x9 x8 = some out → va_P D vwCl (wd_X8_spells cI cZ AT AT_al AT_kp AT_ik AT_rf AT_hd AT_bs AT_se AT_bf AT_te AT_by AT_an AT_vs vT_ab vT_be vT_byl vT_tka vT_tkl vT_tkn vT_val fT_by) H → va_D A (wd_X8_spells cI cZ AT AT_al AT_kp AT_ik AT_rf AT_hd AT_bs AT_se AT_bf AT_te AT_by AT_an AT_vs vT_ab vT_be vT_byl vT_tka vT_tkl vT_tkn vT_val fT_by) → va_S A s.heap H locs → lv_has ls 10 [(9, .int x9), (8, .int x8), (0, .ref AT), (1, .int p1), (2, .int p2), (3, .int p3), (4, .int p4), (5, .int p5), (6, .int p6), (7, .int p7)] → W p l e { frames := 0, cells := 0, slots := 0, locals := 0 } s m ([.ref AT, .int p1, .int p2, .int p3, .int p4, .int p5, .int p6, .int p7] : List Value).toArray below meth c H locs 0 0 (MQ below (q_Qi D (wd_X8_spells cI cZ AT AT_al AT_kp AT_ik AT_rf AT_hd AT_bs AT_se AT_bf AT_te AT_by AT_an AT_vs vT_ab vT_be vT_byl vT_tka vT_tkl vT_tkn vT_val fT_by) out A) ([.ref AT, .int p1, .int p2, .int p3, .int p4, .int p5, .int p6, .int p7] : List Value).toArray s 0 0 A) (F0 m 26 ls []) := by
    intro fu_26
    induction fu_26 with
    | zero => intro x9 x8 H locs ls hm hP hD hS hl; exact absurd (show (none : Option (Int32)) = some out from hm) (fun h => nomatch h)
    | succ fu_26 ih_26 =>
      intro x9 x8 H locs ls hm hP hD hS hl
      rw [fL_X8_spells_26] at hm
      refine lv_iload hx hb dX8_spells_26 (lv_at hl 0 rfl) ?_
      refine lv_iload_n hx hb dX8_spells_28 rfl (lv_at hl 3 rfl) ?_
      refine lv_icmp_ge (tgt := 119) hx hb dX8_spells_29 (by decide) (fun c_29 => ?_) (fun c_29 => ?_)
      · have hm := it_s c_29 hm
        refine lv_iload hx hb dX8_spells_119 (lv_at hl 1 rfl) ?_
        obtain ⟨hz, hm⟩ := bz_s hm
        have hm := Option.some.inj hm
        subst hm
        exact q_zret (v := x8) hx hb hr hlocks hz hP hS dX8_spells_121
      · have hm := it_n c_29 hm
        refine lv_iload hx hb dX8_spells_32 (lv_at hl 1 rfl) ?_
        refine lv_if_eq (tgt := 119) hx hb dX8_spells_34 (by decide) (fun c_34 => ?_) (fun c_34 => ?_)
        · have hm := it_s c_34 hm
          refine lv_iload hx hb dX8_spells_119 (lv_at hl 1 rfl) ?_
          obtain ⟨hz, hm⟩ := bz_s hm
          have hm := Option.some.inj hm
          subst hm
          exact q_zret (v := x8) hx hb hr hlocks hz hP hS dX8_spells_121
        · have hm := it_n c_34 hm
          refine lv_aload_n hx hb dX8_spells_37 rfl (lv_at hl 2 rfl) ?_
          refine gf_X8_42 (v := .ref AT_by) hx hb hts hown hK hN hP 0 rfl rfl dX8_spells_38 ?_
          refine lv_aload_n hx hb dX8_spells_41 rfl (lv_at hl 2 rfl) ?_
          refine gf_X8_232 (v := .int vT_tka) hx hb hts hown hK hN hP 0 rfl rfl dX8_spells_42 ?_
          refine lv_iload hx hb dX8_spells_45 (lv_at hl 0 rfl) ?_
          refine lv_iadd hx hb dX8_spells_47 ?_
          obtain ⟨hi_48, hm⟩ := gd_s hm
          refine q_iald (j := (Int32.toNatClampNeg (vT_tka + x9))) hx hb hK hP 1 rfl hi_48 rfl dX8_spells_48 ?_
          refine lv_iload hx hb dX8_spells_49 (lv_at hl 0 rfl) ?_
          refine lv_if_ne (tgt := 58) hx hb dX8_spells_51 (by decide) (fun c_51 => ?_) (fun c_51 => ?_)
          · have hm := it_n c_51 hm
            refine lv_iload hx hb dX8_spells_58 (lv_at hl 0 rfl) ?_
            refine lv_iconst (v := 1) hx hb dX8_spells_60 (by decide) ?_
            refine lv_icmp_ne (tgt := 68) hx hb dX8_spells_61 (by decide) (fun c_61 => ?_) (fun c_61 => ?_)
            · have hm := it_n c_61 hm
              refine lv_iload hx hb dX8_spells_68 (lv_at hl 0 rfl) ?_
              refine lv_iconst (v := 2) hx hb dX8_spells_70 (by decide) ?_
              refine lv_icmp_ne (tgt := 79) hx hb dX8_spells_71 (by decide) (fun c_71 => ?_) (fun c_71 => ?_)
              · have hm := it_n c_71 hm
                refine lv_iload hx hb dX8_spells_79 (lv_at hl 0 rfl) ?_
                refine lv_iconst (v := 3) hx hb dX8_spells_81 (by decide) ?_
                refine lv_icmp_ne (tgt := 90) hx hb dX8_spells_82 (by decide) (fun c_82 => ?_) (fun c_82 => ?_)
                · have hm := it_n c_82 hm
                  refine lv_iload hx hb dX8_spells_90 (lv_at hl 0 rfl) ?_
                  refine lv_iconst (v := 4) hx hb dX8_spells_92 (by decide) ?_
                  refine lv_icmp_ne (tgt := 101) hx hb dX8_spells_93 (by decide) (fun c_93 => ?_) (fun c_93 => ?_)
                  · have hm := it_n c_93 hm
                    refine lv_iload hx hb dX8_spells_101 (lv_at hl 9 rfl) ?_
                    refine lv_icmp_ne (tgt := 110) hx hb dX8_spells_103 (by decide) (fun c_103 => ?_) (fun c_103 => ?_)
                    · have hm := it_n c_103 hm
                      refine lv_iconst (v := 0) hx hb dX8_spells_110 (by decide) ?_
                      refine lv_istore (lv' := [(8, .int 0), (9, .int x9), (0, .ref AT), (1, .int p1), (2, .int p2), (3, .int p3), (4, .int p4), (5, .int p5), (6, .int p6), (7, .int p7)]) hx hb dX8_spells_111 hl (by decide) rfl (fun ls hl => ?_)
                      refine lv_iinc (v := (x9 + 1)) (lv' := [(9, .int (x9 + 1)), (8, .int 0), (0, .ref AT), (1, .int p1), (2, .int p2), (3, .int p3), (4, .int p4), (5, .int p5), (6, .int p6), (7, .int p7)]) hx hb dX8_spells_113 hl (k := 1) rfl rfl (by decide) rfl (fun ls hl => ?_)
                      refine lv_goto (tgt := 26) hx hb dX8_spells_116 (by decide) ?_
                      exact ih_26 (x9 + 1) 0 H locs ls hm hP hD hS (lv_sub hl [0, 1, 2, 3, 4, 5, 6, 7, 8, 9] rfl)
                    · have hm := it_s c_103 hm
                      refine lv_iconst (v := 1) hx hb dX8_spells_106 (by decide) ?_
                      refine lv_goto (tgt := 111) hx hb dX8_spells_107 (by decide) ?_
                      refine lv_istore (lv' := [(8, .int 1), (9, .int x9), (0, .ref AT), (1, .int p1), (2, .int p2), (3, .int p3), (4, .int p4), (5, .int p5), (6, .int p6), (7, .int p7)]) hx hb dX8_spells_111 hl (by decide) rfl (fun ls hl => ?_)
                      refine lv_iinc (v := (x9 + 1)) (lv' := [(9, .int (x9 + 1)), (8, .int 1), (0, .ref AT), (1, .int p1), (2, .int p2), (3, .int p3), (4, .int p4), (5, .int p5), (6, .int p6), (7, .int p7)]) hx hb dX8_spells_113 hl (k := 1) rfl rfl (by decide) rfl (fun ls hl => ?_)
                      refine lv_goto (tgt := 26) hx hb dX8_spells_116 (by decide) ?_
                      exact ih_26 (x9 + 1) 1 H locs ls hm hP hD hS (lv_sub hl [0, 1, 2, 3, 4, 5, 6, 7, 8, 9] rfl)
                  · have hm := it_s c_93 hm
                    refine lv_iload hx hb dX8_spells_96 (lv_at hl 8 rfl) ?_
                    refine lv_goto (tgt := 103) hx hb dX8_spells_98 (by decide) ?_
                    refine lv_icmp_ne (tgt := 110) hx hb dX8_spells_103 (by decide) (fun c_103 => ?_) (fun c_103 => ?_)
                    · have hm := it_n c_103 hm
                      refine lv_iconst (v := 0) hx hb dX8_spells_110 (by decide) ?_
                      refine lv_istore (lv' := [(8, .int 0), (9, .int x9), (0, .ref AT), (1, .int p1), (2, .int p2), (3, .int p3), (4, .int p4), (5, .int p5), (6, .int p6), (7, .int p7)]) hx hb dX8_spells_111 hl (by decide) rfl (fun ls hl => ?_)
                      refine lv_iinc (v := (x9 + 1)) (lv' := [(9, .int (x9 + 1)), (8, .int 0), (0, .ref AT), (1, .int p1), (2, .int p2), (3, .int p3), (4, .int p4), (5, .int p5), (6, .int p6), (7, .int p7)]) hx hb dX8_spells_113 hl (k := 1) rfl rfl (by decide) rfl (fun ls hl => ?_)
                      refine lv_goto (tgt := 26) hx hb dX8_spells_116 (by decide) ?_
                      exact ih_26 (x9 + 1) 0 H locs ls hm hP hD hS (lv_sub hl [0, 1, 2, 3, 4, 5, 6, 7, 8, 9] rfl)
                    · have hm := it_s c_103 hm
                      refine lv_iconst (v := 1) hx hb dX8_spells_106 (by decide) ?_
                      refine lv_goto (tgt := 111) hx hb dX8_spells_107 (by decide) ?_
                      refine lv_istore (lv' := [(8, .int 1), (9, .int x9), (0, .ref AT), (1, .int p1), (2, .int p2), (3, .int p3), (4, .int p4), (5, .int p5), (6, .int p6), (7, .int p7)]) hx hb dX8_spells_111 hl (by decide) rfl (fun ls hl => ?_)
                      refine lv_iinc (v := (x9 + 1)) (lv' := [(9, .int (x9 + 1)), (8, .int 1), (0, .ref AT), (1, .int p1), (2, .int p2), (3, .int p3), (4, .int p4), (5, .int p5), (6, .int p6), (7, .int p7)]) hx hb dX8_spells_113 hl (k := 1) rfl rfl (by decide) rfl (fun ls hl => ?_)
                      refine lv_goto (tgt := 26) hx hb dX8_spells_116 (by decide) ?_
                      exact ih_26 (x9 + 1) 1 H locs ls hm hP hD hS (lv_sub hl [0, 1, 2, 3, 4, 5, 6, 7, 8, 9] rfl)
                · have hm := it_s c_82 hm
                  refine lv_iload hx hb dX8_spells_85 (lv_at hl 7 rfl) ?_
                  refine lv_goto (tgt := 103) hx hb dX8_spells_87 (by decide) ?_
                  refine lv_icmp_ne (tgt := 110) hx hb dX8_spells_103 (by decide) (fun c_103 => ?_) (fun c_103 => ?_)
                  · have hm := it_n c_103 hm
                    refine lv_iconst (v := 0) hx hb dX8_spells_110 (by decide) ?_
                    refine lv_istore (lv' := [(8, .int 0), (9, .int x9), (0, .ref AT), (1, .int p1), (2, .int p2), (3, .int p3), (4, .int p4), (5, .int p5), (6, .int p6), (7, .int p7)]) hx hb dX8_spells_111 hl (by decide) rfl (fun ls hl => ?_)
                    refine lv_iinc (v := (x9 + 1)) (lv' := [(9, .int (x9 + 1)), (8, .int 0), (0, .ref AT), (1, .int p1), (2, .int p2), (3, .int p3), (4, .int p4), (5, .int p5), (6, .int p6), (7, .int p7)]) hx hb dX8_spells_113 hl (k := 1) rfl rfl (by decide) rfl (fun ls hl => ?_)
                    refine lv_goto (tgt := 26) hx hb dX8_spells_116 (by decide) ?_
                    exact ih_26 (x9 + 1) 0 H locs ls hm hP hD hS (lv_sub hl [0, 1, 2, 3, 4, 5, 6, 7, 8, 9] rfl)
                  · have hm := it_s c_103 hm
                    refine lv_iconst (v := 1) hx hb dX8_spells_106 (by decide) ?_
                    refine lv_goto (tgt := 111) hx hb dX8_spells_107 (by decide) ?_
                    refine lv_istore (lv' := [(8, .int 1), (9, .int x9), (0, .ref AT), (1, .int p1), (2, .int p2), (3, .int p3), (4, .int p4), (5, .int p5), (6, .int p6), (7, .int p7)]) hx hb dX8_spells_111 hl (by decide) rfl (fun ls hl => ?_)
                    refine lv_iinc (v := (x9 + 1)) (lv' := [(9, .int (x9 + 1)), (8, .int 1), (0, .ref AT), (1, .int p1), (2, .int p2), (3, .int p3), (4, .int p4), (5, .int p5), (6, .int p6), (7, .int p7)]) hx hb dX8_spells_113 hl (k := 1) rfl rfl (by decide) rfl (fun ls hl => ?_)
                    refine lv_goto (tgt := 26) hx hb dX8_spells_116 (by decide) ?_
                    exact ih_26 (x9 + 1) 1 H locs ls hm hP hD hS (lv_sub hl [0, 1, 2, 3, 4, 5, 6, 7, 8, 9] rfl)
              · have hm := it_s c_71 hm
                refine lv_iload hx hb dX8_spells_74 (lv_at hl 6 rfl) ?_
                refine lv_goto (tgt := 103) hx hb dX8_spells_76 (by decide) ?_
                refine lv_icmp_ne (tgt := 110) hx hb dX8_spells_103 (by decide) (fun c_103 => ?_) (fun c_103 => ?_)
                · have hm := it_n c_103 hm
                  refine lv_iconst (v := 0) hx hb dX8_spells_110 (by decide) ?_
                  refine lv_istore (lv' := [(8, .int 0), (9, .int x9), (0, .ref AT), (1, .int p1), (2, .int p2), (3, .int p3), (4, .int p4), (5, .int p5), (6, .int p6), (7, .int p7)]) hx hb dX8_spells_111 hl (by decide) rfl (fun ls hl => ?_)
                  refine lv_iinc (v := (x9 + 1)) (lv' := [(9, .int (x9 + 1)), (8, .int 0), (0, .ref AT), (1, .int p1), (2, .int p2), (3, .int p3), (4, .int p4), (5, .int p5), (6, .int p6), (7, .int p7)]) hx hb dX8_spells_113 hl (k := 1) rfl rfl (by decide) rfl (fun ls hl => ?_)
                  refine lv_goto (tgt := 26) hx hb dX8_spells_116 (by decide) ?_
                  exact ih_26 (x9 + 1) 0 H locs ls hm hP hD hS (lv_sub hl [0, 1, 2, 3, 4, 5, 6, 7, 8, 9] rfl)
                · have hm := it_s c_103 hm
                  refine lv_iconst (v := 1) hx hb dX8_spells_106 (by decide) ?_
                  refine lv_goto (tgt := 111) hx hb dX8_spells_107 (by decide) ?_
                  refine lv_istore (lv' := [(8, .int 1), (9, .int x9), (0, .ref AT), (1, .int p1), (2, .int p2), (3, .int p3), (4, .int p4), (5, .int p5), (6, .int p6), (7, .int p7)]) hx hb dX8_spells_111 hl (by decide) rfl (fun ls hl => ?_)
                  refine lv_iinc (v := (x9 + 1)) (lv' := [(9, .int (x9 + 1)), (8, .int 1), (0, .ref AT), (1, .int p1), (2, .int p2), (3, .int p3), (4, .int p4), (5, .int p5), (6, .int p6), (7, .int p7)]) hx hb dX8_spells_113 hl (k := 1) rfl rfl (by decide) rfl (fun ls hl => ?_)
                  refine lv_goto (tgt := 26) hx hb dX8_spells_116 (by decide) ?_
                  exact ih_26 (x9 + 1) 1 H locs ls hm hP hD hS (lv_sub hl [0, 1, 2, 3, 4, 5, 6, 7, 8, 9] rfl)
            · have hm := it_s c_61 hm
              refine lv_iload_n hx hb dX8_spells_64 rfl (lv_at hl 5 rfl) ?_
              refine lv_goto (tgt := 103) hx hb dX8_spells_65 (by decide) ?_
              refine lv_icmp_ne (tgt := 110) hx hb dX8_spells_103 (by decide) (fun c_103 => ?_) (fun c_103 => ?_)
              · have hm := it_n c_103 hm
                refine lv_iconst (v := 0) hx hb dX8_spells_110 (by decide) ?_
                refine lv_istore (lv' := [(8, .int 0), (9, .int x9), (0, .ref AT), (1, .int p1), (2, .int p2), (3, .int p3), (4, .int p4), (5, .int p5), (6, .int p6), (7, .int p7)]) hx hb dX8_spells_111 hl (by decide) rfl (fun ls hl => ?_)
                refine lv_iinc (v := (x9 + 1)) (lv' := [(9, .int (x9 + 1)), (8, .int 0), (0, .ref AT), (1, .int p1), (2, .int p2), (3, .int p3), (4, .int p4), (5, .int p5), (6, .int p6), (7, .int p7)]) hx hb dX8_spells_113 hl (k := 1) rfl rfl (by decide) rfl (fun ls hl => ?_)
                refine lv_goto (tgt := 26) hx hb dX8_spells_116 (by decide) ?_
                exact ih_26 (x9 + 1) 0 H locs ls hm hP hD hS (lv_sub hl [0, 1, 2, 3, 4, 5, 6, 7, 8, 9] rfl)
              · have hm := it_s c_103 hm
                refine lv_iconst (v := 1) hx hb dX8_spells_106 (by decide) ?_
                refine lv_goto (tgt := 111) hx hb dX8_spells_107 (by decide) ?_
                refine lv_istore (lv' := [(8, .int 1), (9, .int x9), (0, .ref AT), (1, .int p1), (2, .int p2), (3, .int p3), (4, .int p4), (5, .int p5), (6, .int p6), (7, .int p7)]) hx hb dX8_spells_111 hl (by decide) rfl (fun ls hl => ?_)
                refine lv_iinc (v := (x9 + 1)) (lv' := [(9, .int (x9 + 1)), (8, .int 1), (0, .ref AT), (1, .int p1), (2, .int p2), (3, .int p3), (4, .int p4), (5, .int p5), (6, .int p6), (7, .int p7)]) hx hb dX8_spells_113 hl (k := 1) rfl rfl (by decide) rfl (fun ls hl => ?_)
                refine lv_goto (tgt := 26) hx hb dX8_spells_116 (by decide) ?_
                exact ih_26 (x9 + 1) 1 H locs ls hm hP hD hS (lv_sub hl [0, 1, 2, 3, 4, 5, 6, 7, 8, 9] rfl)
          · have hm := it_s c_51 hm
            refine lv_iload_n hx hb dX8_spells_54 rfl (lv_at hl 4 rfl) ?_
            refine lv_goto (tgt := 103) hx hb dX8_spells_55 (by decide) ?_
            refine lv_icmp_ne (tgt := 110) hx hb dX8_spells_103 (by decide) (fun c_103 => ?_) (fun c_103 => ?_)
            · have hm := it_n c_103 hm
              refine lv_iconst (v := 0) hx hb dX8_spells_110 (by decide) ?_
              refine lv_istore (lv' := [(8, .int 0), (9, .int x9), (0, .ref AT), (1, .int p1), (2, .int p2), (3, .int p3), (4, .int p4), (5, .int p5), (6, .int p6), (7, .int p7)]) hx hb dX8_spells_111 hl (by decide) rfl (fun ls hl => ?_)
              refine lv_iinc (v := (x9 + 1)) (lv' := [(9, .int (x9 + 1)), (8, .int 0), (0, .ref AT), (1, .int p1), (2, .int p2), (3, .int p3), (4, .int p4), (5, .int p5), (6, .int p6), (7, .int p7)]) hx hb dX8_spells_113 hl (k := 1) rfl rfl (by decide) rfl (fun ls hl => ?_)
              refine lv_goto (tgt := 26) hx hb dX8_spells_116 (by decide) ?_
              exact ih_26 (x9 + 1) 0 H locs ls hm hP hD hS (lv_sub hl [0, 1, 2, 3, 4, 5, 6, 7, 8, 9] rfl)
            · have hm := it_s c_103 hm
              refine lv_iconst (v := 1) hx hb dX8_spells_106 (by decide) ?_
              refine lv_goto (tgt := 111) hx hb dX8_spells_107 (by decide) ?_
              refine lv_istore (lv' := [(8, .int 1), (9, .int x9), (0, .ref AT), (1, .int p1), (2, .int p2), (3, .int p3), (4, .int p4), (5, .int p5), (6, .int p6), (7, .int p7)]) hx hb dX8_spells_111 hl (by decide) rfl (fun ls hl => ?_)
              refine lv_iinc (v := (x9 + 1)) (lv' := [(9, .int (x9 + 1)), (8, .int 1), (0, .ref AT), (1, .int p1), (2, .int p2), (3, .int p3), (4, .int p4), (5, .int p5), (6, .int p6), (7, .int p7)]) hx hb dX8_spells_113 hl (k := 1) rfl rfl (by decide) rfl (fun ls hl => ?_)
              refine lv_goto (tgt := 26) hx hb dX8_spells_116 (by decide) ?_
              exact ih_26 (x9 + 1) 1 H locs ls hm hP hD hS (lv_sub hl [0, 1, 2, 3, 4, 5, 6, 7, 8, 9] rfl)
  unfold fm_X8_spells at hm
  refine q_gen hS hP ?_
  intro H locs hP hS
  refine lv_aload_n hx hb dX8_spells_0 rfl (lv_at hl 0 rfl) ?_
  refine gf_X8_238 (v := .int vT_tkn) hx hb hts hown hK hN hP 0 rfl rfl dX8_spells_1 ?_
  refine lv_iconst (v := 1) hx hb dX8_spells_4 (by decide) ?_
  refine lv_icmp_ne (tgt := 20) hx hb dX8_spells_5 (by decide) (fun c_5 => ?_) (fun c_5 => ?_)
  · have hm := it_n c_5 hm
    refine lv_iconst (v := 0) hx hb dX8_spells_20 (by decide) ?_
    refine lv_istore (lv' := [(8, .int 0), (0, .ref AT), (1, .int p1), (2, .int p2), (3, .int p3), (4, .int p4), (5, .int p5), (6, .int p6), (7, .int p7)]) hx hb dX8_spells_21 hl (by decide) rfl (fun ls hl => ?_)
    refine lv_iconst (v := 0) hx hb dX8_spells_23 (by decide) ?_
    refine lv_istore (lv' := [(9, .int 0), (8, .int 0), (0, .ref AT), (1, .int p1), (2, .int p2), (3, .int p3), (4, .int p4), (5, .int p5), (6, .int p6), (7, .int p7)]) hx hb dX8_spells_24 hl (by decide) rfl (fun ls hl => ?_)
    exact hL_26 FU 0 0 H locs ls hm hP hD hS (lv_sub hl [0, 1, 2, 3, 4, 5, 6, 7, 8, 9] rfl)
  · have hm := it_s c_5 hm
    refine lv_aload_n hx hb dX8_spells_8 rfl (lv_at hl 0 rfl) ?_
    refine gf_X8_235 (v := .int vT_tkl) hx hb hts hown hK hN hP 0 rfl rfl dX8_spells_9 ?_
    refine lv_iload_n hx hb dX8_spells_12 rfl (lv_at hl 1 rfl) ?_
    refine lv_icmp_ne (tgt := 20) hx hb dX8_spells_13 (by decide) (fun c_13 => ?_) (fun c_13 => ?_)
    · have hm := it_n c_13 hm
      refine lv_iconst (v := 0) hx hb dX8_spells_20 (by decide) ?_
      refine lv_istore (lv' := [(8, .int 0), (0, .ref AT), (1, .int p1), (2, .int p2), (3, .int p3), (4, .int p4), (5, .int p5), (6, .int p6), (7, .int p7)]) hx hb dX8_spells_21 hl (by decide) rfl (fun ls hl => ?_)
      refine lv_iconst (v := 0) hx hb dX8_spells_23 (by decide) ?_
      refine lv_istore (lv' := [(9, .int 0), (8, .int 0), (0, .ref AT), (1, .int p1), (2, .int p2), (3, .int p3), (4, .int p4), (5, .int p5), (6, .int p6), (7, .int p7)]) hx hb dX8_spells_24 hl (by decide) rfl (fun ls hl => ?_)
      exact hL_26 FU 0 0 H locs ls hm hP hD hS (lv_sub hl [0, 1, 2, 3, 4, 5, 6, 7, 8, 9] rfl)
    · have hm := it_s c_13 hm
      refine lv_iconst (v := 1) hx hb dX8_spells_16 (by decide) ?_
      refine lv_goto (tgt := 21) hx hb dX8_spells_17 (by decide) ?_
      refine lv_istore (lv' := [(8, .int 1), (0, .ref AT), (1, .int p1), (2, .int p2), (3, .int p3), (4, .int p4), (5, .int p5), (6, .int p6), (7, .int p7)]) hx hb dX8_spells_21 hl (by decide) rfl (fun ls hl => ?_)
      refine lv_iconst (v := 0) hx hb dX8_spells_23 (by decide) ?_
      refine lv_istore (lv' := [(9, .int 0), (8, .int 1), (0, .ref AT), (1, .int p1), (2, .int p2), (3, .int p3), (4, .int p4), (5, .int p5), (6, .int p6), (7, .int p7)]) hx hb dX8_spells_24 hl (by decide) rfl (fun ls hl => ?_)
      exact hL_26 FU 0 1 H locs ls hm hP hD hS (lv_sub hl [0, 1, 2, 3, 4, 5, 6, 7, 8, 9] rfl)
theorem gf_X8_48 {p : Program} {l : Launch} {e : Env} {R : Room} {s : State} {m : MethodId} {args : Array Value} {below : List Frame} {meth : Method} {c : Code} {H : Heap} {locs : List Loc} {cells slots : Nat} {Q : State → Prop} {pc : Nat} {ls : Array Slot} {cc : ByteArray} {D : va_G} {cI cZ : ClassId} {ws : va_W} {a : Nat} {rest fs : List Value} (hx : p.tables.exec = Jvm.exec) (hb : c.code = cc) (hts : ∀ w ∈ bg, w.before args s = true) (hown : s.vm.findClass RX8 = some m.cls) (hK : va_K D vwCl (q_tys cI cZ) s) (hN : q_N s) (hP : va_P D vwCl ws H) (q0 : Nat) (he : ws[q0]? = some (a, .inr (8, fs))) {v : Value} (hv : fs[18]? = some v) (hdg : decode cc pc = .ok (.getfield 48, 3)) (kk : W p l e R s m args below meth c H locs cells slots Q (F0 m (pc + 3) ls (v :: rest))) : W p l e R s m args below meth c H locs cells slots Q (F0 m pc ls (.ref a :: rest)) :=
  va_get (C := RX8) (T := TX8) (N := 19) hx hb hts wu_X8 hown hK hP q0 he rfl 18 (by decide) (hts _ wf_X8_48) (fun _ h9 => h9) hv hdg kk
theorem mb_X8_takes : q_mb yX8_takes cX8_takes 4 (some .boolean) 3 := ⟨wc_X8_takes, wn_X8, by decide, by decide, by decide +kernel⟩
theorem mv_X8_takes : q_mv yX8_takes 8 := ⟨wi_X8_takes, ws_X8_takes, _, rfl, rfl⟩
def wd_X8_takes (cI cZ : ClassId) (AT AT_al AT_kp AT_ik AT_rf AT_hd AT_bs AT_se AT_bf AT_te AT_by AT_an AT_vs : Nat) (vT_ab : Int64) (vT_be : Int64) (vT_byl : Int32) (vT_tka : Int32) (vT_tkl : Int32) (vT_tkn : Int32) (vT_val : Int32) (fT_vs : Nat → Int32) (fT_by : Nat → Int32) : va_W := [(AT, .inr (8, [.ref AT_al, .ref AT_kp, .ref AT_ik, .ref AT_rf, .long vT_ab, .long vT_be, .ref AT_hd, .ref AT_bs, .ref AT_se, .ref AT_bf, .ref AT_te, .ref AT_by, .int vT_byl, .int vT_tka, .int vT_tkl, .int vT_tkn, .int vT_val, .ref AT_an, .ref AT_vs])), (AT_vs, .inl (cI, 3, .inl fT_vs)), (AT_by, .inl (cI, 150, .inl fT_by))]
def fm_X8_takes (p1 : Int32) (p2 : Int32) (p3 : Int32) (vT_byl : Int32) (vT_tka : Int32) (vT_tkl : Int32) (vT_tkn : Int32) (vT_val : Int32) (fT_vs : Nat → Int32) (fT_by : Nat → Int32) : Option (Int32 × Int32 × Int32 × Int32 × Int32 × (Nat → Int32)) := if vT_tkn = 2 then (Option.bind (fm_X8_in (Int32.toInt64 vT_val) (Int32.toInt64 p2) (Int32.toInt64 p3)) (fun r_17 => if r_17 = 0 then (some (0, vT_tka, vT_tkl, vT_tkn, vT_val, fT_vs)) else (gd p1 3 (Option.bind (fm_X8_goBehind vT_byl vT_tka vT_tkl vT_tkn vT_val fT_by) (fun r_36 => some (1, r_36.1, r_36.2.1, r_36.2.2.1, r_36.2.2.2, (upd fT_vs (Int32.toNatClampNeg p1) vT_val))))))) else (some (0, vT_tka, vT_tkl, vT_tkn, vT_val, fT_vs))
set_option maxHeartbeats 4000000 in
set_option maxRecDepth 100000 in
theorem c_X8_takes (l : Launch) (D : va_G) (cI cZ : ClassId) (sz : Nat) (AT AT_al AT_kp AT_ik AT_rf AT_hd AT_bs AT_se AT_bf AT_te AT_by AT_an AT_vs : Nat) (vT_ab : Int64) (vT_be : Int64) (vT_byl : Int32) (vT_tka : Int32) (vT_tkl : Int32) (vT_tkn : Int32) (vT_val : Int32) (fT_vs : Nat → Int32) (fT_by : Nat → Int32) (p1 : Int32) (p2 : Int32) (p3 : Int32) (out : (Int32 × Int32 × Int32 × Int32 × Int32 × (Nat → Int32))) (hm : fm_X8_takes p1 p2 p3 vT_byl vT_tka vT_tkl vT_tkn vT_val fT_vs fT_by = some out) : Met l yX8_takes (Cond.code yX8_takes cX8_takes 4 (some .boolean) :: bg) { frames := 4, cells := 0, slots := 0, locals := 89 } (va_Pc [.ref AT, .int p1, .int p2, .int p3] (q_pre D cI cZ sz (wd_X8_takes cI cZ AT AT_al AT_kp AT_ik AT_rf AT_hd AT_bs AT_se AT_bf AT_te AT_by AT_an AT_vs vT_ab vT_be vT_byl vT_tka vT_tkl vT_tkn vT_val fT_vs fT_by))) (q_Qi D (wd_X8_takes cI cZ AT AT_al AT_kp AT_ik AT_rf AT_hd AT_bs AT_se AT_bf AT_te AT_by AT_an AT_vs vT_ab vT_be vT_byl out.2.1 out.2.2.1 out.2.2.2.1 out.2.2.2.2.1 out.2.2.2.2.2 fT_by) out.1 (va_A (wd_X8_takes cI cZ AT AT_al AT_kp AT_ik AT_rf AT_hd AT_bs AT_se AT_bf AT_te AT_by AT_an AT_vs vT_ab vT_be vT_byl vT_tka vT_tkl vT_tkn vT_val fT_vs fT_by) sz)) 0 0 (va_A (wd_X8_takes cI cZ AT AT_al AT_kp AT_ik AT_rf AT_hd AT_bs AT_se AT_bf AT_te AT_by AT_an AT_vs vT_ab vT_be vT_byl vT_tka vT_tkl vT_tkn vT_val fT_vs fT_by) sz) := by
  refine q_met (fun A => q_Qi D (wd_X8_takes cI cZ AT AT_al AT_kp AT_ik AT_rf AT_hd AT_bs AT_se AT_bf AT_te AT_by AT_an AT_vs vT_ab vT_be vT_byl out.2.1 out.2.2.1 out.2.2.2.1 out.2.2.2.2.1 out.2.2.2.2.2 fT_by) out.1 A) (by decide) (Nat.le_of_ble_eq_true rfl) ?_
  intro p e s m below meth c ls A hx hb hr hml hown hts hlocks _ hA hS hP hD hK hN hl
  have hown : s.vm.findClass RX8 = some m.cls := hown
  have hl : lv_has ls 4 [(0, .ref AT), (1, .int p1), (2, .int p2), (3, .int p3)] := hl
  unfold fm_X8_takes at hm
  refine q_gen hS hP ?_
  intro H locs hP hS
  refine lv_aload_n hx hb dX8_takes_0 rfl (lv_at hl 0 rfl) ?_
  refine gf_X8_238 (v := .int vT_tkn) hx hb hts hown hK hN hP 0 rfl rfl dX8_takes_1 ?_
  refine lv_iconst (v := 2) hx hb dX8_takes_4 (by decide) ?_
  refine lv_icmp_ne (tgt := 23) hx hb dX8_takes_5 (by decide) (fun c_5 => ?_) (fun c_5 => ?_)
  · have hm := it_n c_5 hm
    refine lv_iconst (v := 0) hx hb dX8_takes_23 (by decide) ?_
    have hm := Option.some.inj hm
    subst hm
    exact q_zret (v := 0) hx hb hr hlocks rfl hP hS dX8_takes_24
  · have hm := it_s c_5 hm
    refine lv_aload_n hx hb dX8_takes_8 rfl (lv_at hl 0 rfl) ?_
    refine gf_X8_241 (v := .int vT_val) hx hb hts hown hK hN hP 0 rfl rfl dX8_takes_9 ?_
    refine lv_i2l (v := (Int32.toInt64 vT_val)) hx hb dX8_takes_12 rfl ?_
    refine lv_iload_n hx hb dX8_takes_13 rfl (lv_at hl 2 rfl) ?_
    refine lv_i2l (v := (Int32.toInt64 p2)) hx hb dX8_takes_14 rfl ?_
    refine lv_iload_n hx hb dX8_takes_15 rfl (lv_at hl 3 rfl) ?_
    refine lv_i2l (v := (Int32.toInt64 p3)) hx hb dX8_takes_16 rfl ?_
    obtain ⟨r_17, hc_17, hm⟩ := ob_s hm
    refine q_ci (q_rs (rest := []) ⟨hx, hb, hml, hown, hts⟩ hK hN hP hD (c_X8_in l D cI cZ H.size (Int32.toInt64 vT_val) (Int32.toInt64 p2) (Int32.toInt64 p3) r_17 hc_17) mb_X8_in wt_X8_in wl_X8_59 [] rfl rfl (Nat.le_of_ble_eq_true rfl) (Nat.le_of_ble_eq_true rfl) rfl hl.1 rfl (Nat.le_of_ble_eq_true rfl) ⟨Nat.le_refl 0, Nat.le_refl 0⟩ dX8_takes_17) hP hD hS hA [] rfl rfl (fun H locs hP hD hS => ?_)
    have hP : va_P D vwCl (wd_X8_takes cI cZ AT AT_al AT_kp AT_ik AT_rf AT_hd AT_bs AT_se AT_bf AT_te AT_by AT_an AT_vs vT_ab vT_be vT_byl vT_tka vT_tkl vT_tkn vT_val fT_vs fT_by) H := hP
    have hD : va_D A (wd_X8_takes cI cZ AT AT_al AT_kp AT_ik AT_rf AT_hd AT_bs AT_se AT_bf AT_te AT_by AT_an AT_vs vT_ab vT_be vT_byl vT_tka vT_tkl vT_tkn vT_val fT_vs fT_by) := hD
    refine lv_if_ne (tgt := 25) hx hb dX8_takes_20 (by decide) (fun c_20 => ?_) (fun c_20 => ?_)
    · have hm := it_n c_20 hm
      refine lv_aload_n hx hb dX8_takes_25 rfl (lv_at hl 0 rfl) ?_
      refine gf_X8_48 (v := .ref AT_vs) hx hb hts hown hK hN hP 0 rfl rfl dX8_takes_26 ?_
      refine lv_iload_n hx hb dX8_takes_29 rfl (lv_at hl 1 rfl) ?_
      refine lv_aload_n hx hb dX8_takes_30 rfl (lv_at hl 0 rfl) ?_
      refine gf_X8_241 (v := .int vT_val) hx hb hts hown hK hN hP 0 rfl rfl dX8_takes_31 ?_
      obtain ⟨hi_34, hm⟩ := gd_s hm
      refine q_iast (j := (Int32.toNatClampNeg p1)) hx hb hK hP hD hS 1 rfl hi_34 rfl dX8_takes_34 (fun H locs hP hD hS => ?_)
      have hP : va_P D vwCl (wd_X8_takes cI cZ AT AT_al AT_kp AT_ik AT_rf AT_hd AT_bs AT_se AT_bf AT_te AT_by AT_an AT_vs vT_ab vT_be vT_byl vT_tka vT_tkl vT_tkn vT_val (upd fT_vs (Int32.toNatClampNeg p1) vT_val) fT_by) H := hP
      have hD : va_D A (wd_X8_takes cI cZ AT AT_al AT_kp AT_ik AT_rf AT_hd AT_bs AT_se AT_bf AT_te AT_by AT_an AT_vs vT_ab vT_be vT_byl vT_tka vT_tkl vT_tkn vT_val (upd fT_vs (Int32.toNatClampNeg p1) vT_val) fT_by) := hD
      refine lv_aload_n hx hb dX8_takes_35 rfl (lv_at hl 0 rfl) ?_
      obtain ⟨r_36, hc_36, hm⟩ := ob_s hm
      refine q_cv (q_rv (rest := []) ⟨hx, hb, hml, hown, hts⟩ hK hN hP hD (c_X8_goBehind l D cI cZ H.size AT AT_al AT_kp AT_ik AT_rf AT_hd AT_bs AT_se AT_bf AT_te AT_by AT_an AT_vs vT_ab vT_be vT_byl vT_tka vT_tkl vT_tkn vT_val fT_by r_36 hc_36) mb_X8_goBehind mv_X8_goBehind wl_X8_254 [0, 2] rfl rfl rfl (Nat.le_of_ble_eq_true rfl) (Nat.le_of_ble_eq_true rfl) rfl hl.1 rfl (Nat.le_of_ble_eq_true rfl) ⟨Nat.le_refl 0, Nat.le_refl 0⟩ dX8_takes_36) hP hD hS hA [0, 2] rfl rfl (fun H locs hP hD hS => ?_)
      have hP : va_P D vwCl (wd_X8_takes cI cZ AT AT_al AT_kp AT_ik AT_rf AT_hd AT_bs AT_se AT_bf AT_te AT_by AT_an AT_vs vT_ab vT_be vT_byl r_36.1 r_36.2.1 r_36.2.2.1 r_36.2.2.2 (upd fT_vs (Int32.toNatClampNeg p1) vT_val) fT_by) H := hP
      have hD : va_D A (wd_X8_takes cI cZ AT AT_al AT_kp AT_ik AT_rf AT_hd AT_bs AT_se AT_bf AT_te AT_by AT_an AT_vs vT_ab vT_be vT_byl r_36.1 r_36.2.1 r_36.2.2.1 r_36.2.2.2 (upd fT_vs (Int32.toNatClampNeg p1) vT_val) fT_by) := hD
      refine lv_iconst (v := 1) hx hb dX8_takes_39 (by decide) ?_
      have hm := Option.some.inj hm
      subst hm
      exact q_zret (v := 1) hx hb hr hlocks rfl hP hS dX8_takes_40
    · have hm := it_s c_20 hm
      refine lv_iconst (v := 0) hx hb dX8_takes_23 (by decide) ?_
      have hm := Option.some.inj hm
      subst hm
      exact q_zret (v := 0) hx hb hr hlocks rfl hP hS dX8_takes_24
theorem mb_X8_spellsSleeper : q_mb yX8_spellsSleeper cX8_spellsSleeper 2 (some .boolean) 0 := ⟨wc_X8_spellsSleeper, wn_X8, by decide, by decide, by decide +kernel⟩
theorem mv_X8_spellsSleeper : q_mv yX8_spellsSleeper 8 := ⟨wi_X8_spellsSleeper, ws_X8_spellsSleeper, _, rfl, rfl⟩
def wd_X8_spellsSleeper (cI cZ : ClassId) (AT AT_al AT_kp AT_ik AT_rf AT_hd AT_bs AT_se AT_bf AT_te AT_by AT_an AT_vs : Nat) (vT_ab : Int64) (vT_be : Int64) (vT_byl : Int32) (vT_tka : Int32) (vT_tkl : Int32) (vT_tkn : Int32) (vT_val : Int32) (fT_by : Nat → Int32) : va_W := [(AT, .inr (8, [.ref AT_al, .ref AT_kp, .ref AT_ik, .ref AT_rf, .long vT_ab, .long vT_be, .ref AT_hd, .ref AT_bs, .ref AT_se, .ref AT_bf, .ref AT_te, .ref AT_by, .int vT_byl, .int vT_tka, .int vT_tkl, .int vT_tkn, .int vT_val, .ref AT_an, .ref AT_vs])), (AT_by, .inl (cI, 150, .inl fT_by))]
def fm_X8_spellsSleeper (vT_tka : Int32) (vT_tkl : Int32) (vT_tkn : Int32) (fT_by : Nat → Int32) : Option (Int32) := if vT_tkn = 1 then (if vT_tkl = 7 then (gd vT_tka 150 (if (fT_by (Int32.toNatClampNeg vT_tka)) = 115 then (gd (vT_tka + 1) 150 (if (fT_by (Int32.toNatClampNeg (vT_tka + 1))) = 108 then (gd (vT_tka + 2) 150 (if (fT_by (Int32.toNatClampNeg (vT_tka + 2))) = 101 then (gd (vT_tka + 3) 150 (if (fT_by (Int32.toNatClampNeg (vT_tka + 3))) = 101 then (gd (vT_tka + 4) 150 (if (fT_by (Int32.toNatClampNeg (vT_tka + 4))) = 112 then (gd (vT_tka + 5) 150 (if (fT_by (Int32.toNatClampNeg (vT_tka + 5))) = 101 then (gd (vT_tka + 6) 150 (if (fT_by (Int32.toNatClampNeg (vT_tka + 6))) = 114 then (some (1)) else (some (0)))) else (some (0)))) else (some (0)))) else (some (0)))) else (some (0)))) else (some (0)))) else (some (0)))) else (some (0))) else (some (0))
set_option maxHeartbeats 4000000 in
set_option maxRecDepth 100000 in
theorem c_X8_spellsSleeper (l : Launch) (D : va_G) (cI cZ : ClassId) (sz : Nat) (AT AT_al AT_kp AT_ik AT_rf AT_hd AT_bs AT_se AT_bf AT_te AT_by AT_an AT_vs : Nat) (vT_ab : Int64) (vT_be : Int64) (vT_byl : Int32) (vT_tka : Int32) (vT_tkl : Int32) (vT_tkn : Int32) (vT_val : Int32) (fT_by : Nat → Int32) (out : (Int32)) (hm : fm_X8_spellsSleeper vT_tka vT_tkl vT_tkn fT_by = some out) : Met l yX8_spellsSleeper (Cond.code yX8_spellsSleeper cX8_spellsSleeper 2 (some .boolean) :: bg) { frames := 0, cells := 0, slots := 0, locals := 0 } (va_Pc [.ref AT] (q_pre D cI cZ sz (wd_X8_spellsSleeper cI cZ AT AT_al AT_kp AT_ik AT_rf AT_hd AT_bs AT_se AT_bf AT_te AT_by AT_an AT_vs vT_ab vT_be vT_byl vT_tka vT_tkl vT_tkn vT_val fT_by))) (q_Qi D (wd_X8_spellsSleeper cI cZ AT AT_al AT_kp AT_ik AT_rf AT_hd AT_bs AT_se AT_bf AT_te AT_by AT_an AT_vs vT_ab vT_be vT_byl vT_tka vT_tkl vT_tkn vT_val fT_by) out (va_A (wd_X8_spellsSleeper cI cZ AT AT_al AT_kp AT_ik AT_rf AT_hd AT_bs AT_se AT_bf AT_te AT_by AT_an AT_vs vT_ab vT_be vT_byl vT_tka vT_tkl vT_tkn vT_val fT_by) sz)) 0 0 (va_A (wd_X8_spellsSleeper cI cZ AT AT_al AT_kp AT_ik AT_rf AT_hd AT_bs AT_se AT_bf AT_te AT_by AT_an AT_vs vT_ab vT_be vT_byl vT_tka vT_tkl vT_tkn vT_val fT_by) sz) := by
  refine q_met (fun A => q_Qi D (wd_X8_spellsSleeper cI cZ AT AT_al AT_kp AT_ik AT_rf AT_hd AT_bs AT_se AT_bf AT_te AT_by AT_an AT_vs vT_ab vT_be vT_byl vT_tka vT_tkl vT_tkn vT_val fT_by) out A) (by decide) (Nat.le_of_ble_eq_true rfl) ?_
  intro p e s m below meth c ls A hx hb hr hml hown hts hlocks _ hA hS hP hD hK hN hl
  have hown : s.vm.findClass RX8 = some m.cls := hown
  have hl : lv_has ls 2 [(0, .ref AT)] := hl
  unfold fm_X8_spellsSleeper at hm
  refine q_gen hS hP ?_
  intro H locs hP hS
  refine lv_aload_n hx hb dX8_spellsSleeper_0 rfl (lv_at hl 0 rfl) ?_
  refine gf_X8_238 (v := .int vT_tkn) hx hb hts hown hK hN hP 0 rfl rfl dX8_spellsSleeper_1 ?_
  refine lv_iconst (v := 1) hx hb dX8_spellsSleeper_4 (by decide) ?_
  refine lv_icmp_ne (tgt := 21) hx hb dX8_spellsSleeper_5 (by decide) (fun c_5 => ?_) (fun c_5 => ?_)
  · have hm := it_n c_5 hm
    refine lv_iconst (v := 0) hx hb dX8_spellsSleeper_21 (by decide) ?_
    refine lv_istore_n (lv' := [(1, .int 0), (0, .ref AT)]) hx hb dX8_spellsSleeper_22 rfl hl (by decide) rfl (fun ls hl => ?_)
    refine lv_iload_n hx hb dX8_spellsSleeper_23 rfl (lv_at hl 0 rfl) ?_
    refine lv_if_eq (tgt := 142) hx hb dX8_spellsSleeper_24 (by decide) (fun _ => ?_) (fun c => absurd c (by decide))
    refine lv_iconst (v := 0) hx hb dX8_spellsSleeper_142 (by decide) ?_
    have hm := Option.some.inj hm
    subst hm
    exact q_zret (v := 0) hx hb hr hlocks rfl hP hS dX8_spellsSleeper_143
  · have hm := it_s c_5 hm
    refine lv_aload_n hx hb dX8_spellsSleeper_8 rfl (lv_at hl 0 rfl) ?_
    refine gf_X8_235 (v := .int vT_tkl) hx hb hts hown hK hN hP 0 rfl rfl dX8_spellsSleeper_9 ?_
    refine lv_bipush (v := 7) hx hb dX8_spellsSleeper_12 (by decide) ?_
    refine lv_icmp_ne (tgt := 21) hx hb dX8_spellsSleeper_14 (by decide) (fun c_14 => ?_) (fun c_14 => ?_)
    · have hm := it_n c_14 hm
      refine lv_iconst (v := 0) hx hb dX8_spellsSleeper_21 (by decide) ?_
      refine lv_istore_n (lv' := [(1, .int 0), (0, .ref AT)]) hx hb dX8_spellsSleeper_22 rfl hl (by decide) rfl (fun ls hl => ?_)
      refine lv_iload_n hx hb dX8_spellsSleeper_23 rfl (lv_at hl 0 rfl) ?_
      refine lv_if_eq (tgt := 142) hx hb dX8_spellsSleeper_24 (by decide) (fun _ => ?_) (fun c => absurd c (by decide))
      refine lv_iconst (v := 0) hx hb dX8_spellsSleeper_142 (by decide) ?_
      have hm := Option.some.inj hm
      subst hm
      exact q_zret (v := 0) hx hb hr hlocks rfl hP hS dX8_spellsSleeper_143
    · have hm := it_s c_14 hm
      refine lv_iconst (v := 1) hx hb dX8_spellsSleeper_17 (by decide) ?_
      refine lv_goto (tgt := 22) hx hb dX8_spellsSleeper_18 (by decide) ?_
      refine lv_istore_n (lv' := [(1, .int 1), (0, .ref AT)]) hx hb dX8_spellsSleeper_22 rfl hl (by decide) rfl (fun ls hl => ?_)
      refine lv_iload_n hx hb dX8_spellsSleeper_23 rfl (lv_at hl 0 rfl) ?_
      refine lv_if_eq (tgt := 142) hx hb dX8_spellsSleeper_24 (by decide) (fun c => absurd c (by decide)) (fun _ => ?_)
      refine lv_aload_n hx hb dX8_spellsSleeper_27 rfl (lv_at hl 1 rfl) ?_
      refine gf_X8_42 (v := .ref AT_by) hx hb hts hown hK hN hP 0 rfl rfl dX8_spellsSleeper_28 ?_
      refine lv_aload_n hx hb dX8_spellsSleeper_31 rfl (lv_at hl 1 rfl) ?_
      refine gf_X8_232 (v := .int vT_tka) hx hb hts hown hK hN hP 0 rfl rfl dX8_spellsSleeper_32 ?_
      obtain ⟨hi_35, hm⟩ := gd_s hm
      refine q_iald (j := (Int32.toNatClampNeg vT_tka)) hx hb hK hP 1 rfl hi_35 rfl dX8_spellsSleeper_35 ?_
      refine lv_bipush (v := 115) hx hb dX8_spellsSleeper_36 (by decide) ?_
      refine lv_icmp_ne (tgt := 142) hx hb dX8_spellsSleeper_38 (by decide) (fun c_38 => ?_) (fun c_38 => ?_)
      · have hm := it_n c_38 hm
        refine lv_iconst (v := 0) hx hb dX8_spellsSleeper_142 (by decide) ?_
        have hm := Option.some.inj hm
        subst hm
        exact q_zret (v := 0) hx hb hr hlocks rfl hP hS dX8_spellsSleeper_143
      · have hm := it_s c_38 hm
        refine lv_aload_n hx hb dX8_spellsSleeper_41 rfl (lv_at hl 1 rfl) ?_
        refine gf_X8_42 (v := .ref AT_by) hx hb hts hown hK hN hP 0 rfl rfl dX8_spellsSleeper_42 ?_
        refine lv_aload_n hx hb dX8_spellsSleeper_45 rfl (lv_at hl 1 rfl) ?_
        refine gf_X8_232 (v := .int vT_tka) hx hb hts hown hK hN hP 0 rfl rfl dX8_spellsSleeper_46 ?_
        refine lv_iconst (v := 1) hx hb dX8_spellsSleeper_49 (by decide) ?_
        refine lv_iadd hx hb dX8_spellsSleeper_50 ?_
        obtain ⟨hi_51, hm⟩ := gd_s hm
        refine q_iald (j := (Int32.toNatClampNeg (vT_tka + 1))) hx hb hK hP 1 rfl hi_51 rfl dX8_spellsSleeper_51 ?_
        refine lv_bipush (v := 108) hx hb dX8_spellsSleeper_52 (by decide) ?_
        refine lv_icmp_ne (tgt := 142) hx hb dX8_spellsSleeper_54 (by decide) (fun c_54 => ?_) (fun c_54 => ?_)
        · have hm := it_n c_54 hm
          refine lv_iconst (v := 0) hx hb dX8_spellsSleeper_142 (by decide) ?_
          have hm := Option.some.inj hm
          subst hm
          exact q_zret (v := 0) hx hb hr hlocks rfl hP hS dX8_spellsSleeper_143
        · have hm := it_s c_54 hm
          refine lv_aload_n hx hb dX8_spellsSleeper_57 rfl (lv_at hl 1 rfl) ?_
          refine gf_X8_42 (v := .ref AT_by) hx hb hts hown hK hN hP 0 rfl rfl dX8_spellsSleeper_58 ?_
          refine lv_aload_n hx hb dX8_spellsSleeper_61 rfl (lv_at hl 1 rfl) ?_
          refine gf_X8_232 (v := .int vT_tka) hx hb hts hown hK hN hP 0 rfl rfl dX8_spellsSleeper_62 ?_
          refine lv_iconst (v := 2) hx hb dX8_spellsSleeper_65 (by decide) ?_
          refine lv_iadd hx hb dX8_spellsSleeper_66 ?_
          obtain ⟨hi_67, hm⟩ := gd_s hm
          refine q_iald (j := (Int32.toNatClampNeg (vT_tka + 2))) hx hb hK hP 1 rfl hi_67 rfl dX8_spellsSleeper_67 ?_
          refine lv_bipush (v := 101) hx hb dX8_spellsSleeper_68 (by decide) ?_
          refine lv_icmp_ne (tgt := 142) hx hb dX8_spellsSleeper_70 (by decide) (fun c_70 => ?_) (fun c_70 => ?_)
          · have hm := it_n c_70 hm
            refine lv_iconst (v := 0) hx hb dX8_spellsSleeper_142 (by decide) ?_
            have hm := Option.some.inj hm
            subst hm
            exact q_zret (v := 0) hx hb hr hlocks rfl hP hS dX8_spellsSleeper_143
          · have hm := it_s c_70 hm
            refine lv_aload_n hx hb dX8_spellsSleeper_73 rfl (lv_at hl 1 rfl) ?_
            refine gf_X8_42 (v := .ref AT_by) hx hb hts hown hK hN hP 0 rfl rfl dX8_spellsSleeper_74 ?_
            refine lv_aload_n hx hb dX8_spellsSleeper_77 rfl (lv_at hl 1 rfl) ?_
            refine gf_X8_232 (v := .int vT_tka) hx hb hts hown hK hN hP 0 rfl rfl dX8_spellsSleeper_78 ?_
            refine lv_iconst (v := 3) hx hb dX8_spellsSleeper_81 (by decide) ?_
            refine lv_iadd hx hb dX8_spellsSleeper_82 ?_
            obtain ⟨hi_83, hm⟩ := gd_s hm
            refine q_iald (j := (Int32.toNatClampNeg (vT_tka + 3))) hx hb hK hP 1 rfl hi_83 rfl dX8_spellsSleeper_83 ?_
            refine lv_bipush (v := 101) hx hb dX8_spellsSleeper_84 (by decide) ?_
            refine lv_icmp_ne (tgt := 142) hx hb dX8_spellsSleeper_86 (by decide) (fun c_86 => ?_) (fun c_86 => ?_)
            · have hm := it_n c_86 hm
              refine lv_iconst (v := 0) hx hb dX8_spellsSleeper_142 (by decide) ?_
              have hm := Option.some.inj hm
              subst hm
              exact q_zret (v := 0) hx hb hr hlocks rfl hP hS dX8_spellsSleeper_143
            · have hm := it_s c_86 hm
              refine lv_aload_n hx hb dX8_spellsSleeper_89 rfl (lv_at hl 1 rfl) ?_
              refine gf_X8_42 (v := .ref AT_by) hx hb hts hown hK hN hP 0 rfl rfl dX8_spellsSleeper_90 ?_
              refine lv_aload_n hx hb dX8_spellsSleeper_93 rfl (lv_at hl 1 rfl) ?_
              refine gf_X8_232 (v := .int vT_tka) hx hb hts hown hK hN hP 0 rfl rfl dX8_spellsSleeper_94 ?_
              refine lv_iconst (v := 4) hx hb dX8_spellsSleeper_97 (by decide) ?_
              refine lv_iadd hx hb dX8_spellsSleeper_98 ?_
              obtain ⟨hi_99, hm⟩ := gd_s hm
              refine q_iald (j := (Int32.toNatClampNeg (vT_tka + 4))) hx hb hK hP 1 rfl hi_99 rfl dX8_spellsSleeper_99 ?_
              refine lv_bipush (v := 112) hx hb dX8_spellsSleeper_100 (by decide) ?_
              refine lv_icmp_ne (tgt := 142) hx hb dX8_spellsSleeper_102 (by decide) (fun c_102 => ?_) (fun c_102 => ?_)
              · have hm := it_n c_102 hm
                refine lv_iconst (v := 0) hx hb dX8_spellsSleeper_142 (by decide) ?_
                have hm := Option.some.inj hm
                subst hm
                exact q_zret (v := 0) hx hb hr hlocks rfl hP hS dX8_spellsSleeper_143
              · have hm := it_s c_102 hm
                refine lv_aload_n hx hb dX8_spellsSleeper_105 rfl (lv_at hl 1 rfl) ?_
                refine gf_X8_42 (v := .ref AT_by) hx hb hts hown hK hN hP 0 rfl rfl dX8_spellsSleeper_106 ?_
                refine lv_aload_n hx hb dX8_spellsSleeper_109 rfl (lv_at hl 1 rfl) ?_
                refine gf_X8_232 (v := .int vT_tka) hx hb hts hown hK hN hP 0 rfl rfl dX8_spellsSleeper_110 ?_
                refine lv_iconst (v := 5) hx hb dX8_spellsSleeper_113 (by decide) ?_
                refine lv_iadd hx hb dX8_spellsSleeper_114 ?_
                obtain ⟨hi_115, hm⟩ := gd_s hm
                refine q_iald (j := (Int32.toNatClampNeg (vT_tka + 5))) hx hb hK hP 1 rfl hi_115 rfl dX8_spellsSleeper_115 ?_
                refine lv_bipush (v := 101) hx hb dX8_spellsSleeper_116 (by decide) ?_
                refine lv_icmp_ne (tgt := 142) hx hb dX8_spellsSleeper_118 (by decide) (fun c_118 => ?_) (fun c_118 => ?_)
                · have hm := it_n c_118 hm
                  refine lv_iconst (v := 0) hx hb dX8_spellsSleeper_142 (by decide) ?_
                  have hm := Option.some.inj hm
                  subst hm
                  exact q_zret (v := 0) hx hb hr hlocks rfl hP hS dX8_spellsSleeper_143
                · have hm := it_s c_118 hm
                  refine lv_aload_n hx hb dX8_spellsSleeper_121 rfl (lv_at hl 1 rfl) ?_
                  refine gf_X8_42 (v := .ref AT_by) hx hb hts hown hK hN hP 0 rfl rfl dX8_spellsSleeper_122 ?_
                  refine lv_aload_n hx hb dX8_spellsSleeper_125 rfl (lv_at hl 1 rfl) ?_
                  refine gf_X8_232 (v := .int vT_tka) hx hb hts hown hK hN hP 0 rfl rfl dX8_spellsSleeper_126 ?_
                  refine lv_bipush (v := 6) hx hb dX8_spellsSleeper_129 (by decide) ?_
                  refine lv_iadd hx hb dX8_spellsSleeper_131 ?_
                  obtain ⟨hi_132, hm⟩ := gd_s hm
                  refine q_iald (j := (Int32.toNatClampNeg (vT_tka + 6))) hx hb hK hP 1 rfl hi_132 rfl dX8_spellsSleeper_132 ?_
                  refine lv_bipush (v := 114) hx hb dX8_spellsSleeper_133 (by decide) ?_
                  refine lv_icmp_ne (tgt := 142) hx hb dX8_spellsSleeper_135 (by decide) (fun c_135 => ?_) (fun c_135 => ?_)
                  · have hm := it_n c_135 hm
                    refine lv_iconst (v := 0) hx hb dX8_spellsSleeper_142 (by decide) ?_
                    have hm := Option.some.inj hm
                    subst hm
                    exact q_zret (v := 0) hx hb hr hlocks rfl hP hS dX8_spellsSleeper_143
                  · have hm := it_s c_135 hm
                    refine lv_iconst (v := 1) hx hb dX8_spellsSleeper_138 (by decide) ?_
                    refine lv_goto (tgt := 143) hx hb dX8_spellsSleeper_139 (by decide) ?_
                    have hm := Option.some.inj hm
                    subst hm
                    exact q_zret (v := 1) hx hb hr hlocks rfl hP hS dX8_spellsSleeper_143
theorem gf_X8_45 {p : Program} {l : Launch} {e : Env} {R : Room} {s : State} {m : MethodId} {args : Array Value} {below : List Frame} {meth : Method} {c : Code} {H : Heap} {locs : List Loc} {cells slots : Nat} {Q : State → Prop} {pc : Nat} {ls : Array Slot} {cc : ByteArray} {D : va_G} {cI cZ : ClassId} {ws : va_W} {a : Nat} {rest fs : List Value} (hx : p.tables.exec = Jvm.exec) (hb : c.code = cc) (hts : ∀ w ∈ bg, w.before args s = true) (hown : s.vm.findClass RX8 = some m.cls) (hK : va_K D vwCl (q_tys cI cZ) s) (hN : q_N s) (hP : va_P D vwCl ws H) (q0 : Nat) (he : ws[q0]? = some (a, .inr (8, fs))) {v : Value} (hv : fs[17]? = some v) (hdg : decode cc pc = .ok (.getfield 45, 3)) (kk : W p l e R s m args below meth c H locs cells slots Q (F0 m (pc + 3) ls (v :: rest))) : W p l e R s m args below meth c H locs cells slots Q (F0 m pc ls (.ref a :: rest)) :=
  va_get (C := RX8) (T := TX8) (N := 19) hx hb hts wu_X8 hown hK hP q0 he rfl 17 (by decide) (hts _ wf_X8_45) (fun _ h9 => h9) hv hdg kk
theorem mb_X8_takesSleeper : q_mb yX8_takesSleeper cX8_takesSleeper 1 (some .boolean) 0 := ⟨wc_X8_takesSleeper, wn_X8, by decide, by decide, by decide +kernel⟩
theorem mv_X8_takesSleeper : q_mv yX8_takesSleeper 8 := ⟨wi_X8_takesSleeper, ws_X8_takesSleeper, _, rfl, rfl⟩
def wd_X8_takesSleeper (cI cZ : ClassId) (AT AT_al AT_kp AT_ik AT_rf AT_hd AT_bs AT_se AT_bf AT_te AT_by AT_an AT_vs : Nat) (vT_ab : Int64) (vT_be : Int64) (vT_byl : Int32) (vT_tka : Int32) (vT_tkl : Int32) (vT_tkn : Int32) (vT_val : Int32) (fT_an : Nat → Int32) (fT_by : Nat → Int32) (fT_vs : Nat → Int32) : va_W := [(AT, .inr (8, [.ref AT_al, .ref AT_kp, .ref AT_ik, .ref AT_rf, .long vT_ab, .long vT_be, .ref AT_hd, .ref AT_bs, .ref AT_se, .ref AT_bf, .ref AT_te, .ref AT_by, .int vT_byl, .int vT_tka, .int vT_tkl, .int vT_tkn, .int vT_val, .ref AT_an, .ref AT_vs])), (AT_an, .inl (cI, 112, .inl fT_an)), (AT_by, .inl (cI, 150, .inl fT_by)), (AT_vs, .inl (cI, 3, .inl fT_vs))]
def fm_X8_takesSleeper (vT_byl : Int32) (vT_tka : Int32) (vT_tkl : Int32) (vT_tkn : Int32) (vT_val : Int32) (fT_an : Nat → Int32) (fT_by : Nat → Int32) (fT_vs : Nat → Int32) : Option (Int32 × Int32 × Int32 × Int32 × Int32 × (Nat → Int32) × (Nat → Int32)) := if (fT_an 0) = 6 then (some (0, vT_tka, vT_tkl, vT_tkn, vT_val, fT_an, fT_vs)) else (Option.bind (fm_X8_goBehind vT_byl vT_tka vT_tkl vT_tkn vT_val fT_by) (fun r_14 => Option.bind (fm_X8_takes 0 0 5 vT_byl r_14.1 r_14.2.1 r_14.2.2.1 r_14.2.2.2 fT_vs fT_by) (fun r_21 => if r_21.1 = 0 then (some (0, r_21.2.1, r_21.2.2.1, r_21.2.2.2.1, r_21.2.2.2.2.1, fT_an, r_21.2.2.2.2.2)) else (Option.bind (fm_X8_takes 1 0 9 vT_byl r_21.2.1 r_21.2.2.1 r_21.2.2.2.1 r_21.2.2.2.2.1 r_21.2.2.2.2.2 fT_by) (fun r_32 => if r_32.1 = 0 then (some (0, r_32.2.1, r_32.2.2.1, r_32.2.2.2.1, r_32.2.2.2.2.1, fT_an, r_32.2.2.2.2.2)) else (Option.bind (fm_X8_laySleeper 112 (r_32.2.2.2.2.2 0) (r_32.2.2.2.2.2 1) fT_an) (fun r_56 => some (1, r_32.2.1, r_32.2.2.1, r_32.2.2.2.1, r_32.2.2.2.2.1, r_56, r_32.2.2.2.2.2))))))))
set_option maxHeartbeats 4000000 in
set_option maxRecDepth 100000 in
theorem c_X8_takesSleeper (l : Launch) (D : va_G) (cI cZ : ClassId) (sz : Nat) (AT AT_al AT_kp AT_ik AT_rf AT_hd AT_bs AT_se AT_bf AT_te AT_by AT_an AT_vs : Nat) (vT_ab : Int64) (vT_be : Int64) (vT_byl : Int32) (vT_tka : Int32) (vT_tkl : Int32) (vT_tkn : Int32) (vT_val : Int32) (fT_an : Nat → Int32) (fT_by : Nat → Int32) (fT_vs : Nat → Int32) (out : (Int32 × Int32 × Int32 × Int32 × Int32 × (Nat → Int32) × (Nat → Int32))) (hm : fm_X8_takesSleeper vT_byl vT_tka vT_tkl vT_tkn vT_val fT_an fT_by fT_vs = some out) : Met l yX8_takesSleeper (Cond.code yX8_takesSleeper cX8_takesSleeper 1 (some .boolean) :: bg) { frames := 5, cells := 0, slots := 0, locals := 112 } (va_Pc [.ref AT] (q_pre D cI cZ sz (wd_X8_takesSleeper cI cZ AT AT_al AT_kp AT_ik AT_rf AT_hd AT_bs AT_se AT_bf AT_te AT_by AT_an AT_vs vT_ab vT_be vT_byl vT_tka vT_tkl vT_tkn vT_val fT_an fT_by fT_vs))) (q_Qi D (wd_X8_takesSleeper cI cZ AT AT_al AT_kp AT_ik AT_rf AT_hd AT_bs AT_se AT_bf AT_te AT_by AT_an AT_vs vT_ab vT_be vT_byl out.2.1 out.2.2.1 out.2.2.2.1 out.2.2.2.2.1 out.2.2.2.2.2.1 fT_by out.2.2.2.2.2.2) out.1 (va_A (wd_X8_takesSleeper cI cZ AT AT_al AT_kp AT_ik AT_rf AT_hd AT_bs AT_se AT_bf AT_te AT_by AT_an AT_vs vT_ab vT_be vT_byl vT_tka vT_tkl vT_tkn vT_val fT_an fT_by fT_vs) sz)) 0 0 (va_A (wd_X8_takesSleeper cI cZ AT AT_al AT_kp AT_ik AT_rf AT_hd AT_bs AT_se AT_bf AT_te AT_by AT_an AT_vs vT_ab vT_be vT_byl vT_tka vT_tkl vT_tkn vT_val fT_an fT_by fT_vs) sz) := by
  refine q_met (fun A => q_Qi D (wd_X8_takesSleeper cI cZ AT AT_al AT_kp AT_ik AT_rf AT_hd AT_bs AT_se AT_bf AT_te AT_by AT_an AT_vs vT_ab vT_be vT_byl out.2.1 out.2.2.1 out.2.2.2.1 out.2.2.2.2.1 out.2.2.2.2.2.1 fT_by out.2.2.2.2.2.2) out.1 A) (by decide) (Nat.le_of_ble_eq_true rfl) ?_
  intro p e s m below meth c ls A hx hb hr hml hown hts hlocks _ hA hS hP hD hK hN hl
  have hown : s.vm.findClass RX8 = some m.cls := hown
  have hl : lv_has ls 1 [(0, .ref AT)] := hl
  unfold fm_X8_takesSleeper at hm
  refine q_gen hS hP ?_
  intro H locs hP hS
  refine lv_aload_n hx hb dX8_takesSleeper_0 rfl (lv_at hl 0 rfl) ?_
  refine gf_X8_45 (v := .ref AT_an) hx hb hts hown hK hN hP 0 rfl rfl dX8_takesSleeper_1 ?_
  refine lv_iconst (v := 0) hx hb dX8_takesSleeper_4 (by decide) ?_
  refine q_iald (j := 0) hx hb hK hP 1 rfl (q_inl (by decide)) (by decide) dX8_takesSleeper_5 ?_
  refine lv_bipush (v := 6) hx hb dX8_takesSleeper_6 (by decide) ?_
  refine lv_icmp_ne (tgt := 13) hx hb dX8_takesSleeper_8 (by decide) (fun c_8 => ?_) (fun c_8 => ?_)
  · have hm := it_n c_8 hm
    refine lv_aload_n hx hb dX8_takesSleeper_13 rfl (lv_at hl 0 rfl) ?_
    obtain ⟨r_14, hc_14, hm⟩ := ob_s hm
    refine q_cv (q_rv (rest := []) ⟨hx, hb, hml, hown, hts⟩ hK hN hP hD (c_X8_goBehind l D cI cZ H.size AT AT_al AT_kp AT_ik AT_rf AT_hd AT_bs AT_se AT_bf AT_te AT_by AT_an AT_vs vT_ab vT_be vT_byl vT_tka vT_tkl vT_tkn vT_val fT_by r_14 hc_14) mb_X8_goBehind mv_X8_goBehind wl_X8_254 [0, 2] rfl rfl rfl (Nat.le_of_ble_eq_true rfl) (Nat.le_of_ble_eq_true rfl) rfl hl.1 rfl (Nat.le_of_ble_eq_true rfl) ⟨Nat.le_refl 0, Nat.le_refl 0⟩ dX8_takesSleeper_14) hP hD hS hA [0, 2] rfl rfl (fun H locs hP hD hS => ?_)
    have hP : va_P D vwCl (wd_X8_takesSleeper cI cZ AT AT_al AT_kp AT_ik AT_rf AT_hd AT_bs AT_se AT_bf AT_te AT_by AT_an AT_vs vT_ab vT_be vT_byl r_14.1 r_14.2.1 r_14.2.2.1 r_14.2.2.2 fT_an fT_by fT_vs) H := hP
    have hD : va_D A (wd_X8_takesSleeper cI cZ AT AT_al AT_kp AT_ik AT_rf AT_hd AT_bs AT_se AT_bf AT_te AT_by AT_an AT_vs vT_ab vT_be vT_byl r_14.1 r_14.2.1 r_14.2.2.1 r_14.2.2.2 fT_an fT_by fT_vs) := hD
    refine lv_aload_n hx hb dX8_takesSleeper_17 rfl (lv_at hl 0 rfl) ?_
    refine lv_iconst (v := 0) hx hb dX8_takesSleeper_18 (by decide) ?_
    refine lv_iconst (v := 0) hx hb dX8_takesSleeper_19 (by decide) ?_
    refine lv_iconst (v := 5) hx hb dX8_takesSleeper_20 (by decide) ?_
    obtain ⟨r_21, hc_21, hm⟩ := ob_s hm
    refine q_ci (q_rv (rest := []) ⟨hx, hb, hml, hown, hts⟩ hK hN hP hD (c_X8_takes l D cI cZ H.size AT AT_al AT_kp AT_ik AT_rf AT_hd AT_bs AT_se AT_bf AT_te AT_by AT_an AT_vs vT_ab vT_be vT_byl r_14.1 r_14.2.1 r_14.2.2.1 r_14.2.2.2 fT_vs fT_by 0 0 5 r_21 hc_21) mb_X8_takes mv_X8_takes wl_X8_257 [0, 3, 2] rfl rfl rfl (Nat.le_of_ble_eq_true rfl) (Nat.le_of_ble_eq_true rfl) rfl hl.1 rfl (Nat.le_of_ble_eq_true rfl) ⟨Nat.le_refl 0, Nat.le_refl 0⟩ dX8_takesSleeper_21) hP hD hS hA [0, 3, 2] rfl rfl (fun H locs hP hD hS => ?_)
    have hP : va_P D vwCl (wd_X8_takesSleeper cI cZ AT AT_al AT_kp AT_ik AT_rf AT_hd AT_bs AT_se AT_bf AT_te AT_by AT_an AT_vs vT_ab vT_be vT_byl r_21.2.1 r_21.2.2.1 r_21.2.2.2.1 r_21.2.2.2.2.1 fT_an fT_by r_21.2.2.2.2.2) H := hP
    have hD : va_D A (wd_X8_takesSleeper cI cZ AT AT_al AT_kp AT_ik AT_rf AT_hd AT_bs AT_se AT_bf AT_te AT_by AT_an AT_vs vT_ab vT_be vT_byl r_21.2.1 r_21.2.2.1 r_21.2.2.2.1 r_21.2.2.2.2.1 fT_an fT_by r_21.2.2.2.2.2) := hD
    refine lv_if_eq (tgt := 38) hx hb dX8_takesSleeper_24 (by decide) (fun c_24 => ?_) (fun c_24 => ?_)
    · have hm := it_s c_24 hm
      refine lv_iconst (v := 0) hx hb dX8_takesSleeper_38 (by decide) ?_
      have hm := Option.some.inj hm
      subst hm
      exact q_zret (v := 0) hx hb hr hlocks rfl hP hS dX8_takesSleeper_39
    · have hm := it_n c_24 hm
      refine lv_aload_n hx hb dX8_takesSleeper_27 rfl (lv_at hl 0 rfl) ?_
      refine lv_iconst (v := 1) hx hb dX8_takesSleeper_28 (by decide) ?_
      refine lv_iconst (v := 0) hx hb dX8_takesSleeper_29 (by decide) ?_
      refine lv_bipush (v := 9) hx hb dX8_takesSleeper_30 (by decide) ?_
      obtain ⟨r_32, hc_32, hm⟩ := ob_s hm
      refine q_ci (q_rv (rest := []) ⟨hx, hb, hml, hown, hts⟩ hK hN hP hD (c_X8_takes l D cI cZ H.size AT AT_al AT_kp AT_ik AT_rf AT_hd AT_bs AT_se AT_bf AT_te AT_by AT_an AT_vs vT_ab vT_be vT_byl r_21.2.1 r_21.2.2.1 r_21.2.2.2.1 r_21.2.2.2.2.1 r_21.2.2.2.2.2 fT_by 1 0 9 r_32 hc_32) mb_X8_takes mv_X8_takes wl_X8_257 [0, 3, 2] rfl rfl rfl (Nat.le_of_ble_eq_true rfl) (Nat.le_of_ble_eq_true rfl) rfl hl.1 rfl (Nat.le_of_ble_eq_true rfl) ⟨Nat.le_refl 0, Nat.le_refl 0⟩ dX8_takesSleeper_32) hP hD hS hA [0, 3, 2] rfl rfl (fun H locs hP hD hS => ?_)
      have hP : va_P D vwCl (wd_X8_takesSleeper cI cZ AT AT_al AT_kp AT_ik AT_rf AT_hd AT_bs AT_se AT_bf AT_te AT_by AT_an AT_vs vT_ab vT_be vT_byl r_32.2.1 r_32.2.2.1 r_32.2.2.2.1 r_32.2.2.2.2.1 fT_an fT_by r_32.2.2.2.2.2) H := hP
      have hD : va_D A (wd_X8_takesSleeper cI cZ AT AT_al AT_kp AT_ik AT_rf AT_hd AT_bs AT_se AT_bf AT_te AT_by AT_an AT_vs vT_ab vT_be vT_byl r_32.2.1 r_32.2.2.1 r_32.2.2.2.1 r_32.2.2.2.2.1 fT_an fT_by r_32.2.2.2.2.2) := hD
      refine lv_if_ne (tgt := 40) hx hb dX8_takesSleeper_35 (by decide) (fun c_35 => ?_) (fun c_35 => ?_)
      · have hm := it_n c_35 hm
        refine lv_aload_n hx hb dX8_takesSleeper_40 rfl (lv_at hl 0 rfl) ?_
        refine gf_X8_45 (v := .ref AT_an) hx hb hts hown hK hN hP 0 rfl rfl dX8_takesSleeper_41 ?_
        refine lv_aload_n hx hb dX8_takesSleeper_44 rfl (lv_at hl 0 rfl) ?_
        refine gf_X8_48 (v := .ref AT_vs) hx hb hts hown hK hN hP 0 rfl rfl dX8_takesSleeper_45 ?_
        refine lv_iconst (v := 0) hx hb dX8_takesSleeper_48 (by decide) ?_
        refine q_iald (j := 0) hx hb hK hP 3 rfl (q_inl (by decide)) (by decide) dX8_takesSleeper_49 ?_
        refine lv_aload_n hx hb dX8_takesSleeper_50 rfl (lv_at hl 0 rfl) ?_
        refine gf_X8_48 (v := .ref AT_vs) hx hb hts hown hK hN hP 0 rfl rfl dX8_takesSleeper_51 ?_
        refine lv_iconst (v := 1) hx hb dX8_takesSleeper_54 (by decide) ?_
        refine q_iald (j := 1) hx hb hK hP 3 rfl (q_inl (by decide)) (by decide) dX8_takesSleeper_55 ?_
        obtain ⟨r_56, hc_56, hm⟩ := ob_s hm
        refine q_cv (q_rs (rest := []) ⟨hx, hb, hml, hown, hts⟩ hK hN hP hD (c_X8_laySleeper l D cI cZ H.size AT_an 112 fT_an (r_32.2.2.2.2.2 0) (r_32.2.2.2.2.2 1) r_56 hc_56) mb_X8_laySleeper wt_X8_laySleeper wl_X8_82 [1] rfl rfl (Nat.le_of_ble_eq_true rfl) (Nat.le_of_ble_eq_true rfl) rfl hl.1 rfl (Nat.le_of_ble_eq_true rfl) ⟨Nat.le_refl 0, Nat.le_refl 0⟩ dX8_takesSleeper_56) hP hD hS hA [1] rfl rfl (fun H locs hP hD hS => ?_)
        have hP : va_P D vwCl (wd_X8_takesSleeper cI cZ AT AT_al AT_kp AT_ik AT_rf AT_hd AT_bs AT_se AT_bf AT_te AT_by AT_an AT_vs vT_ab vT_be vT_byl r_32.2.1 r_32.2.2.1 r_32.2.2.2.1 r_32.2.2.2.2.1 r_56 fT_by r_32.2.2.2.2.2) H := hP
        have hD : va_D A (wd_X8_takesSleeper cI cZ AT AT_al AT_kp AT_ik AT_rf AT_hd AT_bs AT_se AT_bf AT_te AT_by AT_an AT_vs vT_ab vT_be vT_byl r_32.2.1 r_32.2.2.1 r_32.2.2.2.1 r_32.2.2.2.2.1 r_56 fT_by r_32.2.2.2.2.2) := hD
        refine lv_iconst (v := 1) hx hb dX8_takesSleeper_59 (by decide) ?_
        have hm := Option.some.inj hm
        subst hm
        exact q_zret (v := 1) hx hb hr hlocks rfl hP hS dX8_takesSleeper_60
      · have hm := it_s c_35 hm
        refine lv_iconst (v := 0) hx hb dX8_takesSleeper_38 (by decide) ?_
        have hm := Option.some.inj hm
        subst hm
        exact q_zret (v := 0) hx hb hr hlocks rfl hP hS dX8_takesSleeper_39
  · have hm := it_s c_8 hm
    refine lv_iconst (v := 0) hx hb dX8_takesSleeper_11 (by decide) ?_
    have hm := Option.some.inj hm
    subst hm
    exact q_zret (v := 0) hx hb hr hlocks rfl hP hS dX8_takesSleeper_12
theorem mb_X8_takesFlower : q_mb yX8_takesFlower cX8_takesFlower 1 (some .boolean) 0 := ⟨wc_X8_takesFlower, wn_X8, by decide, by decide, by decide +kernel⟩
theorem mv_X8_takesFlower : q_mv yX8_takesFlower 8 := ⟨wi_X8_takesFlower, ws_X8_takesFlower, _, rfl, rfl⟩
def wd_X8_takesFlower (cI cZ : ClassId) (AT AT_al AT_kp AT_ik AT_rf AT_hd AT_bs AT_se AT_bf AT_te AT_by AT_an AT_vs : Nat) (vT_ab : Int64) (vT_be : Int64) (vT_byl : Int32) (vT_tka : Int32) (vT_tkl : Int32) (vT_tkn : Int32) (vT_val : Int32) (fT_an : Nat → Int32) (fT_by : Nat → Int32) (fT_vs : Nat → Int32) : va_W := [(AT, .inr (8, [.ref AT_al, .ref AT_kp, .ref AT_ik, .ref AT_rf, .long vT_ab, .long vT_be, .ref AT_hd, .ref AT_bs, .ref AT_se, .ref AT_bf, .ref AT_te, .ref AT_by, .int vT_byl, .int vT_tka, .int vT_tkl, .int vT_tkn, .int vT_val, .ref AT_an, .ref AT_vs])), (AT_an, .inl (cI, 112, .inl fT_an)), (AT_by, .inl (cI, 150, .inl fT_by)), (AT_vs, .inl (cI, 3, .inl fT_vs))]
def fm_X8_takesFlower (vT_byl : Int32) (vT_tka : Int32) (vT_tkl : Int32) (vT_tkn : Int32) (vT_val : Int32) (fT_an : Nat → Int32) (fT_by : Nat → Int32) (fT_vs : Nat → Int32) : Option (Int32 × Int32 × Int32 × Int32 × Int32 × (Nat → Int32) × (Nat → Int32)) := if (fT_an 1) = 6 then (some (0, vT_tka, vT_tkl, vT_tkn, vT_val, fT_an, fT_vs)) else (Option.bind (fm_X8_goBehind vT_byl vT_tka vT_tkl vT_tkn vT_val fT_by) (fun r_14 => Option.bind (fm_X8_takes 0 0 5 vT_byl r_14.1 r_14.2.1 r_14.2.2.1 r_14.2.2.2 fT_vs fT_by) (fun r_21 => if r_21.1 = 0 then (some (0, r_21.2.1, r_21.2.2.1, r_21.2.2.2.1, r_21.2.2.2.2.1, fT_an, r_21.2.2.2.2.2)) else (Option.bind (fm_X8_takes 1 1 9 vT_byl r_21.2.1 r_21.2.2.1 r_21.2.2.2.1 r_21.2.2.2.2.1 r_21.2.2.2.2.2 fT_by) (fun r_32 => if r_32.1 = 0 then (some (0, r_32.2.1, r_32.2.2.1, r_32.2.2.2.1, r_32.2.2.2.2.1, fT_an, r_32.2.2.2.2.2)) else (Option.bind (fm_X8_takes 2 0 5 vT_byl r_32.2.1 r_32.2.2.1 r_32.2.2.2.1 r_32.2.2.2.2.1 r_32.2.2.2.2.2 fT_by) (fun r_42 => if r_42.1 = 0 then (some (0, r_42.2.1, r_42.2.2.1, r_42.2.2.2.1, r_42.2.2.2.2.1, fT_an, r_42.2.2.2.2.2)) else (Option.bind (fm_X8_layFlower 112 (r_42.2.2.2.2.2 0) (r_42.2.2.2.2.2 1) (r_42.2.2.2.2.2 2) fT_an) (fun r_72 => some (1, r_42.2.1, r_42.2.2.1, r_42.2.2.2.1, r_42.2.2.2.2.1, r_72, r_42.2.2.2.2.2))))))))))
set_option maxHeartbeats 4000000 in
set_option maxRecDepth 100000 in
theorem c_X8_takesFlower (l : Launch) (D : va_G) (cI cZ : ClassId) (sz : Nat) (AT AT_al AT_kp AT_ik AT_rf AT_hd AT_bs AT_se AT_bf AT_te AT_by AT_an AT_vs : Nat) (vT_ab : Int64) (vT_be : Int64) (vT_byl : Int32) (vT_tka : Int32) (vT_tkl : Int32) (vT_tkn : Int32) (vT_val : Int32) (fT_an : Nat → Int32) (fT_by : Nat → Int32) (fT_vs : Nat → Int32) (out : (Int32 × Int32 × Int32 × Int32 × Int32 × (Nat → Int32) × (Nat → Int32))) (hm : fm_X8_takesFlower vT_byl vT_tka vT_tkl vT_tkn vT_val fT_an fT_by fT_vs = some out) : Met l yX8_takesFlower (Cond.code yX8_takesFlower cX8_takesFlower 1 (some .boolean) :: bg) { frames := 5, cells := 0, slots := 0, locals := 112 } (va_Pc [.ref AT] (q_pre D cI cZ sz (wd_X8_takesFlower cI cZ AT AT_al AT_kp AT_ik AT_rf AT_hd AT_bs AT_se AT_bf AT_te AT_by AT_an AT_vs vT_ab vT_be vT_byl vT_tka vT_tkl vT_tkn vT_val fT_an fT_by fT_vs))) (q_Qi D (wd_X8_takesFlower cI cZ AT AT_al AT_kp AT_ik AT_rf AT_hd AT_bs AT_se AT_bf AT_te AT_by AT_an AT_vs vT_ab vT_be vT_byl out.2.1 out.2.2.1 out.2.2.2.1 out.2.2.2.2.1 out.2.2.2.2.2.1 fT_by out.2.2.2.2.2.2) out.1 (va_A (wd_X8_takesFlower cI cZ AT AT_al AT_kp AT_ik AT_rf AT_hd AT_bs AT_se AT_bf AT_te AT_by AT_an AT_vs vT_ab vT_be vT_byl vT_tka vT_tkl vT_tkn vT_val fT_an fT_by fT_vs) sz)) 0 0 (va_A (wd_X8_takesFlower cI cZ AT AT_al AT_kp AT_ik AT_rf AT_hd AT_bs AT_se AT_bf AT_te AT_by AT_an AT_vs vT_ab vT_be vT_byl vT_tka vT_tkl vT_tkn vT_val fT_an fT_by fT_vs) sz) := by
  refine q_met (fun A => q_Qi D (wd_X8_takesFlower cI cZ AT AT_al AT_kp AT_ik AT_rf AT_hd AT_bs AT_se AT_bf AT_te AT_by AT_an AT_vs vT_ab vT_be vT_byl out.2.1 out.2.2.1 out.2.2.2.1 out.2.2.2.2.1 out.2.2.2.2.2.1 fT_by out.2.2.2.2.2.2) out.1 A) (by decide) (Nat.le_of_ble_eq_true rfl) ?_
  intro p e s m below meth c ls A hx hb hr hml hown hts hlocks _ hA hS hP hD hK hN hl
  have hown : s.vm.findClass RX8 = some m.cls := hown
  have hl : lv_has ls 1 [(0, .ref AT)] := hl
  unfold fm_X8_takesFlower at hm
  refine q_gen hS hP ?_
  intro H locs hP hS
  refine lv_aload_n hx hb dX8_takesFlower_0 rfl (lv_at hl 0 rfl) ?_
  refine gf_X8_45 (v := .ref AT_an) hx hb hts hown hK hN hP 0 rfl rfl dX8_takesFlower_1 ?_
  refine lv_iconst (v := 1) hx hb dX8_takesFlower_4 (by decide) ?_
  refine q_iald (j := 1) hx hb hK hP 1 rfl (q_inl (by decide)) (by decide) dX8_takesFlower_5 ?_
  refine lv_bipush (v := 6) hx hb dX8_takesFlower_6 (by decide) ?_
  refine lv_icmp_ne (tgt := 13) hx hb dX8_takesFlower_8 (by decide) (fun c_8 => ?_) (fun c_8 => ?_)
  · have hm := it_n c_8 hm
    refine lv_aload_n hx hb dX8_takesFlower_13 rfl (lv_at hl 0 rfl) ?_
    obtain ⟨r_14, hc_14, hm⟩ := ob_s hm
    refine q_cv (q_rv (rest := []) ⟨hx, hb, hml, hown, hts⟩ hK hN hP hD (c_X8_goBehind l D cI cZ H.size AT AT_al AT_kp AT_ik AT_rf AT_hd AT_bs AT_se AT_bf AT_te AT_by AT_an AT_vs vT_ab vT_be vT_byl vT_tka vT_tkl vT_tkn vT_val fT_by r_14 hc_14) mb_X8_goBehind mv_X8_goBehind wl_X8_254 [0, 2] rfl rfl rfl (Nat.le_of_ble_eq_true rfl) (Nat.le_of_ble_eq_true rfl) rfl hl.1 rfl (Nat.le_of_ble_eq_true rfl) ⟨Nat.le_refl 0, Nat.le_refl 0⟩ dX8_takesFlower_14) hP hD hS hA [0, 2] rfl rfl (fun H locs hP hD hS => ?_)
    have hP : va_P D vwCl (wd_X8_takesFlower cI cZ AT AT_al AT_kp AT_ik AT_rf AT_hd AT_bs AT_se AT_bf AT_te AT_by AT_an AT_vs vT_ab vT_be vT_byl r_14.1 r_14.2.1 r_14.2.2.1 r_14.2.2.2 fT_an fT_by fT_vs) H := hP
    have hD : va_D A (wd_X8_takesFlower cI cZ AT AT_al AT_kp AT_ik AT_rf AT_hd AT_bs AT_se AT_bf AT_te AT_by AT_an AT_vs vT_ab vT_be vT_byl r_14.1 r_14.2.1 r_14.2.2.1 r_14.2.2.2 fT_an fT_by fT_vs) := hD
    refine lv_aload_n hx hb dX8_takesFlower_17 rfl (lv_at hl 0 rfl) ?_
    refine lv_iconst (v := 0) hx hb dX8_takesFlower_18 (by decide) ?_
    refine lv_iconst (v := 0) hx hb dX8_takesFlower_19 (by decide) ?_
    refine lv_iconst (v := 5) hx hb dX8_takesFlower_20 (by decide) ?_
    obtain ⟨r_21, hc_21, hm⟩ := ob_s hm
    refine q_ci (q_rv (rest := []) ⟨hx, hb, hml, hown, hts⟩ hK hN hP hD (c_X8_takes l D cI cZ H.size AT AT_al AT_kp AT_ik AT_rf AT_hd AT_bs AT_se AT_bf AT_te AT_by AT_an AT_vs vT_ab vT_be vT_byl r_14.1 r_14.2.1 r_14.2.2.1 r_14.2.2.2 fT_vs fT_by 0 0 5 r_21 hc_21) mb_X8_takes mv_X8_takes wl_X8_257 [0, 3, 2] rfl rfl rfl (Nat.le_of_ble_eq_true rfl) (Nat.le_of_ble_eq_true rfl) rfl hl.1 rfl (Nat.le_of_ble_eq_true rfl) ⟨Nat.le_refl 0, Nat.le_refl 0⟩ dX8_takesFlower_21) hP hD hS hA [0, 3, 2] rfl rfl (fun H locs hP hD hS => ?_)
    have hP : va_P D vwCl (wd_X8_takesFlower cI cZ AT AT_al AT_kp AT_ik AT_rf AT_hd AT_bs AT_se AT_bf AT_te AT_by AT_an AT_vs vT_ab vT_be vT_byl r_21.2.1 r_21.2.2.1 r_21.2.2.2.1 r_21.2.2.2.2.1 fT_an fT_by r_21.2.2.2.2.2) H := hP
    have hD : va_D A (wd_X8_takesFlower cI cZ AT AT_al AT_kp AT_ik AT_rf AT_hd AT_bs AT_se AT_bf AT_te AT_by AT_an AT_vs vT_ab vT_be vT_byl r_21.2.1 r_21.2.2.1 r_21.2.2.2.1 r_21.2.2.2.2.1 fT_an fT_by r_21.2.2.2.2.2) := hD
    refine lv_if_eq (tgt := 48) hx hb dX8_takesFlower_24 (by decide) (fun c_24 => ?_) (fun c_24 => ?_)
    · have hm := it_s c_24 hm
      refine lv_iconst (v := 0) hx hb dX8_takesFlower_48 (by decide) ?_
      have hm := Option.some.inj hm
      subst hm
      exact q_zret (v := 0) hx hb hr hlocks rfl hP hS dX8_takesFlower_49
    · have hm := it_n c_24 hm
      refine lv_aload_n hx hb dX8_takesFlower_27 rfl (lv_at hl 0 rfl) ?_
      refine lv_iconst (v := 1) hx hb dX8_takesFlower_28 (by decide) ?_
      refine lv_iconst (v := 1) hx hb dX8_takesFlower_29 (by decide) ?_
      refine lv_bipush (v := 9) hx hb dX8_takesFlower_30 (by decide) ?_
      obtain ⟨r_32, hc_32, hm⟩ := ob_s hm
      refine q_ci (q_rv (rest := []) ⟨hx, hb, hml, hown, hts⟩ hK hN hP hD (c_X8_takes l D cI cZ H.size AT AT_al AT_kp AT_ik AT_rf AT_hd AT_bs AT_se AT_bf AT_te AT_by AT_an AT_vs vT_ab vT_be vT_byl r_21.2.1 r_21.2.2.1 r_21.2.2.2.1 r_21.2.2.2.2.1 r_21.2.2.2.2.2 fT_by 1 1 9 r_32 hc_32) mb_X8_takes mv_X8_takes wl_X8_257 [0, 3, 2] rfl rfl rfl (Nat.le_of_ble_eq_true rfl) (Nat.le_of_ble_eq_true rfl) rfl hl.1 rfl (Nat.le_of_ble_eq_true rfl) ⟨Nat.le_refl 0, Nat.le_refl 0⟩ dX8_takesFlower_32) hP hD hS hA [0, 3, 2] rfl rfl (fun H locs hP hD hS => ?_)
      have hP : va_P D vwCl (wd_X8_takesFlower cI cZ AT AT_al AT_kp AT_ik AT_rf AT_hd AT_bs AT_se AT_bf AT_te AT_by AT_an AT_vs vT_ab vT_be vT_byl r_32.2.1 r_32.2.2.1 r_32.2.2.2.1 r_32.2.2.2.2.1 fT_an fT_by r_32.2.2.2.2.2) H := hP
      have hD : va_D A (wd_X8_takesFlower cI cZ AT AT_al AT_kp AT_ik AT_rf AT_hd AT_bs AT_se AT_bf AT_te AT_by AT_an AT_vs vT_ab vT_be vT_byl r_32.2.1 r_32.2.2.1 r_32.2.2.2.1 r_32.2.2.2.2.1 fT_an fT_by r_32.2.2.2.2.2) := hD
      refine lv_if_eq (tgt := 48) hx hb dX8_takesFlower_35 (by decide) (fun c_35 => ?_) (fun c_35 => ?_)
      · have hm := it_s c_35 hm
        refine lv_iconst (v := 0) hx hb dX8_takesFlower_48 (by decide) ?_
        have hm := Option.some.inj hm
        subst hm
        exact q_zret (v := 0) hx hb hr hlocks rfl hP hS dX8_takesFlower_49
      · have hm := it_n c_35 hm
        refine lv_aload_n hx hb dX8_takesFlower_38 rfl (lv_at hl 0 rfl) ?_
        refine lv_iconst (v := 2) hx hb dX8_takesFlower_39 (by decide) ?_
        refine lv_iconst (v := 0) hx hb dX8_takesFlower_40 (by decide) ?_
        refine lv_iconst (v := 5) hx hb dX8_takesFlower_41 (by decide) ?_
        obtain ⟨r_42, hc_42, hm⟩ := ob_s hm
        refine q_ci (q_rv (rest := []) ⟨hx, hb, hml, hown, hts⟩ hK hN hP hD (c_X8_takes l D cI cZ H.size AT AT_al AT_kp AT_ik AT_rf AT_hd AT_bs AT_se AT_bf AT_te AT_by AT_an AT_vs vT_ab vT_be vT_byl r_32.2.1 r_32.2.2.1 r_32.2.2.2.1 r_32.2.2.2.2.1 r_32.2.2.2.2.2 fT_by 2 0 5 r_42 hc_42) mb_X8_takes mv_X8_takes wl_X8_257 [0, 3, 2] rfl rfl rfl (Nat.le_of_ble_eq_true rfl) (Nat.le_of_ble_eq_true rfl) rfl hl.1 rfl (Nat.le_of_ble_eq_true rfl) ⟨Nat.le_refl 0, Nat.le_refl 0⟩ dX8_takesFlower_42) hP hD hS hA [0, 3, 2] rfl rfl (fun H locs hP hD hS => ?_)
        have hP : va_P D vwCl (wd_X8_takesFlower cI cZ AT AT_al AT_kp AT_ik AT_rf AT_hd AT_bs AT_se AT_bf AT_te AT_by AT_an AT_vs vT_ab vT_be vT_byl r_42.2.1 r_42.2.2.1 r_42.2.2.2.1 r_42.2.2.2.2.1 fT_an fT_by r_42.2.2.2.2.2) H := hP
        have hD : va_D A (wd_X8_takesFlower cI cZ AT AT_al AT_kp AT_ik AT_rf AT_hd AT_bs AT_se AT_bf AT_te AT_by AT_an AT_vs vT_ab vT_be vT_byl r_42.2.1 r_42.2.2.1 r_42.2.2.2.1 r_42.2.2.2.2.1 fT_an fT_by r_42.2.2.2.2.2) := hD
        refine lv_if_ne (tgt := 50) hx hb dX8_takesFlower_45 (by decide) (fun c_45 => ?_) (fun c_45 => ?_)
        · have hm := it_n c_45 hm
          refine lv_aload_n hx hb dX8_takesFlower_50 rfl (lv_at hl 0 rfl) ?_
          refine gf_X8_45 (v := .ref AT_an) hx hb hts hown hK hN hP 0 rfl rfl dX8_takesFlower_51 ?_
          refine lv_aload_n hx hb dX8_takesFlower_54 rfl (lv_at hl 0 rfl) ?_
          refine gf_X8_48 (v := .ref AT_vs) hx hb hts hown hK hN hP 0 rfl rfl dX8_takesFlower_55 ?_
          refine lv_iconst (v := 0) hx hb dX8_takesFlower_58 (by decide) ?_
          refine q_iald (j := 0) hx hb hK hP 3 rfl (q_inl (by decide)) (by decide) dX8_takesFlower_59 ?_
          refine lv_aload_n hx hb dX8_takesFlower_60 rfl (lv_at hl 0 rfl) ?_
          refine gf_X8_48 (v := .ref AT_vs) hx hb hts hown hK hN hP 0 rfl rfl dX8_takesFlower_61 ?_
          refine lv_iconst (v := 1) hx hb dX8_takesFlower_64 (by decide) ?_
          refine q_iald (j := 1) hx hb hK hP 3 rfl (q_inl (by decide)) (by decide) dX8_takesFlower_65 ?_
          refine lv_aload_n hx hb dX8_takesFlower_66 rfl (lv_at hl 0 rfl) ?_
          refine gf_X8_48 (v := .ref AT_vs) hx hb hts hown hK hN hP 0 rfl rfl dX8_takesFlower_67 ?_
          refine lv_iconst (v := 2) hx hb dX8_takesFlower_70 (by decide) ?_
          refine q_iald (j := 2) hx hb hK hP 3 rfl (q_inl (by decide)) (by decide) dX8_takesFlower_71 ?_
          obtain ⟨r_72, hc_72, hm⟩ := ob_s hm
          refine q_cv (q_rs (rest := []) ⟨hx, hb, hml, hown, hts⟩ hK hN hP hD (c_X8_layFlower l D cI cZ H.size AT_an 112 fT_an (r_42.2.2.2.2.2 0) (r_42.2.2.2.2.2 1) (r_42.2.2.2.2.2 2) r_72 hc_72) mb_X8_layFlower wt_X8_layFlower wl_X8_92 [1] rfl rfl (Nat.le_of_ble_eq_true rfl) (Nat.le_of_ble_eq_true rfl) rfl hl.1 rfl (Nat.le_of_ble_eq_true rfl) ⟨Nat.le_refl 0, Nat.le_refl 0⟩ dX8_takesFlower_72) hP hD hS hA [1] rfl rfl (fun H locs hP hD hS => ?_)
          have hP : va_P D vwCl (wd_X8_takesFlower cI cZ AT AT_al AT_kp AT_ik AT_rf AT_hd AT_bs AT_se AT_bf AT_te AT_by AT_an AT_vs vT_ab vT_be vT_byl r_42.2.1 r_42.2.2.1 r_42.2.2.2.1 r_42.2.2.2.2.1 r_72 fT_by r_42.2.2.2.2.2) H := hP
          have hD : va_D A (wd_X8_takesFlower cI cZ AT AT_al AT_kp AT_ik AT_rf AT_hd AT_bs AT_se AT_bf AT_te AT_by AT_an AT_vs vT_ab vT_be vT_byl r_42.2.1 r_42.2.2.1 r_42.2.2.2.1 r_42.2.2.2.2.1 r_72 fT_by r_42.2.2.2.2.2) := hD
          refine lv_iconst (v := 1) hx hb dX8_takesFlower_75 (by decide) ?_
          have hm := Option.some.inj hm
          subst hm
          exact q_zret (v := 1) hx hb hr hlocks rfl hP hS dX8_takesFlower_76
        · have hm := it_s c_45 hm
          refine lv_iconst (v := 0) hx hb dX8_takesFlower_48 (by decide) ?_
          have hm := Option.some.inj hm
          subst hm
          exact q_zret (v := 0) hx hb hr hlocks rfl hP hS dX8_takesFlower_49
  · have hm := it_s c_8 hm
    refine lv_iconst (v := 0) hx hb dX8_takesFlower_11 (by decide) ?_
    have hm := Option.some.inj hm
    subst hm
    exact q_zret (v := 0) hx hb hr hlocks rfl hP hS dX8_takesFlower_12
theorem mb_X8_takesSwap : q_mb yX8_takesSwap cX8_takesSwap 2 (some .boolean) 0 := ⟨wc_X8_takesSwap, wn_X8, by decide, by decide, by decide +kernel⟩
theorem mv_X8_takesSwap : q_mv yX8_takesSwap 8 := ⟨wi_X8_takesSwap, ws_X8_takesSwap, _, rfl, rfl⟩
def wd_X8_takesSwap (cI cZ : ClassId) (AT AT_al AT_kp AT_ik AT_rf AT_hd AT_bs AT_se AT_bf AT_te AT_by AT_an AT_vs : Nat) (vT_ab : Int64) (vT_be : Int64) (vT_byl : Int32) (vT_tka : Int32) (vT_tkl : Int32) (vT_tkn : Int32) (vT_val : Int32) (fT_by : Nat → Int32) (fT_vs : Nat → Int32) (fT_an : Nat → Int32) : va_W := [(AT, .inr (8, [.ref AT_al, .ref AT_kp, .ref AT_ik, .ref AT_rf, .long vT_ab, .long vT_be, .ref AT_hd, .ref AT_bs, .ref AT_se, .ref AT_bf, .ref AT_te, .ref AT_by, .int vT_byl, .int vT_tka, .int vT_tkl, .int vT_tkn, .int vT_val, .ref AT_an, .ref AT_vs])), (AT_by, .inl (cI, 150, .inl fT_by)), (AT_vs, .inl (cI, 3, .inl fT_vs)), (AT_an, .inl (cI, 112, .inl fT_an))]
def fm_X8_takesSwap (vT_byl : Int32) (vT_tka : Int32) (vT_tkl : Int32) (vT_tkn : Int32) (vT_val : Int32) (fT_by : Nat → Int32) (fT_vs : Nat → Int32) (fT_an : Nat → Int32) : Option (Int32 × Int32 × Int32 × Int32 × Int32 × (Nat → Int32) × (Nat → Int32)) := Option.bind (fm_X8_goBehind vT_byl vT_tka vT_tkl vT_tkn vT_val fT_by) (fun r_1 => Option.bind (fm_X8_takes 0 0 5 vT_byl r_1.1 r_1.2.1 r_1.2.2.1 r_1.2.2.2 fT_vs fT_by) (fun r_8 => if r_8.1 = 0 then (some (0, r_8.2.1, r_8.2.2.1, r_8.2.2.2.1, r_8.2.2.2.2.1, r_8.2.2.2.2.2, fT_an)) else (if r_8.2.2.2.1 = 2 then (if r_8.2.2.2.2.1 = (r_8.2.2.2.2.2 0) then (some (0, r_8.2.1, r_8.2.2.1, r_8.2.2.2.1, r_8.2.2.2.2.1, r_8.2.2.2.2.2, fT_an)) else (Option.bind (fm_X8_takes 1 0 5 vT_byl r_8.2.1 r_8.2.2.1 r_8.2.2.2.1 r_8.2.2.2.2.1 r_8.2.2.2.2.2 fT_by) (fun r_39 => if r_39.1 = 0 then (some (0, r_39.2.1, r_39.2.2.1, r_39.2.2.2.1, r_39.2.2.2.2.1, r_39.2.2.2.2.2, fT_an)) else (Option.bind (fm_X8_swapOn 112 (r_39.2.2.2.2.2 0) (r_39.2.2.2.2.2 1) fT_an) (fun r_63 => some (1, r_39.2.1, r_39.2.2.1, r_39.2.2.2.1, r_39.2.2.2.2.1, r_39.2.2.2.2.2, r_63.2)))))) else (some (0, r_8.2.1, r_8.2.2.1, r_8.2.2.2.1, r_8.2.2.2.2.1, r_8.2.2.2.2.2, fT_an)))))
set_option maxHeartbeats 4000000 in
set_option maxRecDepth 100000 in
theorem c_X8_takesSwap (l : Launch) (D : va_G) (cI cZ : ClassId) (sz : Nat) (AT AT_al AT_kp AT_ik AT_rf AT_hd AT_bs AT_se AT_bf AT_te AT_by AT_an AT_vs : Nat) (vT_ab : Int64) (vT_be : Int64) (vT_byl : Int32) (vT_tka : Int32) (vT_tkl : Int32) (vT_tkn : Int32) (vT_val : Int32) (fT_by : Nat → Int32) (fT_vs : Nat → Int32) (fT_an : Nat → Int32) (out : (Int32 × Int32 × Int32 × Int32 × Int32 × (Nat → Int32) × (Nat → Int32))) (hm : fm_X8_takesSwap vT_byl vT_tka vT_tkl vT_tkn vT_val fT_by fT_vs fT_an = some out) : Met l yX8_takesSwap (Cond.code yX8_takesSwap cX8_takesSwap 2 (some .boolean) :: bg) { frames := 5, cells := 0, slots := 0, locals := 112 } (va_Pc [.ref AT] (q_pre D cI cZ sz (wd_X8_takesSwap cI cZ AT AT_al AT_kp AT_ik AT_rf AT_hd AT_bs AT_se AT_bf AT_te AT_by AT_an AT_vs vT_ab vT_be vT_byl vT_tka vT_tkl vT_tkn vT_val fT_by fT_vs fT_an))) (q_Qi D (wd_X8_takesSwap cI cZ AT AT_al AT_kp AT_ik AT_rf AT_hd AT_bs AT_se AT_bf AT_te AT_by AT_an AT_vs vT_ab vT_be vT_byl out.2.1 out.2.2.1 out.2.2.2.1 out.2.2.2.2.1 fT_by out.2.2.2.2.2.1 out.2.2.2.2.2.2) out.1 (va_A (wd_X8_takesSwap cI cZ AT AT_al AT_kp AT_ik AT_rf AT_hd AT_bs AT_se AT_bf AT_te AT_by AT_an AT_vs vT_ab vT_be vT_byl vT_tka vT_tkl vT_tkn vT_val fT_by fT_vs fT_an) sz)) 0 0 (va_A (wd_X8_takesSwap cI cZ AT AT_al AT_kp AT_ik AT_rf AT_hd AT_bs AT_se AT_bf AT_te AT_by AT_an AT_vs vT_ab vT_be vT_byl vT_tka vT_tkl vT_tkn vT_val fT_by fT_vs fT_an) sz) := by
  refine q_met (fun A => q_Qi D (wd_X8_takesSwap cI cZ AT AT_al AT_kp AT_ik AT_rf AT_hd AT_bs AT_se AT_bf AT_te AT_by AT_an AT_vs vT_ab vT_be vT_byl out.2.1 out.2.2.1 out.2.2.2.1 out.2.2.2.2.1 fT_by out.2.2.2.2.2.1 out.2.2.2.2.2.2) out.1 A) (by decide) (Nat.le_of_ble_eq_true rfl) ?_
  intro p e s m below meth c ls A hx hb hr hml hown hts hlocks _ hA hS hP hD hK hN hl
  have hown : s.vm.findClass RX8 = some m.cls := hown
  have hl : lv_has ls 2 [(0, .ref AT)] := hl
  unfold fm_X8_takesSwap at hm
  refine q_gen hS hP ?_
  intro H locs hP hS
  refine lv_aload_n hx hb dX8_takesSwap_0 rfl (lv_at hl 0 rfl) ?_
  obtain ⟨r_1, hc_1, hm⟩ := ob_s hm
  refine q_cv (q_rv (rest := []) ⟨hx, hb, hml, hown, hts⟩ hK hN hP hD (c_X8_goBehind l D cI cZ H.size AT AT_al AT_kp AT_ik AT_rf AT_hd AT_bs AT_se AT_bf AT_te AT_by AT_an AT_vs vT_ab vT_be vT_byl vT_tka vT_tkl vT_tkn vT_val fT_by r_1 hc_1) mb_X8_goBehind mv_X8_goBehind wl_X8_254 [0, 1] rfl rfl rfl (Nat.le_of_ble_eq_true rfl) (Nat.le_of_ble_eq_true rfl) rfl hl.1 rfl (Nat.le_of_ble_eq_true rfl) ⟨Nat.le_refl 0, Nat.le_refl 0⟩ dX8_takesSwap_1) hP hD hS hA [0, 1] rfl rfl (fun H locs hP hD hS => ?_)
  have hP : va_P D vwCl (wd_X8_takesSwap cI cZ AT AT_al AT_kp AT_ik AT_rf AT_hd AT_bs AT_se AT_bf AT_te AT_by AT_an AT_vs vT_ab vT_be vT_byl r_1.1 r_1.2.1 r_1.2.2.1 r_1.2.2.2 fT_by fT_vs fT_an) H := hP
  have hD : va_D A (wd_X8_takesSwap cI cZ AT AT_al AT_kp AT_ik AT_rf AT_hd AT_bs AT_se AT_bf AT_te AT_by AT_an AT_vs vT_ab vT_be vT_byl r_1.1 r_1.2.1 r_1.2.2.1 r_1.2.2.2 fT_by fT_vs fT_an) := hD
  refine lv_aload_n hx hb dX8_takesSwap_4 rfl (lv_at hl 0 rfl) ?_
  refine lv_iconst (v := 0) hx hb dX8_takesSwap_5 (by decide) ?_
  refine lv_iconst (v := 0) hx hb dX8_takesSwap_6 (by decide) ?_
  refine lv_iconst (v := 5) hx hb dX8_takesSwap_7 (by decide) ?_
  obtain ⟨r_8, hc_8, hm⟩ := ob_s hm
  refine q_ci (q_rv (rest := []) ⟨hx, hb, hml, hown, hts⟩ hK hN hP hD (c_X8_takes l D cI cZ H.size AT AT_al AT_kp AT_ik AT_rf AT_hd AT_bs AT_se AT_bf AT_te AT_by AT_an AT_vs vT_ab vT_be vT_byl r_1.1 r_1.2.1 r_1.2.2.1 r_1.2.2.2 fT_vs fT_by 0 0 5 r_8 hc_8) mb_X8_takes mv_X8_takes wl_X8_257 [0, 2, 1] rfl rfl rfl (Nat.le_of_ble_eq_true rfl) (Nat.le_of_ble_eq_true rfl) rfl hl.1 rfl (Nat.le_of_ble_eq_true rfl) ⟨Nat.le_refl 0, Nat.le_refl 0⟩ dX8_takesSwap_8) hP hD hS hA [0, 2, 1] rfl rfl (fun H locs hP hD hS => ?_)
  have hP : va_P D vwCl (wd_X8_takesSwap cI cZ AT AT_al AT_kp AT_ik AT_rf AT_hd AT_bs AT_se AT_bf AT_te AT_by AT_an AT_vs vT_ab vT_be vT_byl r_8.2.1 r_8.2.2.1 r_8.2.2.2.1 r_8.2.2.2.2.1 fT_by r_8.2.2.2.2.2 fT_an) H := hP
  have hD : va_D A (wd_X8_takesSwap cI cZ AT AT_al AT_kp AT_ik AT_rf AT_hd AT_bs AT_se AT_bf AT_te AT_by AT_an AT_vs vT_ab vT_be vT_byl r_8.2.1 r_8.2.2.1 r_8.2.2.2.1 r_8.2.2.2.2.1 fT_by r_8.2.2.2.2.2 fT_an) := hD
  refine lv_if_eq (tgt := 45) hx hb dX8_takesSwap_11 (by decide) (fun c_11 => ?_) (fun c_11 => ?_)
  · have hm := it_s c_11 hm
    refine lv_iconst (v := 0) hx hb dX8_takesSwap_45 (by decide) ?_
    have hm := Option.some.inj hm
    subst hm
    exact q_zret (v := 0) hx hb hr hlocks rfl hP hS dX8_takesSwap_46
  · have hm := it_n c_11 hm
    refine lv_aload_n hx hb dX8_takesSwap_14 rfl (lv_at hl 0 rfl) ?_
    refine gf_X8_238 (v := .int r_8.2.2.2.1) hx hb hts hown hK hN hP 0 rfl rfl dX8_takesSwap_15 ?_
    refine lv_iconst (v := 2) hx hb dX8_takesSwap_18 (by decide) ?_
    refine lv_icmp_ne (tgt := 45) hx hb dX8_takesSwap_19 (by decide) (fun c_19 => ?_) (fun c_19 => ?_)
    · have hm := it_n c_19 hm
      refine lv_iconst (v := 0) hx hb dX8_takesSwap_45 (by decide) ?_
      have hm := Option.some.inj hm
      subst hm
      exact q_zret (v := 0) hx hb hr hlocks rfl hP hS dX8_takesSwap_46
    · have hm := it_s c_19 hm
      refine lv_aload_n hx hb dX8_takesSwap_22 rfl (lv_at hl 0 rfl) ?_
      refine gf_X8_241 (v := .int r_8.2.2.2.2.1) hx hb hts hown hK hN hP 0 rfl rfl dX8_takesSwap_23 ?_
      refine lv_aload_n hx hb dX8_takesSwap_26 rfl (lv_at hl 0 rfl) ?_
      refine gf_X8_48 (v := .ref AT_vs) hx hb hts hown hK hN hP 0 rfl rfl dX8_takesSwap_27 ?_
      refine lv_iconst (v := 0) hx hb dX8_takesSwap_30 (by decide) ?_
      refine q_iald (j := 0) hx hb hK hP 2 rfl (q_inl (by decide)) (by decide) dX8_takesSwap_31 ?_
      refine lv_icmp_eq (tgt := 45) hx hb dX8_takesSwap_32 (by decide) (fun c_32 => ?_) (fun c_32 => ?_)
      · have hm := it_s c_32 hm
        refine lv_iconst (v := 0) hx hb dX8_takesSwap_45 (by decide) ?_
        have hm := Option.some.inj hm
        subst hm
        exact q_zret (v := 0) hx hb hr hlocks rfl hP hS dX8_takesSwap_46
      · have hm := it_n c_32 hm
        refine lv_aload_n hx hb dX8_takesSwap_35 rfl (lv_at hl 0 rfl) ?_
        refine lv_iconst (v := 1) hx hb dX8_takesSwap_36 (by decide) ?_
        refine lv_iconst (v := 0) hx hb dX8_takesSwap_37 (by decide) ?_
        refine lv_iconst (v := 5) hx hb dX8_takesSwap_38 (by decide) ?_
        obtain ⟨r_39, hc_39, hm⟩ := ob_s hm
        refine q_ci (q_rv (rest := []) ⟨hx, hb, hml, hown, hts⟩ hK hN hP hD (c_X8_takes l D cI cZ H.size AT AT_al AT_kp AT_ik AT_rf AT_hd AT_bs AT_se AT_bf AT_te AT_by AT_an AT_vs vT_ab vT_be vT_byl r_8.2.1 r_8.2.2.1 r_8.2.2.2.1 r_8.2.2.2.2.1 r_8.2.2.2.2.2 fT_by 1 0 5 r_39 hc_39) mb_X8_takes mv_X8_takes wl_X8_257 [0, 2, 1] rfl rfl rfl (Nat.le_of_ble_eq_true rfl) (Nat.le_of_ble_eq_true rfl) rfl hl.1 rfl (Nat.le_of_ble_eq_true rfl) ⟨Nat.le_refl 0, Nat.le_refl 0⟩ dX8_takesSwap_39) hP hD hS hA [0, 2, 1] rfl rfl (fun H locs hP hD hS => ?_)
        have hP : va_P D vwCl (wd_X8_takesSwap cI cZ AT AT_al AT_kp AT_ik AT_rf AT_hd AT_bs AT_se AT_bf AT_te AT_by AT_an AT_vs vT_ab vT_be vT_byl r_39.2.1 r_39.2.2.1 r_39.2.2.2.1 r_39.2.2.2.2.1 fT_by r_39.2.2.2.2.2 fT_an) H := hP
        have hD : va_D A (wd_X8_takesSwap cI cZ AT AT_al AT_kp AT_ik AT_rf AT_hd AT_bs AT_se AT_bf AT_te AT_by AT_an AT_vs vT_ab vT_be vT_byl r_39.2.1 r_39.2.2.1 r_39.2.2.2.1 r_39.2.2.2.2.1 fT_by r_39.2.2.2.2.2 fT_an) := hD
        refine lv_if_ne (tgt := 47) hx hb dX8_takesSwap_42 (by decide) (fun c_42 => ?_) (fun c_42 => ?_)
        · have hm := it_n c_42 hm
          refine lv_aload_n hx hb dX8_takesSwap_47 rfl (lv_at hl 0 rfl) ?_
          refine gf_X8_45 (v := .ref AT_an) hx hb hts hown hK hN hP 0 rfl rfl dX8_takesSwap_48 ?_
          refine lv_aload_n hx hb dX8_takesSwap_51 rfl (lv_at hl 0 rfl) ?_
          refine gf_X8_48 (v := .ref AT_vs) hx hb hts hown hK hN hP 0 rfl rfl dX8_takesSwap_52 ?_
          refine lv_iconst (v := 0) hx hb dX8_takesSwap_55 (by decide) ?_
          refine q_iald (j := 0) hx hb hK hP 2 rfl (q_inl (by decide)) (by decide) dX8_takesSwap_56 ?_
          refine lv_aload_n hx hb dX8_takesSwap_57 rfl (lv_at hl 0 rfl) ?_
          refine gf_X8_48 (v := .ref AT_vs) hx hb hts hown hK hN hP 0 rfl rfl dX8_takesSwap_58 ?_
          refine lv_iconst (v := 1) hx hb dX8_takesSwap_61 (by decide) ?_
          refine q_iald (j := 1) hx hb hK hP 2 rfl (q_inl (by decide)) (by decide) dX8_takesSwap_62 ?_
          obtain ⟨r_63, hc_63, hm⟩ := ob_s hm
          refine q_ci (q_rs (rest := []) ⟨hx, hb, hml, hown, hts⟩ hK hN hP hD (c_X8_swapOn l D cI cZ H.size AT_an 112 fT_an (r_39.2.2.2.2.2 0) (r_39.2.2.2.2.2 1) r_63 hc_63) mb_X8_swapOn wt_X8_swapOn wl_X8_129 [3] rfl rfl (Nat.le_of_ble_eq_true rfl) (Nat.le_of_ble_eq_true rfl) rfl hl.1 rfl (Nat.le_of_ble_eq_true rfl) ⟨Nat.le_refl 0, Nat.le_refl 0⟩ dX8_takesSwap_63) hP hD hS hA [3] rfl rfl (fun H locs hP hD hS => ?_)
          have hP : va_P D vwCl (wd_X8_takesSwap cI cZ AT AT_al AT_kp AT_ik AT_rf AT_hd AT_bs AT_se AT_bf AT_te AT_by AT_an AT_vs vT_ab vT_be vT_byl r_39.2.1 r_39.2.2.1 r_39.2.2.2.1 r_39.2.2.2.2.1 fT_by r_39.2.2.2.2.2 r_63.2) H := hP
          have hD : va_D A (wd_X8_takesSwap cI cZ AT AT_al AT_kp AT_ik AT_rf AT_hd AT_bs AT_se AT_bf AT_te AT_by AT_an AT_vs vT_ab vT_be vT_byl r_39.2.1 r_39.2.2.1 r_39.2.2.2.1 r_39.2.2.2.2.1 fT_by r_39.2.2.2.2.2 r_63.2) := hD
          refine lv_istore_n (lv' := [(1, .int r_63.1), (0, .ref AT)]) hx hb dX8_takesSwap_66 rfl hl (by decide) rfl (fun ls hl => ?_)
          refine lv_iconst (v := 1) hx hb dX8_takesSwap_67 (by decide) ?_
          have hm := Option.some.inj hm
          subst hm
          exact q_zret (v := 1) hx hb hr hlocks rfl hP hS dX8_takesSwap_68
        · have hm := it_s c_42 hm
          refine lv_iconst (v := 0) hx hb dX8_takesSwap_45 (by decide) ?_
          have hm := Option.some.inj hm
          subst hm
          exact q_zret (v := 0) hx hb hr hlocks rfl hP hS dX8_takesSwap_46
theorem mb_X8_takesNights : q_mb yX8_takesNights cX8_takesNights 1 (some .boolean) 0 := ⟨wc_X8_takesNights, wn_X8, by decide, by decide, by decide +kernel⟩
theorem mv_X8_takesNights : q_mv yX8_takesNights 8 := ⟨wi_X8_takesNights, ws_X8_takesNights, _, rfl, rfl⟩
def wd_X8_takesNights (cI cZ : ClassId) (AT AT_al AT_kp AT_ik AT_rf AT_hd AT_bs AT_se AT_bf AT_te AT_by AT_an AT_vs : Nat) (vT_ab : Int64) (vT_be : Int64) (vT_byl : Int32) (vT_tka : Int32) (vT_tkl : Int32) (vT_tkn : Int32) (vT_val : Int32) (fT_by : Nat → Int32) (fT_vs : Nat → Int32) (fT_an : Nat → Int32) : va_W := [(AT, .inr (8, [.ref AT_al, .ref AT_kp, .ref AT_ik, .ref AT_rf, .long vT_ab, .long vT_be, .ref AT_hd, .ref AT_bs, .ref AT_se, .ref AT_bf, .ref AT_te, .ref AT_by, .int vT_byl, .int vT_tka, .int vT_tkl, .int vT_tkn, .int vT_val, .ref AT_an, .ref AT_vs])), (AT_by, .inl (cI, 150, .inl fT_by)), (AT_vs, .inl (cI, 3, .inl fT_vs)), (AT_an, .inl (cI, 112, .inl fT_an))]
def fm_X8_takesNights (vT_byl : Int32) (vT_tka : Int32) (vT_tkl : Int32) (vT_tkn : Int32) (vT_val : Int32) (fT_by : Nat → Int32) (fT_vs : Nat → Int32) (fT_an : Nat → Int32) : Option (Int32 × Int32 × Int32 × Int32 × Int32 × (Nat → Int32) × (Nat → Int32)) := Option.bind (fm_X8_goBehind vT_byl vT_tka vT_tkl vT_tkn vT_val fT_by) (fun r_1 => Option.bind (fm_X8_takes 0 1 99 vT_byl r_1.1 r_1.2.1 r_1.2.2.1 r_1.2.2.2 fT_vs fT_by) (fun r_9 => if r_9.1 = 0 then (some (0, r_9.2.1, r_9.2.2.1, r_9.2.2.2.1, r_9.2.2.2.2.1, r_9.2.2.2.2.2, fT_an)) else (Option.bind (fm_X8_goNights 112 (r_9.2.2.2.2.2 0) fT_an) (fun r_27 => some (1, r_9.2.1, r_9.2.2.1, r_9.2.2.2.1, r_9.2.2.2.2.1, r_9.2.2.2.2.2, r_27)))))
set_option maxHeartbeats 4000000 in
set_option maxRecDepth 100000 in
theorem c_X8_takesNights (l : Launch) (D : va_G) (cI cZ : ClassId) (sz : Nat) (AT AT_al AT_kp AT_ik AT_rf AT_hd AT_bs AT_se AT_bf AT_te AT_by AT_an AT_vs : Nat) (vT_ab : Int64) (vT_be : Int64) (vT_byl : Int32) (vT_tka : Int32) (vT_tkl : Int32) (vT_tkn : Int32) (vT_val : Int32) (fT_by : Nat → Int32) (fT_vs : Nat → Int32) (fT_an : Nat → Int32) (out : (Int32 × Int32 × Int32 × Int32 × Int32 × (Nat → Int32) × (Nat → Int32))) (hm : fm_X8_takesNights vT_byl vT_tka vT_tkl vT_tkn vT_val fT_by fT_vs fT_an = some out) : Met l yX8_takesNights (Cond.code yX8_takesNights cX8_takesNights 1 (some .boolean) :: bg) { frames := 5, cells := 0, slots := 0, locals := 114 } (va_Pc [.ref AT] (q_pre D cI cZ sz (wd_X8_takesNights cI cZ AT AT_al AT_kp AT_ik AT_rf AT_hd AT_bs AT_se AT_bf AT_te AT_by AT_an AT_vs vT_ab vT_be vT_byl vT_tka vT_tkl vT_tkn vT_val fT_by fT_vs fT_an))) (q_Qi D (wd_X8_takesNights cI cZ AT AT_al AT_kp AT_ik AT_rf AT_hd AT_bs AT_se AT_bf AT_te AT_by AT_an AT_vs vT_ab vT_be vT_byl out.2.1 out.2.2.1 out.2.2.2.1 out.2.2.2.2.1 fT_by out.2.2.2.2.2.1 out.2.2.2.2.2.2) out.1 (va_A (wd_X8_takesNights cI cZ AT AT_al AT_kp AT_ik AT_rf AT_hd AT_bs AT_se AT_bf AT_te AT_by AT_an AT_vs vT_ab vT_be vT_byl vT_tka vT_tkl vT_tkn vT_val fT_by fT_vs fT_an) sz)) 0 0 (va_A (wd_X8_takesNights cI cZ AT AT_al AT_kp AT_ik AT_rf AT_hd AT_bs AT_se AT_bf AT_te AT_by AT_an AT_vs vT_ab vT_be vT_byl vT_tka vT_tkl vT_tkn vT_val fT_by fT_vs fT_an) sz) := by
  refine q_met (fun A => q_Qi D (wd_X8_takesNights cI cZ AT AT_al AT_kp AT_ik AT_rf AT_hd AT_bs AT_se AT_bf AT_te AT_by AT_an AT_vs vT_ab vT_be vT_byl out.2.1 out.2.2.1 out.2.2.2.1 out.2.2.2.2.1 fT_by out.2.2.2.2.2.1 out.2.2.2.2.2.2) out.1 A) (by decide) (Nat.le_of_ble_eq_true rfl) ?_
  intro p e s m below meth c ls A hx hb hr hml hown hts hlocks _ hA hS hP hD hK hN hl
  have hown : s.vm.findClass RX8 = some m.cls := hown
  have hl : lv_has ls 1 [(0, .ref AT)] := hl
  unfold fm_X8_takesNights at hm
  refine q_gen hS hP ?_
  intro H locs hP hS
  refine lv_aload_n hx hb dX8_takesNights_0 rfl (lv_at hl 0 rfl) ?_
  obtain ⟨r_1, hc_1, hm⟩ := ob_s hm
  refine q_cv (q_rv (rest := []) ⟨hx, hb, hml, hown, hts⟩ hK hN hP hD (c_X8_goBehind l D cI cZ H.size AT AT_al AT_kp AT_ik AT_rf AT_hd AT_bs AT_se AT_bf AT_te AT_by AT_an AT_vs vT_ab vT_be vT_byl vT_tka vT_tkl vT_tkn vT_val fT_by r_1 hc_1) mb_X8_goBehind mv_X8_goBehind wl_X8_254 [0, 1] rfl rfl rfl (Nat.le_of_ble_eq_true rfl) (Nat.le_of_ble_eq_true rfl) rfl hl.1 rfl (Nat.le_of_ble_eq_true rfl) ⟨Nat.le_refl 0, Nat.le_refl 0⟩ dX8_takesNights_1) hP hD hS hA [0, 1] rfl rfl (fun H locs hP hD hS => ?_)
  have hP : va_P D vwCl (wd_X8_takesNights cI cZ AT AT_al AT_kp AT_ik AT_rf AT_hd AT_bs AT_se AT_bf AT_te AT_by AT_an AT_vs vT_ab vT_be vT_byl r_1.1 r_1.2.1 r_1.2.2.1 r_1.2.2.2 fT_by fT_vs fT_an) H := hP
  have hD : va_D A (wd_X8_takesNights cI cZ AT AT_al AT_kp AT_ik AT_rf AT_hd AT_bs AT_se AT_bf AT_te AT_by AT_an AT_vs vT_ab vT_be vT_byl r_1.1 r_1.2.1 r_1.2.2.1 r_1.2.2.2 fT_by fT_vs fT_an) := hD
  refine lv_aload_n hx hb dX8_takesNights_4 rfl (lv_at hl 0 rfl) ?_
  refine lv_iconst (v := 0) hx hb dX8_takesNights_5 (by decide) ?_
  refine lv_iconst (v := 1) hx hb dX8_takesNights_6 (by decide) ?_
  refine lv_bipush (v := 99) hx hb dX8_takesNights_7 (by decide) ?_
  obtain ⟨r_9, hc_9, hm⟩ := ob_s hm
  refine q_ci (q_rv (rest := []) ⟨hx, hb, hml, hown, hts⟩ hK hN hP hD (c_X8_takes l D cI cZ H.size AT AT_al AT_kp AT_ik AT_rf AT_hd AT_bs AT_se AT_bf AT_te AT_by AT_an AT_vs vT_ab vT_be vT_byl r_1.1 r_1.2.1 r_1.2.2.1 r_1.2.2.2 fT_vs fT_by 0 1 99 r_9 hc_9) mb_X8_takes mv_X8_takes wl_X8_257 [0, 2, 1] rfl rfl rfl (Nat.le_of_ble_eq_true rfl) (Nat.le_of_ble_eq_true rfl) rfl hl.1 rfl (Nat.le_of_ble_eq_true rfl) ⟨Nat.le_refl 0, Nat.le_refl 0⟩ dX8_takesNights_9) hP hD hS hA [0, 2, 1] rfl rfl (fun H locs hP hD hS => ?_)
  have hP : va_P D vwCl (wd_X8_takesNights cI cZ AT AT_al AT_kp AT_ik AT_rf AT_hd AT_bs AT_se AT_bf AT_te AT_by AT_an AT_vs vT_ab vT_be vT_byl r_9.2.1 r_9.2.2.1 r_9.2.2.2.1 r_9.2.2.2.2.1 fT_by r_9.2.2.2.2.2 fT_an) H := hP
  have hD : va_D A (wd_X8_takesNights cI cZ AT AT_al AT_kp AT_ik AT_rf AT_hd AT_bs AT_se AT_bf AT_te AT_by AT_an AT_vs vT_ab vT_be vT_byl r_9.2.1 r_9.2.2.1 r_9.2.2.2.1 r_9.2.2.2.2.1 fT_by r_9.2.2.2.2.2 fT_an) := hD
  refine lv_if_ne (tgt := 17) hx hb dX8_takesNights_12 (by decide) (fun c_12 => ?_) (fun c_12 => ?_)
  · have hm := it_n c_12 hm
    refine lv_aload_n hx hb dX8_takesNights_17 rfl (lv_at hl 0 rfl) ?_
    refine gf_X8_45 (v := .ref AT_an) hx hb hts hown hK hN hP 0 rfl rfl dX8_takesNights_18 ?_
    refine lv_aload_n hx hb dX8_takesNights_21 rfl (lv_at hl 0 rfl) ?_
    refine gf_X8_48 (v := .ref AT_vs) hx hb hts hown hK hN hP 0 rfl rfl dX8_takesNights_22 ?_
    refine lv_iconst (v := 0) hx hb dX8_takesNights_25 (by decide) ?_
    refine q_iald (j := 0) hx hb hK hP 2 rfl (q_inl (by decide)) (by decide) dX8_takesNights_26 ?_
    obtain ⟨r_27, hc_27, hm⟩ := ob_s hm
    refine q_cv (q_rs (rest := []) ⟨hx, hb, hml, hown, hts⟩ hK hN hP hD (c_X8_goNights l D cI cZ H.size AT_an 112 fT_an (r_9.2.2.2.2.2 0) r_27 hc_27) mb_X8_goNights wt_X8_goNights wl_X8_118 [3] rfl rfl (Nat.le_of_ble_eq_true rfl) (Nat.le_of_ble_eq_true rfl) rfl hl.1 rfl (Nat.le_of_ble_eq_true rfl) ⟨Nat.le_refl 0, Nat.le_refl 0⟩ dX8_takesNights_27) hP hD hS hA [3] rfl rfl (fun H locs hP hD hS => ?_)
    have hP : va_P D vwCl (wd_X8_takesNights cI cZ AT AT_al AT_kp AT_ik AT_rf AT_hd AT_bs AT_se AT_bf AT_te AT_by AT_an AT_vs vT_ab vT_be vT_byl r_9.2.1 r_9.2.2.1 r_9.2.2.2.1 r_9.2.2.2.2.1 fT_by r_9.2.2.2.2.2 r_27) H := hP
    have hD : va_D A (wd_X8_takesNights cI cZ AT AT_al AT_kp AT_ik AT_rf AT_hd AT_bs AT_se AT_bf AT_te AT_by AT_an AT_vs vT_ab vT_be vT_byl r_9.2.1 r_9.2.2.1 r_9.2.2.2.1 r_9.2.2.2.2.1 fT_by r_9.2.2.2.2.2 r_27) := hD
    refine lv_iconst (v := 1) hx hb dX8_takesNights_30 (by decide) ?_
    have hm := Option.some.inj hm
    subst hm
    exact q_zret (v := 1) hx hb hr hlocks rfl hP hS dX8_takesNights_31
  · have hm := it_s c_12 hm
    refine lv_iconst (v := 0) hx hb dX8_takesNights_15 (by decide) ?_
    have hm := Option.some.inj hm
    subst hm
    exact q_zret (v := 0) hx hb hr hlocks rfl hP hS dX8_takesNights_16
theorem mb_X8_takesItem : q_mb yX8_takesItem cX8_takesItem 1 (some .boolean) 0 := ⟨wc_X8_takesItem, wn_X8, by decide, by decide, by decide +kernel⟩
theorem mv_X8_takesItem : q_mv yX8_takesItem 8 := ⟨wi_X8_takesItem, ws_X8_takesItem, _, rfl, rfl⟩
def wd_X8_takesItem (cI cZ : ClassId) (AT AT_al AT_kp AT_ik AT_rf AT_hd AT_bs AT_se AT_bf AT_te AT_by AT_an AT_vs : Nat) (vT_ab : Int64) (vT_be : Int64) (vT_byl : Int32) (vT_tka : Int32) (vT_tkl : Int32) (vT_tkn : Int32) (vT_val : Int32) (fT_by : Nat → Int32) (fT_vs : Nat → Int32) (fT_an : Nat → Int32) : va_W := [(AT, .inr (8, [.ref AT_al, .ref AT_kp, .ref AT_ik, .ref AT_rf, .long vT_ab, .long vT_be, .ref AT_hd, .ref AT_bs, .ref AT_se, .ref AT_bf, .ref AT_te, .ref AT_by, .int vT_byl, .int vT_tka, .int vT_tkl, .int vT_tkn, .int vT_val, .ref AT_an, .ref AT_vs])), (AT_by, .inl (cI, 150, .inl fT_by)), (AT_vs, .inl (cI, 3, .inl fT_vs)), (AT_an, .inl (cI, 112, .inl fT_an))]
def fm_X8_takesItem (vT_byl : Int32) (vT_tka : Int32) (vT_tkl : Int32) (vT_tkn : Int32) (vT_val : Int32) (fT_by : Nat → Int32) (fT_vs : Nat → Int32) (fT_an : Nat → Int32) : Option (Int32 × Int32 × Int32 × Int32 × Int32 × (Nat → Int32) × (Nat → Int32)) := Option.bind (fm_X8_spellsSleeper vT_tka vT_tkl vT_tkn fT_by) (fun r_1 => if r_1 = 0 then (Option.bind (fm_X8_spells 6 102 108 111 119 101 114 vT_tka vT_tkl vT_tkn fT_by) (fun r_27 => if r_27 = 0 then (Option.bind (fm_X8_spells 4 115 119 97 112 0 0 vT_tka vT_tkl vT_tkn fT_by) (fun r_50 => if r_50 = 0 then (Option.bind (fm_X8_spells 6 110 105 103 104 116 115 vT_tka vT_tkl vT_tkn fT_by) (fun r_76 => if r_76 = 0 then (some (0, vT_tka, vT_tkl, vT_tkn, vT_val, fT_vs, fT_an)) else (Option.bind (fm_X8_takesNights vT_byl vT_tka vT_tkl vT_tkn vT_val fT_by fT_vs fT_an) (fun r_83 => if r_83.1 = 0 then (some (0, r_83.2.1, r_83.2.2.1, r_83.2.2.2.1, r_83.2.2.2.2.1, r_83.2.2.2.2.2.1, r_83.2.2.2.2.2.2)) else (some (1, r_83.2.1, r_83.2.2.1, r_83.2.2.2.1, r_83.2.2.2.2.1, r_83.2.2.2.2.2.1, r_83.2.2.2.2.2.2)))))) else (Option.bind (fm_X8_takesSwap vT_byl vT_tka vT_tkl vT_tkn vT_val fT_by fT_vs fT_an) (fun r_57 => bz r_57.1 (some (r_57.1, r_57.2.1, r_57.2.2.1, r_57.2.2.2.1, r_57.2.2.2.2.1, r_57.2.2.2.2.2.1, r_57.2.2.2.2.2.2)))))) else (Option.bind (fm_X8_takesFlower vT_byl vT_tka vT_tkl vT_tkn vT_val fT_an fT_by fT_vs) (fun r_34 => bz r_34.1 (some (r_34.1, r_34.2.1, r_34.2.2.1, r_34.2.2.2.1, r_34.2.2.2.2.1, r_34.2.2.2.2.2.2, r_34.2.2.2.2.2.1)))))) else (Option.bind (fm_X8_takesSleeper vT_byl vT_tka vT_tkl vT_tkn vT_val fT_an fT_by fT_vs) (fun r_8 => bz r_8.1 (some (r_8.1, r_8.2.1, r_8.2.2.1, r_8.2.2.2.1, r_8.2.2.2.2.1, r_8.2.2.2.2.2.2, r_8.2.2.2.2.2.1)))))
set_option maxHeartbeats 4000000 in
set_option maxRecDepth 100000 in
theorem c_X8_takesItem (l : Launch) (D : va_G) (cI cZ : ClassId) (sz : Nat) (AT AT_al AT_kp AT_ik AT_rf AT_hd AT_bs AT_se AT_bf AT_te AT_by AT_an AT_vs : Nat) (vT_ab : Int64) (vT_be : Int64) (vT_byl : Int32) (vT_tka : Int32) (vT_tkl : Int32) (vT_tkn : Int32) (vT_val : Int32) (fT_by : Nat → Int32) (fT_vs : Nat → Int32) (fT_an : Nat → Int32) (out : (Int32 × Int32 × Int32 × Int32 × Int32 × (Nat → Int32) × (Nat → Int32))) (hm : fm_X8_takesItem vT_byl vT_tka vT_tkl vT_tkn vT_val fT_by fT_vs fT_an = some out) : Met l yX8_takesItem (Cond.code yX8_takesItem cX8_takesItem 1 (some .boolean) :: bg) { frames := 6, cells := 0, slots := 0, locals := 134 } (va_Pc [.ref AT] (q_pre D cI cZ sz (wd_X8_takesItem cI cZ AT AT_al AT_kp AT_ik AT_rf AT_hd AT_bs AT_se AT_bf AT_te AT_by AT_an AT_vs vT_ab vT_be vT_byl vT_tka vT_tkl vT_tkn vT_val fT_by fT_vs fT_an))) (q_Qi D (wd_X8_takesItem cI cZ AT AT_al AT_kp AT_ik AT_rf AT_hd AT_bs AT_se AT_bf AT_te AT_by AT_an AT_vs vT_ab vT_be vT_byl out.2.1 out.2.2.1 out.2.2.2.1 out.2.2.2.2.1 fT_by out.2.2.2.2.2.1 out.2.2.2.2.2.2) out.1 (va_A (wd_X8_takesItem cI cZ AT AT_al AT_kp AT_ik AT_rf AT_hd AT_bs AT_se AT_bf AT_te AT_by AT_an AT_vs vT_ab vT_be vT_byl vT_tka vT_tkl vT_tkn vT_val fT_by fT_vs fT_an) sz)) 0 0 (va_A (wd_X8_takesItem cI cZ AT AT_al AT_kp AT_ik AT_rf AT_hd AT_bs AT_se AT_bf AT_te AT_by AT_an AT_vs vT_ab vT_be vT_byl vT_tka vT_tkl vT_tkn vT_val fT_by fT_vs fT_an) sz) := by
  refine q_met (fun A => q_Qi D (wd_X8_takesItem cI cZ AT AT_al AT_kp AT_ik AT_rf AT_hd AT_bs AT_se AT_bf AT_te AT_by AT_an AT_vs vT_ab vT_be vT_byl out.2.1 out.2.2.1 out.2.2.2.1 out.2.2.2.2.1 fT_by out.2.2.2.2.2.1 out.2.2.2.2.2.2) out.1 A) (by decide) (Nat.le_of_ble_eq_true rfl) ?_
  intro p e s m below meth c ls A hx hb hr hml hown hts hlocks _ hA hS hP hD hK hN hl
  have hown : s.vm.findClass RX8 = some m.cls := hown
  have hl : lv_has ls 1 [(0, .ref AT)] := hl
  unfold fm_X8_takesItem at hm
  refine q_gen hS hP ?_
  intro H locs hP hS
  refine lv_aload_n hx hb dX8_takesItem_0 rfl (lv_at hl 0 rfl) ?_
  obtain ⟨r_1, hc_1, hm⟩ := ob_s hm
  refine q_ci (q_rv (rest := []) ⟨hx, hb, hml, hown, hts⟩ hK hN hP hD (c_X8_spellsSleeper l D cI cZ H.size AT AT_al AT_kp AT_ik AT_rf AT_hd AT_bs AT_se AT_bf AT_te AT_by AT_an AT_vs vT_ab vT_be vT_byl vT_tka vT_tkl vT_tkn vT_val fT_by r_1 hc_1) mb_X8_spellsSleeper mv_X8_spellsSleeper wl_X8_260 [0, 1] rfl rfl rfl (Nat.le_of_ble_eq_true rfl) (Nat.le_of_ble_eq_true rfl) rfl hl.1 rfl (Nat.le_of_ble_eq_true rfl) ⟨Nat.le_refl 0, Nat.le_refl 0⟩ dX8_takesItem_1) hP hD hS hA [0, 1] rfl rfl (fun H locs hP hD hS => ?_)
  have hP : va_P D vwCl (wd_X8_takesItem cI cZ AT AT_al AT_kp AT_ik AT_rf AT_hd AT_bs AT_se AT_bf AT_te AT_by AT_an AT_vs vT_ab vT_be vT_byl vT_tka vT_tkl vT_tkn vT_val fT_by fT_vs fT_an) H := hP
  have hD : va_D A (wd_X8_takesItem cI cZ AT AT_al AT_kp AT_ik AT_rf AT_hd AT_bs AT_se AT_bf AT_te AT_by AT_an AT_vs vT_ab vT_be vT_byl vT_tka vT_tkl vT_tkn vT_val fT_by fT_vs fT_an) := hD
  refine lv_if_eq (tgt := 12) hx hb dX8_takesItem_4 (by decide) (fun c_4 => ?_) (fun c_4 => ?_)
  · have hm := it_s c_4 hm
    refine lv_aload_n hx hb dX8_takesItem_12 rfl (lv_at hl 0 rfl) ?_
    refine lv_bipush (v := 6) hx hb dX8_takesItem_13 (by decide) ?_
    refine lv_bipush (v := 102) hx hb dX8_takesItem_15 (by decide) ?_
    refine lv_bipush (v := 108) hx hb dX8_takesItem_17 (by decide) ?_
    refine lv_bipush (v := 111) hx hb dX8_takesItem_19 (by decide) ?_
    refine lv_bipush (v := 119) hx hb dX8_takesItem_21 (by decide) ?_
    refine lv_bipush (v := 101) hx hb dX8_takesItem_23 (by decide) ?_
    refine lv_bipush (v := 114) hx hb dX8_takesItem_25 (by decide) ?_
    obtain ⟨r_27, hc_27, hm⟩ := ob_s hm
    refine q_ci (q_rv (rest := []) ⟨hx, hb, hml, hown, hts⟩ hK hN hP hD (c_X8_spells l D cI cZ H.size AT AT_al AT_kp AT_ik AT_rf AT_hd AT_bs AT_se AT_bf AT_te AT_by AT_an AT_vs vT_ab vT_be vT_byl vT_tka vT_tkl vT_tkn vT_val fT_by 6 102 108 111 119 101 114 r_27 hc_27) mb_X8_spells mv_X8_spells wl_X8_267 [0, 1] rfl rfl rfl (Nat.le_of_ble_eq_true rfl) (Nat.le_of_ble_eq_true rfl) rfl hl.1 rfl (Nat.le_of_ble_eq_true rfl) ⟨Nat.le_refl 0, Nat.le_refl 0⟩ dX8_takesItem_27) hP hD hS hA [0, 1] rfl rfl (fun H locs hP hD hS => ?_)
    have hP : va_P D vwCl (wd_X8_takesItem cI cZ AT AT_al AT_kp AT_ik AT_rf AT_hd AT_bs AT_se AT_bf AT_te AT_by AT_an AT_vs vT_ab vT_be vT_byl vT_tka vT_tkl vT_tkn vT_val fT_by fT_vs fT_an) H := hP
    have hD : va_D A (wd_X8_takesItem cI cZ AT AT_al AT_kp AT_ik AT_rf AT_hd AT_bs AT_se AT_bf AT_te AT_by AT_an AT_vs vT_ab vT_be vT_byl vT_tka vT_tkl vT_tkn vT_val fT_by fT_vs fT_an) := hD
    refine lv_if_eq (tgt := 38) hx hb dX8_takesItem_30 (by decide) (fun c_30 => ?_) (fun c_30 => ?_)
    · have hm := it_s c_30 hm
      refine lv_aload_n hx hb dX8_takesItem_38 rfl (lv_at hl 0 rfl) ?_
      refine lv_iconst (v := 4) hx hb dX8_takesItem_39 (by decide) ?_
      refine lv_bipush (v := 115) hx hb dX8_takesItem_40 (by decide) ?_
      refine lv_bipush (v := 119) hx hb dX8_takesItem_42 (by decide) ?_
      refine lv_bipush (v := 97) hx hb dX8_takesItem_44 (by decide) ?_
      refine lv_bipush (v := 112) hx hb dX8_takesItem_46 (by decide) ?_
      refine lv_iconst (v := 0) hx hb dX8_takesItem_48 (by decide) ?_
      refine lv_iconst (v := 0) hx hb dX8_takesItem_49 (by decide) ?_
      obtain ⟨r_50, hc_50, hm⟩ := ob_s hm
      refine q_ci (q_rv (rest := []) ⟨hx, hb, hml, hown, hts⟩ hK hN hP hD (c_X8_spells l D cI cZ H.size AT AT_al AT_kp AT_ik AT_rf AT_hd AT_bs AT_se AT_bf AT_te AT_by AT_an AT_vs vT_ab vT_be vT_byl vT_tka vT_tkl vT_tkn vT_val fT_by 4 115 119 97 112 0 0 r_50 hc_50) mb_X8_spells mv_X8_spells wl_X8_267 [0, 1] rfl rfl rfl (Nat.le_of_ble_eq_true rfl) (Nat.le_of_ble_eq_true rfl) rfl hl.1 rfl (Nat.le_of_ble_eq_true rfl) ⟨Nat.le_refl 0, Nat.le_refl 0⟩ dX8_takesItem_50) hP hD hS hA [0, 1] rfl rfl (fun H locs hP hD hS => ?_)
      have hP : va_P D vwCl (wd_X8_takesItem cI cZ AT AT_al AT_kp AT_ik AT_rf AT_hd AT_bs AT_se AT_bf AT_te AT_by AT_an AT_vs vT_ab vT_be vT_byl vT_tka vT_tkl vT_tkn vT_val fT_by fT_vs fT_an) H := hP
      have hD : va_D A (wd_X8_takesItem cI cZ AT AT_al AT_kp AT_ik AT_rf AT_hd AT_bs AT_se AT_bf AT_te AT_by AT_an AT_vs vT_ab vT_be vT_byl vT_tka vT_tkl vT_tkn vT_val fT_by fT_vs fT_an) := hD
      refine lv_if_eq (tgt := 61) hx hb dX8_takesItem_53 (by decide) (fun c_53 => ?_) (fun c_53 => ?_)
      · have hm := it_s c_53 hm
        refine lv_aload_n hx hb dX8_takesItem_61 rfl (lv_at hl 0 rfl) ?_
        refine lv_bipush (v := 6) hx hb dX8_takesItem_62 (by decide) ?_
        refine lv_bipush (v := 110) hx hb dX8_takesItem_64 (by decide) ?_
        refine lv_bipush (v := 105) hx hb dX8_takesItem_66 (by decide) ?_
        refine lv_bipush (v := 103) hx hb dX8_takesItem_68 (by decide) ?_
        refine lv_bipush (v := 104) hx hb dX8_takesItem_70 (by decide) ?_
        refine lv_bipush (v := 116) hx hb dX8_takesItem_72 (by decide) ?_
        refine lv_bipush (v := 115) hx hb dX8_takesItem_74 (by decide) ?_
        obtain ⟨r_76, hc_76, hm⟩ := ob_s hm
        refine q_ci (q_rv (rest := []) ⟨hx, hb, hml, hown, hts⟩ hK hN hP hD (c_X8_spells l D cI cZ H.size AT AT_al AT_kp AT_ik AT_rf AT_hd AT_bs AT_se AT_bf AT_te AT_by AT_an AT_vs vT_ab vT_be vT_byl vT_tka vT_tkl vT_tkn vT_val fT_by 6 110 105 103 104 116 115 r_76 hc_76) mb_X8_spells mv_X8_spells wl_X8_267 [0, 1] rfl rfl rfl (Nat.le_of_ble_eq_true rfl) (Nat.le_of_ble_eq_true rfl) rfl hl.1 rfl (Nat.le_of_ble_eq_true rfl) ⟨Nat.le_refl 0, Nat.le_refl 0⟩ dX8_takesItem_76) hP hD hS hA [0, 1] rfl rfl (fun H locs hP hD hS => ?_)
        have hP : va_P D vwCl (wd_X8_takesItem cI cZ AT AT_al AT_kp AT_ik AT_rf AT_hd AT_bs AT_se AT_bf AT_te AT_by AT_an AT_vs vT_ab vT_be vT_byl vT_tka vT_tkl vT_tkn vT_val fT_by fT_vs fT_an) H := hP
        have hD : va_D A (wd_X8_takesItem cI cZ AT AT_al AT_kp AT_ik AT_rf AT_hd AT_bs AT_se AT_bf AT_te AT_by AT_an AT_vs vT_ab vT_be vT_byl vT_tka vT_tkl vT_tkn vT_val fT_by fT_vs fT_an) := hD
        refine lv_if_eq (tgt := 93) hx hb dX8_takesItem_79 (by decide) (fun c_79 => ?_) (fun c_79 => ?_)
        · have hm := it_s c_79 hm
          refine lv_iconst (v := 0) hx hb dX8_takesItem_93 (by decide) ?_
          have hm := Option.some.inj hm
          subst hm
          exact q_zret (v := 0) hx hb hr hlocks rfl hP hS dX8_takesItem_94
        · have hm := it_n c_79 hm
          refine lv_aload_n hx hb dX8_takesItem_82 rfl (lv_at hl 0 rfl) ?_
          obtain ⟨r_83, hc_83, hm⟩ := ob_s hm
          refine q_ci (q_rv (rest := []) ⟨hx, hb, hml, hown, hts⟩ hK hN hP hD (c_X8_takesNights l D cI cZ H.size AT AT_al AT_kp AT_ik AT_rf AT_hd AT_bs AT_se AT_bf AT_te AT_by AT_an AT_vs vT_ab vT_be vT_byl vT_tka vT_tkl vT_tkn vT_val fT_by fT_vs fT_an r_83 hc_83) mb_X8_takesNights mv_X8_takesNights wl_X8_277 [0, 1, 2, 3] rfl rfl rfl (Nat.le_of_ble_eq_true rfl) (Nat.le_of_ble_eq_true rfl) rfl hl.1 rfl (Nat.le_of_ble_eq_true rfl) ⟨Nat.le_refl 0, Nat.le_refl 0⟩ dX8_takesItem_83) hP hD hS hA [0, 1, 2, 3] rfl rfl (fun H locs hP hD hS => ?_)
          have hP : va_P D vwCl (wd_X8_takesItem cI cZ AT AT_al AT_kp AT_ik AT_rf AT_hd AT_bs AT_se AT_bf AT_te AT_by AT_an AT_vs vT_ab vT_be vT_byl r_83.2.1 r_83.2.2.1 r_83.2.2.2.1 r_83.2.2.2.2.1 fT_by r_83.2.2.2.2.2.1 r_83.2.2.2.2.2.2) H := hP
          have hD : va_D A (wd_X8_takesItem cI cZ AT AT_al AT_kp AT_ik AT_rf AT_hd AT_bs AT_se AT_bf AT_te AT_by AT_an AT_vs vT_ab vT_be vT_byl r_83.2.1 r_83.2.2.1 r_83.2.2.2.1 r_83.2.2.2.2.1 fT_by r_83.2.2.2.2.2.1 r_83.2.2.2.2.2.2) := hD
          refine lv_if_eq (tgt := 93) hx hb dX8_takesItem_86 (by decide) (fun c_86 => ?_) (fun c_86 => ?_)
          · have hm := it_s c_86 hm
            refine lv_iconst (v := 0) hx hb dX8_takesItem_93 (by decide) ?_
            have hm := Option.some.inj hm
            subst hm
            exact q_zret (v := 0) hx hb hr hlocks rfl hP hS dX8_takesItem_94
          · have hm := it_n c_86 hm
            refine lv_iconst (v := 1) hx hb dX8_takesItem_89 (by decide) ?_
            refine lv_goto (tgt := 94) hx hb dX8_takesItem_90 (by decide) ?_
            have hm := Option.some.inj hm
            subst hm
            exact q_zret (v := 1) hx hb hr hlocks rfl hP hS dX8_takesItem_94
      · have hm := it_n c_53 hm
        refine lv_aload_n hx hb dX8_takesItem_56 rfl (lv_at hl 0 rfl) ?_
        obtain ⟨r_57, hc_57, hm⟩ := ob_s hm
        refine q_ci (q_rv (rest := []) ⟨hx, hb, hml, hown, hts⟩ hK hN hP hD (c_X8_takesSwap l D cI cZ H.size AT AT_al AT_kp AT_ik AT_rf AT_hd AT_bs AT_se AT_bf AT_te AT_by AT_an AT_vs vT_ab vT_be vT_byl vT_tka vT_tkl vT_tkn vT_val fT_by fT_vs fT_an r_57 hc_57) mb_X8_takesSwap mv_X8_takesSwap wl_X8_274 [0, 1, 2, 3] rfl rfl rfl (Nat.le_of_ble_eq_true rfl) (Nat.le_of_ble_eq_true rfl) rfl hl.1 rfl (Nat.le_of_ble_eq_true rfl) ⟨Nat.le_refl 0, Nat.le_refl 0⟩ dX8_takesItem_57) hP hD hS hA [0, 1, 2, 3] rfl rfl (fun H locs hP hD hS => ?_)
        have hP : va_P D vwCl (wd_X8_takesItem cI cZ AT AT_al AT_kp AT_ik AT_rf AT_hd AT_bs AT_se AT_bf AT_te AT_by AT_an AT_vs vT_ab vT_be vT_byl r_57.2.1 r_57.2.2.1 r_57.2.2.2.1 r_57.2.2.2.2.1 fT_by r_57.2.2.2.2.2.1 r_57.2.2.2.2.2.2) H := hP
        have hD : va_D A (wd_X8_takesItem cI cZ AT AT_al AT_kp AT_ik AT_rf AT_hd AT_bs AT_se AT_bf AT_te AT_by AT_an AT_vs vT_ab vT_be vT_byl r_57.2.1 r_57.2.2.1 r_57.2.2.2.1 r_57.2.2.2.2.1 fT_by r_57.2.2.2.2.2.1 r_57.2.2.2.2.2.2) := hD
        obtain ⟨hz, hm⟩ := bz_s hm
        have hm := Option.some.inj hm
        subst hm
        exact q_zret (v := r_57.1) hx hb hr hlocks hz hP hS dX8_takesItem_60
    · have hm := it_n c_30 hm
      refine lv_aload_n hx hb dX8_takesItem_33 rfl (lv_at hl 0 rfl) ?_
      obtain ⟨r_34, hc_34, hm⟩ := ob_s hm
      refine q_ci (q_rv (rest := []) ⟨hx, hb, hml, hown, hts⟩ hK hN hP hD (c_X8_takesFlower l D cI cZ H.size AT AT_al AT_kp AT_ik AT_rf AT_hd AT_bs AT_se AT_bf AT_te AT_by AT_an AT_vs vT_ab vT_be vT_byl vT_tka vT_tkl vT_tkn vT_val fT_an fT_by fT_vs r_34 hc_34) mb_X8_takesFlower mv_X8_takesFlower wl_X8_271 [0, 3, 1, 2] rfl rfl rfl (Nat.le_of_ble_eq_true rfl) (Nat.le_of_ble_eq_true rfl) rfl hl.1 rfl (Nat.le_of_ble_eq_true rfl) ⟨Nat.le_refl 0, Nat.le_refl 0⟩ dX8_takesItem_34) hP hD hS hA [0, 3, 1, 2] rfl rfl (fun H locs hP hD hS => ?_)
      have hP : va_P D vwCl (wd_X8_takesItem cI cZ AT AT_al AT_kp AT_ik AT_rf AT_hd AT_bs AT_se AT_bf AT_te AT_by AT_an AT_vs vT_ab vT_be vT_byl r_34.2.1 r_34.2.2.1 r_34.2.2.2.1 r_34.2.2.2.2.1 fT_by r_34.2.2.2.2.2.2 r_34.2.2.2.2.2.1) H := hP
      have hD : va_D A (wd_X8_takesItem cI cZ AT AT_al AT_kp AT_ik AT_rf AT_hd AT_bs AT_se AT_bf AT_te AT_by AT_an AT_vs vT_ab vT_be vT_byl r_34.2.1 r_34.2.2.1 r_34.2.2.2.1 r_34.2.2.2.2.1 fT_by r_34.2.2.2.2.2.2 r_34.2.2.2.2.2.1) := hD
      obtain ⟨hz, hm⟩ := bz_s hm
      have hm := Option.some.inj hm
      subst hm
      exact q_zret (v := r_34.1) hx hb hr hlocks hz hP hS dX8_takesItem_37
  · have hm := it_n c_4 hm
    refine lv_aload_n hx hb dX8_takesItem_7 rfl (lv_at hl 0 rfl) ?_
    obtain ⟨r_8, hc_8, hm⟩ := ob_s hm
    refine q_ci (q_rv (rest := []) ⟨hx, hb, hml, hown, hts⟩ hK hN hP hD (c_X8_takesSleeper l D cI cZ H.size AT AT_al AT_kp AT_ik AT_rf AT_hd AT_bs AT_se AT_bf AT_te AT_by AT_an AT_vs vT_ab vT_be vT_byl vT_tka vT_tkl vT_tkn vT_val fT_an fT_by fT_vs r_8 hc_8) mb_X8_takesSleeper mv_X8_takesSleeper wl_X8_264 [0, 3, 1, 2] rfl rfl rfl (Nat.le_of_ble_eq_true rfl) (Nat.le_of_ble_eq_true rfl) rfl hl.1 rfl (Nat.le_of_ble_eq_true rfl) ⟨Nat.le_refl 0, Nat.le_refl 0⟩ dX8_takesItem_8) hP hD hS hA [0, 3, 1, 2] rfl rfl (fun H locs hP hD hS => ?_)
    have hP : va_P D vwCl (wd_X8_takesItem cI cZ AT AT_al AT_kp AT_ik AT_rf AT_hd AT_bs AT_se AT_bf AT_te AT_by AT_an AT_vs vT_ab vT_be vT_byl r_8.2.1 r_8.2.2.1 r_8.2.2.2.1 r_8.2.2.2.2.1 fT_by r_8.2.2.2.2.2.2 r_8.2.2.2.2.2.1) H := hP
    have hD : va_D A (wd_X8_takesItem cI cZ AT AT_al AT_kp AT_ik AT_rf AT_hd AT_bs AT_se AT_bf AT_te AT_by AT_an AT_vs vT_ab vT_be vT_byl r_8.2.1 r_8.2.2.1 r_8.2.2.2.1 r_8.2.2.2.2.1 fT_by r_8.2.2.2.2.2.2 r_8.2.2.2.2.2.1) := hD
    obtain ⟨hz, hm⟩ := bz_s hm
    have hm := Option.some.inj hm
    subst hm
    exact q_zret (v := r_8.1) hx hb hr hlocks hz hP hS dX8_takesItem_11
theorem mb_X8_read : q_mb yX8_read cX8_read 3 (some .int) 0 := ⟨wc_X8_read, wn_X8, by decide, by decide, by decide +kernel⟩
theorem mv_X8_read : q_mv yX8_read 8 := ⟨wi_X8_read, ws_X8_read, _, rfl, rfl⟩
def wd_X8_read (cI cZ : ClassId) (AT AT_al AT_kp AT_ik AT_rf AT_hd AT_bs AT_se AT_bf AT_te AT_by AT_an AT_vs : Nat) (vT_ab : Int64) (vT_be : Int64) (vT_byl : Int32) (vT_tka : Int32) (vT_tkl : Int32) (vT_tkn : Int32) (vT_val : Int32) (fT_by : Nat → Int32) (fT_an : Nat → Int32) (fT_vs : Nat → Int32) (fT_al : Nat → Int32) : va_W := [(AT, .inr (8, [.ref AT_al, .ref AT_kp, .ref AT_ik, .ref AT_rf, .long vT_ab, .long vT_be, .ref AT_hd, .ref AT_bs, .ref AT_se, .ref AT_bf, .ref AT_te, .ref AT_by, .int vT_byl, .int vT_tka, .int vT_tkl, .int vT_tkn, .int vT_val, .ref AT_an, .ref AT_vs])), (AT_by, .inl (cI, 150, .inl fT_by)), (AT_an, .inl (cI, 112, .inl fT_an)), (AT_vs, .inl (cI, 3, .inl fT_vs)), (AT_al, .inl (cI, 312, .inl fT_al))]
def fL_X8_read_109 (vT_byl : Int32) (fT_by : Nat → Int32) : Nat → Int32 → Int32 → Int32 → Int32 → Int32 → Int32 → (Nat → Int32) → (Nat → Int32) → (Nat → Int32) → Option (Int32 × Int32 × Int32 × Int32 × Int32 × (Nat → Int32) × (Nat → Int32) × (Nat → Int32))
  | 0, _, _, _, _, _, _, _, _, _ => none
  | fu + 1, x2, x1, vT_tka, vT_tkl, vT_tkn, vT_val, fT_an, fT_vs, fT_al => if 112 ≤ x2 then (some (x1, vT_tka, vT_tkl, vT_tkn, vT_val, fT_an, fT_vs, fT_al)) else (gd x2 112 (gd x2 312 (fL_X8_read_109 vT_byl fT_by fu (x2 + 1) x1 vT_tka vT_tkl vT_tkn vT_val fT_an fT_vs (upd fT_al (Int32.toNatClampNeg x2) (fT_an (Int32.toNatClampNeg x2))))))
def fL_X8_read_67 (vT_byl : Int32) (fT_by : Nat → Int32) : Nat → Int32 → Int32 → Int32 → Int32 → Int32 → (Nat → Int32) → (Nat → Int32) → (Nat → Int32) → Option (Int32 × Int32 × Int32 × Int32 × Int32 × (Nat → Int32) × (Nat → Int32) × (Nat → Int32))
  | 0, _, _, _, _, _, _, _, _ => none
  | fu + 1, x1, vT_tka, vT_tkl, vT_tkn, vT_val, fT_an, fT_vs, fT_al => if vT_tkn = 0 then (fL_X8_read_109 vT_byl fT_by FU 0 x1 vT_tka vT_tkl vT_tkn vT_val fT_an fT_vs fT_al) else (Option.bind (fm_X8_takesItem vT_byl vT_tka vT_tkl vT_tkn vT_val fT_by fT_vs fT_an) (fun r_75 => if r_75.1 = 0 then (some (((-10) - r_75.2.1), r_75.2.1, r_75.2.2.1, r_75.2.2.2.1, r_75.2.2.2.2.1, r_75.2.2.2.2.2.2, r_75.2.2.2.2.2.1, fT_al)) else (if r_75.2.2.2.1 = 3 then (Option.bind (fm_X8_goBehind vT_byl r_75.2.1 r_75.2.2.1 r_75.2.2.2.1 r_75.2.2.2.2.1 fT_by) (fun r_98 => fL_X8_read_67 vT_byl fT_by fu (x1 + 1) r_98.1 r_98.2.1 r_98.2.2.1 r_98.2.2.2 r_75.2.2.2.2.2.2 r_75.2.2.2.2.2.1 fT_al)) else (some (((-10) - r_75.2.1), r_75.2.1, r_75.2.2.1, r_75.2.2.2.1, r_75.2.2.2.2.1, r_75.2.2.2.2.2.2, r_75.2.2.2.2.2.1, fT_al)))))
def fm_X8_read (vT_byl : Int32) (vT_tka : Int32) (vT_tkl : Int32) (vT_tkn : Int32) (vT_val : Int32) (fT_by : Nat → Int32) (fT_an : Nat → Int32) (fT_vs : Nat → Int32) (fT_al : Nat → Int32) : Option (Int32 × Int32 × Int32 × Int32 × Int32 × (Nat → Int32) × (Nat → Int32) × (Nat → Int32)) := Option.bind (fm_X8_lookAt 0 vT_byl vT_tka vT_tkl vT_tkn vT_val fT_by) (fun r_2 => Option.bind (fm_X8_spells 6 111 102 102 105 99 101 r_2.1 r_2.2.1 r_2.2.2.1 fT_by) (fun r_20 => if r_20 = 0 then (some (((-10) - r_2.1), r_2.1, r_2.2.1, r_2.2.2.1, r_2.2.2.2, fT_an, fT_vs, fT_al)) else (Option.bind (fm_X8_goBehind vT_byl r_2.1 r_2.2.1 r_2.2.2.1 r_2.2.2.2 fT_by) (fun r_35 => if r_35.2.2.1 = 3 then (Option.bind (fm_X8_goBehind vT_byl r_35.1 r_35.2.1 r_35.2.2.1 r_35.2.2.2 fT_by) (fun r_55 => Option.bind (fm_X8_begin 112 fT_an) (fun r_62 => fL_X8_read_67 vT_byl fT_by FU 1 r_55.1 r_55.2.1 r_55.2.2.1 r_55.2.2.2 r_62 fT_vs fT_al))) else (some (((-10) - r_35.1), r_35.1, r_35.2.1, r_35.2.2.1, r_35.2.2.2, fT_an, fT_vs, fT_al))))))
set_option maxHeartbeats 4000000 in
set_option maxRecDepth 100000 in
theorem c_X8_read (l : Launch) (D : va_G) (cI cZ : ClassId) (sz : Nat) (AT AT_al AT_kp AT_ik AT_rf AT_hd AT_bs AT_se AT_bf AT_te AT_by AT_an AT_vs : Nat) (vT_ab : Int64) (vT_be : Int64) (vT_byl : Int32) (vT_tka : Int32) (vT_tkl : Int32) (vT_tkn : Int32) (vT_val : Int32) (fT_by : Nat → Int32) (fT_an : Nat → Int32) (fT_vs : Nat → Int32) (fT_al : Nat → Int32) (out : (Int32 × Int32 × Int32 × Int32 × Int32 × (Nat → Int32) × (Nat → Int32) × (Nat → Int32))) (hm : fm_X8_read vT_byl vT_tka vT_tkl vT_tkn vT_val fT_by fT_an fT_vs fT_al = some out) : Met l yX8_read (Cond.code yX8_read cX8_read 3 (some .int) :: bg) { frames := 7, cells := 0, slots := 0, locals := 154 } (va_Pc [.ref AT] (q_pre D cI cZ sz (wd_X8_read cI cZ AT AT_al AT_kp AT_ik AT_rf AT_hd AT_bs AT_se AT_bf AT_te AT_by AT_an AT_vs vT_ab vT_be vT_byl vT_tka vT_tkl vT_tkn vT_val fT_by fT_an fT_vs fT_al))) (q_Qi D (wd_X8_read cI cZ AT AT_al AT_kp AT_ik AT_rf AT_hd AT_bs AT_se AT_bf AT_te AT_by AT_an AT_vs vT_ab vT_be vT_byl out.2.1 out.2.2.1 out.2.2.2.1 out.2.2.2.2.1 fT_by out.2.2.2.2.2.1 out.2.2.2.2.2.2.1 out.2.2.2.2.2.2.2) out.1 (va_A (wd_X8_read cI cZ AT AT_al AT_kp AT_ik AT_rf AT_hd AT_bs AT_se AT_bf AT_te AT_by AT_an AT_vs vT_ab vT_be vT_byl vT_tka vT_tkl vT_tkn vT_val fT_by fT_an fT_vs fT_al) sz)) 0 0 (va_A (wd_X8_read cI cZ AT AT_al AT_kp AT_ik AT_rf AT_hd AT_bs AT_se AT_bf AT_te AT_by AT_an AT_vs vT_ab vT_be vT_byl vT_tka vT_tkl vT_tkn vT_val fT_by fT_an fT_vs fT_al) sz) := by
  refine q_met (fun A => q_Qi D (wd_X8_read cI cZ AT AT_al AT_kp AT_ik AT_rf AT_hd AT_bs AT_se AT_bf AT_te AT_by AT_an AT_vs vT_ab vT_be vT_byl out.2.1 out.2.2.1 out.2.2.2.1 out.2.2.2.2.1 fT_by out.2.2.2.2.2.1 out.2.2.2.2.2.2.1 out.2.2.2.2.2.2.2) out.1 A) (by decide) (Nat.le_of_ble_eq_true rfl) ?_
  intro p e s m below meth c ls A hx hb hr hml hown hts hlocks _ hA hS hP hD hK hN hl
  have hown : s.vm.findClass RX8 = some m.cls := hown
  have hl : lv_has ls 3 [(0, .ref AT)] := hl
  have hL_109 : ∀ (fu_109 : Nat) (x2 : Int32) (x1 : Int32) (vT_tka : Int32) (vT_tkl : Int32) (vT_tkn : Int32) (vT_val : Int32) (fT_an : Nat → Int32) (fT_vs : Nat → Int32) (fT_al : Nat → Int32) (H : Heap) (locs : List Loc) (ls : Array Slot), fL_X8_read_109 vT_byl fT_by fu_109 x2 x1 vT_tka vT_tkl vT_tkn vT_val fT_an fT_vs fT_al = some out → va_P D vwCl (wd_X8_read cI cZ AT AT_al AT_kp AT_ik AT_rf AT_hd AT_bs AT_se AT_bf AT_te AT_by AT_an AT_vs vT_ab vT_be vT_byl vT_tka vT_tkl vT_tkn vT_val fT_by fT_an fT_vs fT_al) H → va_D A (wd_X8_read cI cZ AT AT_al AT_kp AT_ik AT_rf AT_hd AT_bs AT_se AT_bf AT_te AT_by AT_an AT_vs vT_ab vT_be vT_byl vT_tka vT_tkl vT_tkn vT_val fT_by fT_an fT_vs fT_al) → va_S A s.heap H locs → lv_has ls 3 [(2, .int x2), (1, .int x1), (0, .ref AT)] → W p l e { frames := 7, cells := 0, slots := 0, locals := 154 } s m ([.ref AT] : List Value).toArray below meth c H locs 0 0 (MQ below (q_Qi D (wd_X8_read cI cZ AT AT_al AT_kp AT_ik AT_rf AT_hd AT_bs AT_se AT_bf AT_te AT_by AT_an AT_vs vT_ab vT_be vT_byl out.2.1 out.2.2.1 out.2.2.2.1 out.2.2.2.2.1 fT_by out.2.2.2.2.2.1 out.2.2.2.2.2.2.1 out.2.2.2.2.2.2.2) out.1 A) ([.ref AT] : List Value).toArray s 0 0 A) (F0 m 109 ls []) := by
    intro fu_109
    induction fu_109 with
    | zero => intro x2 x1 vT_tka vT_tkl vT_tkn vT_val fT_an fT_vs fT_al H locs ls hm hP hD hS hl; exact absurd (show (none : Option (Int32 × Int32 × Int32 × Int32 × Int32 × (Nat → Int32) × (Nat → Int32) × (Nat → Int32))) = some out from hm) (fun h => nomatch h)
    | succ fu_109 ih_109 =>
      intro x2 x1 vT_tka vT_tkl vT_tkn vT_val fT_an fT_vs fT_al H locs ls hm hP hD hS hl
      rw [fL_X8_read_109] at hm
      refine lv_iload_n hx hb dX8_read_109 rfl (lv_at hl 0 rfl) ?_
      refine lv_bipush (v := 112) hx hb dX8_read_110 (by decide) ?_
      refine lv_icmp_ge (tgt := 133) hx hb dX8_read_112 (by decide) (fun c_112 => ?_) (fun c_112 => ?_)
      · have hm := it_s c_112 hm
        refine lv_iload_n hx hb dX8_read_133 rfl (lv_at hl 1 rfl) ?_
        have hm := Option.some.inj hm
        subst hm
        exact q_iret (v := x1) hx hb hr hlocks hP hS dX8_read_134
      · have hm := it_n c_112 hm
        refine lv_aload_n hx hb dX8_read_115 rfl (lv_at hl 2 rfl) ?_
        refine gf_X8_7 (v := .ref AT_al) hx hb hts hown hK hN hP 0 rfl rfl dX8_read_116 ?_
        refine lv_iload_n hx hb dX8_read_119 rfl (lv_at hl 0 rfl) ?_
        refine lv_aload_n hx hb dX8_read_120 rfl (lv_at hl 2 rfl) ?_
        refine gf_X8_45 (v := .ref AT_an) hx hb hts hown hK hN hP 0 rfl rfl dX8_read_121 ?_
        refine lv_iload_n hx hb dX8_read_124 rfl (lv_at hl 0 rfl) ?_
        obtain ⟨hi_125, hm⟩ := gd_s hm
        refine q_iald (j := (Int32.toNatClampNeg x2)) hx hb hK hP 2 rfl hi_125 rfl dX8_read_125 ?_
        obtain ⟨hi_126, hm⟩ := gd_s hm
        refine q_iast (j := (Int32.toNatClampNeg x2)) hx hb hK hP hD hS 4 rfl hi_126 rfl dX8_read_126 (fun H locs hP hD hS => ?_)
        have hP : va_P D vwCl (wd_X8_read cI cZ AT AT_al AT_kp AT_ik AT_rf AT_hd AT_bs AT_se AT_bf AT_te AT_by AT_an AT_vs vT_ab vT_be vT_byl vT_tka vT_tkl vT_tkn vT_val fT_by fT_an fT_vs (upd fT_al (Int32.toNatClampNeg x2) (fT_an (Int32.toNatClampNeg x2)))) H := hP
        have hD : va_D A (wd_X8_read cI cZ AT AT_al AT_kp AT_ik AT_rf AT_hd AT_bs AT_se AT_bf AT_te AT_by AT_an AT_vs vT_ab vT_be vT_byl vT_tka vT_tkl vT_tkn vT_val fT_by fT_an fT_vs (upd fT_al (Int32.toNatClampNeg x2) (fT_an (Int32.toNatClampNeg x2)))) := hD
        refine lv_iinc (v := (x2 + 1)) (lv' := [(2, .int (x2 + 1)), (1, .int x1), (0, .ref AT)]) hx hb dX8_read_127 hl (k := 0) rfl rfl (by decide) rfl (fun ls hl => ?_)
        refine lv_goto (tgt := 109) hx hb dX8_read_130 (by decide) ?_
        exact ih_109 (x2 + 1) x1 vT_tka vT_tkl vT_tkn vT_val fT_an fT_vs (upd fT_al (Int32.toNatClampNeg x2) (fT_an (Int32.toNatClampNeg x2))) H locs ls hm hP hD hS (lv_sub hl [0, 1, 2] rfl)
  have hL_67 : ∀ (fu_67 : Nat) (x1 : Int32) (vT_tka : Int32) (vT_tkl : Int32) (vT_tkn : Int32) (vT_val : Int32) (fT_an : Nat → Int32) (fT_vs : Nat → Int32) (fT_al : Nat → Int32) (H : Heap) (locs : List Loc) (ls : Array Slot), fL_X8_read_67 vT_byl fT_by fu_67 x1 vT_tka vT_tkl vT_tkn vT_val fT_an fT_vs fT_al = some out → va_P D vwCl (wd_X8_read cI cZ AT AT_al AT_kp AT_ik AT_rf AT_hd AT_bs AT_se AT_bf AT_te AT_by AT_an AT_vs vT_ab vT_be vT_byl vT_tka vT_tkl vT_tkn vT_val fT_by fT_an fT_vs fT_al) H → va_D A (wd_X8_read cI cZ AT AT_al AT_kp AT_ik AT_rf AT_hd AT_bs AT_se AT_bf AT_te AT_by AT_an AT_vs vT_ab vT_be vT_byl vT_tka vT_tkl vT_tkn vT_val fT_by fT_an fT_vs fT_al) → va_S A s.heap H locs → lv_has ls 3 [(1, .int x1), (0, .ref AT)] → W p l e { frames := 7, cells := 0, slots := 0, locals := 154 } s m ([.ref AT] : List Value).toArray below meth c H locs 0 0 (MQ below (q_Qi D (wd_X8_read cI cZ AT AT_al AT_kp AT_ik AT_rf AT_hd AT_bs AT_se AT_bf AT_te AT_by AT_an AT_vs vT_ab vT_be vT_byl out.2.1 out.2.2.1 out.2.2.2.1 out.2.2.2.2.1 fT_by out.2.2.2.2.2.1 out.2.2.2.2.2.2.1 out.2.2.2.2.2.2.2) out.1 A) ([.ref AT] : List Value).toArray s 0 0 A) (F0 m 67 ls []) := by
    intro fu_67
    induction fu_67 with
    | zero => intro x1 vT_tka vT_tkl vT_tkn vT_val fT_an fT_vs fT_al H locs ls hm hP hD hS hl; exact absurd (show (none : Option (Int32 × Int32 × Int32 × Int32 × Int32 × (Nat → Int32) × (Nat → Int32) × (Nat → Int32))) = some out from hm) (fun h => nomatch h)
    | succ fu_67 ih_67 =>
      intro x1 vT_tka vT_tkl vT_tkn vT_val fT_an fT_vs fT_al H locs ls hm hP hD hS hl
      rw [fL_X8_read_67] at hm
      refine lv_aload_n hx hb dX8_read_67 rfl (lv_at hl 1 rfl) ?_
      refine gf_X8_238 (v := .int vT_tkn) hx hb hts hown hK hN hP 0 rfl rfl dX8_read_68 ?_
      refine lv_if_eq (tgt := 107) hx hb dX8_read_71 (by decide) (fun c_71 => ?_) (fun c_71 => ?_)
      · have hm := it_s c_71 hm
        refine lv_iconst (v := 0) hx hb dX8_read_107 (by decide) ?_
        refine lv_istore_n (lv' := [(2, .int 0), (1, .int x1), (0, .ref AT)]) hx hb dX8_read_108 rfl hl (by decide) rfl (fun ls hl => ?_)
        exact hL_109 FU 0 x1 vT_tka vT_tkl vT_tkn vT_val fT_an fT_vs fT_al H locs ls hm hP hD hS (lv_sub hl [0, 1, 2] rfl)
      · have hm := it_n c_71 hm
        refine lv_aload_n hx hb dX8_read_74 rfl (lv_at hl 1 rfl) ?_
        obtain ⟨r_75, hc_75, hm⟩ := ob_s hm
        refine q_ci (q_rv (rest := []) ⟨hx, hb, hml, hown, hts⟩ hK hN hP hD (c_X8_takesItem l D cI cZ H.size AT AT_al AT_kp AT_ik AT_rf AT_hd AT_bs AT_se AT_bf AT_te AT_by AT_an AT_vs vT_ab vT_be vT_byl vT_tka vT_tkl vT_tkn vT_val fT_by fT_vs fT_an r_75 hc_75) mb_X8_takesItem mv_X8_takesItem wl_X8_280 [0, 1, 3, 2] rfl rfl rfl (Nat.le_of_ble_eq_true rfl) (Nat.le_of_ble_eq_true rfl) rfl hl.1 rfl (Nat.le_of_ble_eq_true rfl) ⟨Nat.le_refl 0, Nat.le_refl 0⟩ dX8_read_75) hP hD hS hA [0, 1, 3, 2] rfl rfl (fun H locs hP hD hS => ?_)
        have hP : va_P D vwCl (wd_X8_read cI cZ AT AT_al AT_kp AT_ik AT_rf AT_hd AT_bs AT_se AT_bf AT_te AT_by AT_an AT_vs vT_ab vT_be vT_byl r_75.2.1 r_75.2.2.1 r_75.2.2.2.1 r_75.2.2.2.2.1 fT_by r_75.2.2.2.2.2.2 r_75.2.2.2.2.2.1 fT_al) H := hP
        have hD : va_D A (wd_X8_read cI cZ AT AT_al AT_kp AT_ik AT_rf AT_hd AT_bs AT_se AT_bf AT_te AT_by AT_an AT_vs vT_ab vT_be vT_byl r_75.2.1 r_75.2.2.1 r_75.2.2.2.1 r_75.2.2.2.2.1 fT_by r_75.2.2.2.2.2.2 r_75.2.2.2.2.2.1 fT_al) := hD
        refine lv_if_eq (tgt := 89) hx hb dX8_read_78 (by decide) (fun c_78 => ?_) (fun c_78 => ?_)
        · have hm := it_s c_78 hm
          refine lv_bipush (v := (-10)) hx hb dX8_read_89 (by decide) ?_
          refine lv_aload_n hx hb dX8_read_91 rfl (lv_at hl 1 rfl) ?_
          refine gf_X8_232 (v := .int r_75.2.1) hx hb hts hown hK hN hP 0 rfl rfl dX8_read_92 ?_
          refine lv_isub hx hb dX8_read_95 ?_
          have hm := Option.some.inj hm
          subst hm
          exact q_iret (v := ((-10) - r_75.2.1)) hx hb hr hlocks hP hS dX8_read_96
        · have hm := it_n c_78 hm
          refine lv_aload_n hx hb dX8_read_81 rfl (lv_at hl 1 rfl) ?_
          refine gf_X8_238 (v := .int r_75.2.2.2.1) hx hb hts hown hK hN hP 0 rfl rfl dX8_read_82 ?_
          refine lv_iconst (v := 3) hx hb dX8_read_85 (by decide) ?_
          refine lv_icmp_eq (tgt := 97) hx hb dX8_read_86 (by decide) (fun c_86 => ?_) (fun c_86 => ?_)
          · have hm := it_s c_86 hm
            refine lv_aload_n hx hb dX8_read_97 rfl (lv_at hl 1 rfl) ?_
            obtain ⟨r_98, hc_98, hm⟩ := ob_s hm
            refine q_cv (q_rv (rest := []) ⟨hx, hb, hml, hown, hts⟩ hK hN hP hD (c_X8_goBehind l D cI cZ H.size AT AT_al AT_kp AT_ik AT_rf AT_hd AT_bs AT_se AT_bf AT_te AT_by AT_an AT_vs vT_ab vT_be vT_byl r_75.2.1 r_75.2.2.1 r_75.2.2.2.1 r_75.2.2.2.2.1 fT_by r_98 hc_98) mb_X8_goBehind mv_X8_goBehind wl_X8_254 [0, 1] rfl rfl rfl (Nat.le_of_ble_eq_true rfl) (Nat.le_of_ble_eq_true rfl) rfl hl.1 rfl (Nat.le_of_ble_eq_true rfl) ⟨Nat.le_refl 0, Nat.le_refl 0⟩ dX8_read_98) hP hD hS hA [0, 1] rfl rfl (fun H locs hP hD hS => ?_)
            have hP : va_P D vwCl (wd_X8_read cI cZ AT AT_al AT_kp AT_ik AT_rf AT_hd AT_bs AT_se AT_bf AT_te AT_by AT_an AT_vs vT_ab vT_be vT_byl r_98.1 r_98.2.1 r_98.2.2.1 r_98.2.2.2 fT_by r_75.2.2.2.2.2.2 r_75.2.2.2.2.2.1 fT_al) H := hP
            have hD : va_D A (wd_X8_read cI cZ AT AT_al AT_kp AT_ik AT_rf AT_hd AT_bs AT_se AT_bf AT_te AT_by AT_an AT_vs vT_ab vT_be vT_byl r_98.1 r_98.2.1 r_98.2.2.1 r_98.2.2.2 fT_by r_75.2.2.2.2.2.2 r_75.2.2.2.2.2.1 fT_al) := hD
            refine lv_iinc (v := (x1 + 1)) (lv' := [(1, .int (x1 + 1)), (0, .ref AT)]) hx hb dX8_read_101 hl (k := 0) rfl rfl (by decide) rfl (fun ls hl => ?_)
            refine lv_goto (tgt := 67) hx hb dX8_read_104 (by decide) ?_
            exact ih_67 (x1 + 1) r_98.1 r_98.2.1 r_98.2.2.1 r_98.2.2.2 r_75.2.2.2.2.2.2 r_75.2.2.2.2.2.1 fT_al H locs ls hm hP hD hS (lv_sub hl [0, 1] rfl)
          · have hm := it_n c_86 hm
            refine lv_bipush (v := (-10)) hx hb dX8_read_89 (by decide) ?_
            refine lv_aload_n hx hb dX8_read_91 rfl (lv_at hl 1 rfl) ?_
            refine gf_X8_232 (v := .int r_75.2.1) hx hb hts hown hK hN hP 0 rfl rfl dX8_read_92 ?_
            refine lv_isub hx hb dX8_read_95 ?_
            have hm := Option.some.inj hm
            subst hm
            exact q_iret (v := ((-10) - r_75.2.1)) hx hb hr hlocks hP hS dX8_read_96
  unfold fm_X8_read at hm
  refine q_gen hS hP ?_
  intro H locs hP hS
  refine lv_aload_n hx hb dX8_read_0 rfl (lv_at hl 0 rfl) ?_
  refine lv_iconst (v := 0) hx hb dX8_read_1 (by decide) ?_
  obtain ⟨r_2, hc_2, hm⟩ := ob_s hm
  refine q_cv (q_rv (rest := []) ⟨hx, hb, hml, hown, hts⟩ hK hN hP hD (c_X8_lookAt l D cI cZ H.size AT AT_al AT_kp AT_ik AT_rf AT_hd AT_bs AT_se AT_bf AT_te AT_by AT_an AT_vs vT_ab vT_be vT_byl vT_tka vT_tkl vT_tkn vT_val fT_by 0 r_2 hc_2) mb_X8_lookAt mv_X8_lookAt wl_X8_250 [0, 1] rfl rfl rfl (Nat.le_of_ble_eq_true rfl) (Nat.le_of_ble_eq_true rfl) rfl hl.1 rfl (Nat.le_of_ble_eq_true rfl) ⟨Nat.le_refl 0, Nat.le_refl 0⟩ dX8_read_2) hP hD hS hA [0, 1] rfl rfl (fun H locs hP hD hS => ?_)
  have hP : va_P D vwCl (wd_X8_read cI cZ AT AT_al AT_kp AT_ik AT_rf AT_hd AT_bs AT_se AT_bf AT_te AT_by AT_an AT_vs vT_ab vT_be vT_byl r_2.1 r_2.2.1 r_2.2.2.1 r_2.2.2.2 fT_by fT_an fT_vs fT_al) H := hP
  have hD : va_D A (wd_X8_read cI cZ AT AT_al AT_kp AT_ik AT_rf AT_hd AT_bs AT_se AT_bf AT_te AT_by AT_an AT_vs vT_ab vT_be vT_byl r_2.1 r_2.2.1 r_2.2.2.1 r_2.2.2.2 fT_by fT_an fT_vs fT_al) := hD
  refine lv_aload_n hx hb dX8_read_5 rfl (lv_at hl 0 rfl) ?_
  refine lv_bipush (v := 6) hx hb dX8_read_6 (by decide) ?_
  refine lv_bipush (v := 111) hx hb dX8_read_8 (by decide) ?_
  refine lv_bipush (v := 102) hx hb dX8_read_10 (by decide) ?_
  refine lv_bipush (v := 102) hx hb dX8_read_12 (by decide) ?_
  refine lv_bipush (v := 105) hx hb dX8_read_14 (by decide) ?_
  refine lv_bipush (v := 99) hx hb dX8_read_16 (by decide) ?_
  refine lv_bipush (v := 101) hx hb dX8_read_18 (by decide) ?_
  obtain ⟨r_20, hc_20, hm⟩ := ob_s hm
  refine q_ci (q_rv (rest := []) ⟨hx, hb, hml, hown, hts⟩ hK hN hP hD (c_X8_spells l D cI cZ H.size AT AT_al AT_kp AT_ik AT_rf AT_hd AT_bs AT_se AT_bf AT_te AT_by AT_an AT_vs vT_ab vT_be vT_byl r_2.1 r_2.2.1 r_2.2.2.1 r_2.2.2.2 fT_by 6 111 102 102 105 99 101 r_20 hc_20) mb_X8_spells mv_X8_spells wl_X8_267 [0, 1] rfl rfl rfl (Nat.le_of_ble_eq_true rfl) (Nat.le_of_ble_eq_true rfl) rfl hl.1 rfl (Nat.le_of_ble_eq_true rfl) ⟨Nat.le_refl 0, Nat.le_refl 0⟩ dX8_read_20) hP hD hS hA [0, 1] rfl rfl (fun H locs hP hD hS => ?_)
  have hP : va_P D vwCl (wd_X8_read cI cZ AT AT_al AT_kp AT_ik AT_rf AT_hd AT_bs AT_se AT_bf AT_te AT_by AT_an AT_vs vT_ab vT_be vT_byl r_2.1 r_2.2.1 r_2.2.2.1 r_2.2.2.2 fT_by fT_an fT_vs fT_al) H := hP
  have hD : va_D A (wd_X8_read cI cZ AT AT_al AT_kp AT_ik AT_rf AT_hd AT_bs AT_se AT_bf AT_te AT_by AT_an AT_vs vT_ab vT_be vT_byl r_2.1 r_2.2.1 r_2.2.2.1 r_2.2.2.2 fT_by fT_an fT_vs fT_al) := hD
  refine lv_if_ne (tgt := 34) hx hb dX8_read_23 (by decide) (fun c_23 => ?_) (fun c_23 => ?_)
  · have hm := it_n c_23 hm
    refine lv_aload_n hx hb dX8_read_34 rfl (lv_at hl 0 rfl) ?_
    obtain ⟨r_35, hc_35, hm⟩ := ob_s hm
    refine q_cv (q_rv (rest := []) ⟨hx, hb, hml, hown, hts⟩ hK hN hP hD (c_X8_goBehind l D cI cZ H.size AT AT_al AT_kp AT_ik AT_rf AT_hd AT_bs AT_se AT_bf AT_te AT_by AT_an AT_vs vT_ab vT_be vT_byl r_2.1 r_2.2.1 r_2.2.2.1 r_2.2.2.2 fT_by r_35 hc_35) mb_X8_goBehind mv_X8_goBehind wl_X8_254 [0, 1] rfl rfl rfl (Nat.le_of_ble_eq_true rfl) (Nat.le_of_ble_eq_true rfl) rfl hl.1 rfl (Nat.le_of_ble_eq_true rfl) ⟨Nat.le_refl 0, Nat.le_refl 0⟩ dX8_read_35) hP hD hS hA [0, 1] rfl rfl (fun H locs hP hD hS => ?_)
    have hP : va_P D vwCl (wd_X8_read cI cZ AT AT_al AT_kp AT_ik AT_rf AT_hd AT_bs AT_se AT_bf AT_te AT_by AT_an AT_vs vT_ab vT_be vT_byl r_35.1 r_35.2.1 r_35.2.2.1 r_35.2.2.2 fT_by fT_an fT_vs fT_al) H := hP
    have hD : va_D A (wd_X8_read cI cZ AT AT_al AT_kp AT_ik AT_rf AT_hd AT_bs AT_se AT_bf AT_te AT_by AT_an AT_vs vT_ab vT_be vT_byl r_35.1 r_35.2.1 r_35.2.2.1 r_35.2.2.2 fT_by fT_an fT_vs fT_al) := hD
    refine lv_aload_n hx hb dX8_read_38 rfl (lv_at hl 0 rfl) ?_
    refine gf_X8_238 (v := .int r_35.2.2.1) hx hb hts hown hK hN hP 0 rfl rfl dX8_read_39 ?_
    refine lv_iconst (v := 3) hx hb dX8_read_42 (by decide) ?_
    refine lv_icmp_eq (tgt := 54) hx hb dX8_read_43 (by decide) (fun c_43 => ?_) (fun c_43 => ?_)
    · have hm := it_s c_43 hm
      refine lv_aload_n hx hb dX8_read_54 rfl (lv_at hl 0 rfl) ?_
      obtain ⟨r_55, hc_55, hm⟩ := ob_s hm
      refine q_cv (q_rv (rest := []) ⟨hx, hb, hml, hown, hts⟩ hK hN hP hD (c_X8_goBehind l D cI cZ H.size AT AT_al AT_kp AT_ik AT_rf AT_hd AT_bs AT_se AT_bf AT_te AT_by AT_an AT_vs vT_ab vT_be vT_byl r_35.1 r_35.2.1 r_35.2.2.1 r_35.2.2.2 fT_by r_55 hc_55) mb_X8_goBehind mv_X8_goBehind wl_X8_254 [0, 1] rfl rfl rfl (Nat.le_of_ble_eq_true rfl) (Nat.le_of_ble_eq_true rfl) rfl hl.1 rfl (Nat.le_of_ble_eq_true rfl) ⟨Nat.le_refl 0, Nat.le_refl 0⟩ dX8_read_55) hP hD hS hA [0, 1] rfl rfl (fun H locs hP hD hS => ?_)
      have hP : va_P D vwCl (wd_X8_read cI cZ AT AT_al AT_kp AT_ik AT_rf AT_hd AT_bs AT_se AT_bf AT_te AT_by AT_an AT_vs vT_ab vT_be vT_byl r_55.1 r_55.2.1 r_55.2.2.1 r_55.2.2.2 fT_by fT_an fT_vs fT_al) H := hP
      have hD : va_D A (wd_X8_read cI cZ AT AT_al AT_kp AT_ik AT_rf AT_hd AT_bs AT_se AT_bf AT_te AT_by AT_an AT_vs vT_ab vT_be vT_byl r_55.1 r_55.2.1 r_55.2.2.1 r_55.2.2.2 fT_by fT_an fT_vs fT_al) := hD
      refine lv_aload_n hx hb dX8_read_58 rfl (lv_at hl 0 rfl) ?_
      refine gf_X8_45 (v := .ref AT_an) hx hb hts hown hK hN hP 0 rfl rfl dX8_read_59 ?_
      obtain ⟨r_62, hc_62, hm⟩ := ob_s hm
      refine q_cv (q_rs (rest := []) ⟨hx, hb, hml, hown, hts⟩ hK hN hP hD (c_X8_begin l D cI cZ H.size AT_an 112 fT_an r_62 hc_62) mb_X8_begin wt_X8_begin wl_X8_51 [2] rfl rfl (Nat.le_of_ble_eq_true rfl) (Nat.le_of_ble_eq_true rfl) rfl hl.1 rfl (Nat.le_of_ble_eq_true rfl) ⟨Nat.le_refl 0, Nat.le_refl 0⟩ dX8_read_62) hP hD hS hA [2] rfl rfl (fun H locs hP hD hS => ?_)
      have hP : va_P D vwCl (wd_X8_read cI cZ AT AT_al AT_kp AT_ik AT_rf AT_hd AT_bs AT_se AT_bf AT_te AT_by AT_an AT_vs vT_ab vT_be vT_byl r_55.1 r_55.2.1 r_55.2.2.1 r_55.2.2.2 fT_by r_62 fT_vs fT_al) H := hP
      have hD : va_D A (wd_X8_read cI cZ AT AT_al AT_kp AT_ik AT_rf AT_hd AT_bs AT_se AT_bf AT_te AT_by AT_an AT_vs vT_ab vT_be vT_byl r_55.1 r_55.2.1 r_55.2.2.1 r_55.2.2.2 fT_by r_62 fT_vs fT_al) := hD
      refine lv_iconst (v := 1) hx hb dX8_read_65 (by decide) ?_
      refine lv_istore_n (lv' := [(1, .int 1), (0, .ref AT)]) hx hb dX8_read_66 rfl hl (by decide) rfl (fun ls hl => ?_)
      exact hL_67 FU 1 r_55.1 r_55.2.1 r_55.2.2.1 r_55.2.2.2 r_62 fT_vs fT_al H locs ls hm hP hD hS (lv_sub hl [0, 1] rfl)
    · have hm := it_n c_43 hm
      refine lv_bipush (v := (-10)) hx hb dX8_read_46 (by decide) ?_
      refine lv_aload_n hx hb dX8_read_48 rfl (lv_at hl 0 rfl) ?_
      refine gf_X8_232 (v := .int r_35.1) hx hb hts hown hK hN hP 0 rfl rfl dX8_read_49 ?_
      refine lv_isub hx hb dX8_read_52 ?_
      have hm := Option.some.inj hm
      subst hm
      exact q_iret (v := ((-10) - r_35.1)) hx hb hr hlocks hP hS dX8_read_53
  · have hm := it_s c_23 hm
    refine lv_bipush (v := (-10)) hx hb dX8_read_26 (by decide) ?_
    refine lv_aload_n hx hb dX8_read_28 rfl (lv_at hl 0 rfl) ?_
    refine gf_X8_232 (v := .int r_2.1) hx hb hts hown hK hN hP 0 rfl rfl dX8_read_29 ?_
    refine lv_isub hx hb dX8_read_32 ?_
    have hm := Option.some.inj hm
    subst hm
    exact q_iret (v := ((-10) - r_2.1)) hx hb hr hlocks hP hS dX8_read_33
theorem gf_X8_23 {p : Program} {l : Launch} {e : Env} {R : Room} {s : State} {m : MethodId} {args : Array Value} {below : List Frame} {meth : Method} {c : Code} {H : Heap} {locs : List Loc} {cells slots : Nat} {Q : State → Prop} {pc : Nat} {ls : Array Slot} {cc : ByteArray} {D : va_G} {cI cZ : ClassId} {ws : va_W} {a : Nat} {rest fs : List Value} (hx : p.tables.exec = Jvm.exec) (hb : c.code = cc) (hts : ∀ w ∈ bg, w.before args s = true) (hown : s.vm.findClass RX8 = some m.cls) (hK : va_K D vwCl (q_tys cI cZ) s) (hN : q_N s) (hP : va_P D vwCl ws H) (q0 : Nat) (he : ws[q0]? = some (a, .inr (8, fs))) {v : Value} (hv : fs[5]? = some v) (hdg : decode cc pc = .ok (.getfield 23, 3)) (kk : W p l e R s m args below meth c H locs cells slots Q (F0 m (pc + 3) ls (v :: rest))) : W p l e R s m args below meth c H locs cells slots Q (F0 m pc ls (.ref a :: rest)) :=
  va_get (C := RX8) (T := TX8) (N := 19) hx hb hts wu_X8 hown hK hP q0 he rfl 5 (by decide) (hts _ wf_X8_23) (fun _ h9 => h9) hv hdg kk
theorem gf_X8_195 {p : Program} {l : Launch} {e : Env} {R : Room} {s : State} {m : MethodId} {args : Array Value} {below : List Frame} {meth : Method} {c : Code} {H : Heap} {locs : List Loc} {cells slots : Nat} {Q : State → Prop} {pc : Nat} {ls : Array Slot} {cc : ByteArray} {D : va_G} {cI cZ : ClassId} {ws : va_W} {a : Nat} {rest fs : List Value} (hx : p.tables.exec = Jvm.exec) (hb : c.code = cc) (hts : ∀ w ∈ bg, w.before args s = true) (hown : s.vm.findClass RX8 = some m.cls) (hK : va_K D vwCl (q_tys cI cZ) s) (hN : q_N s) (hP : va_P D vwCl ws H) (q0 : Nat) (he : ws[q0]? = some (a, .inr (8, fs))) {v : Value} (hv : fs[4]? = some v) (hdg : decode cc pc = .ok (.getfield 195, 3)) (kk : W p l e R s m args below meth c H locs cells slots Q (F0 m (pc + 3) ls (v :: rest))) : W p l e R s m args below meth c H locs cells slots Q (F0 m pc ls (.ref a :: rest)) :=
  va_get (C := RX8) (T := TX8) (N := 19) hx hb hts wu_X8 hown hK hP q0 he rfl 4 (by decide) (hts _ wf_X8_195) (fun _ h9 => h9) hv hdg kk
theorem mb_X8_part : q_mb yX8_part cX8_part 2 (some .long) 1 := ⟨wc_X8_part, wn_X8, by decide, by decide, by decide +kernel⟩
theorem mv_X8_part : q_mv yX8_part 8 := ⟨wi_X8_part, ws_X8_part, _, rfl, rfl⟩
def wd_X8_part (cI cZ : ClassId) (AT AT_al AT_kp AT_ik AT_rf AT_hd AT_bs AT_se AT_bf AT_te AT_by AT_an AT_vs : Nat) (vT_ab : Int64) (vT_be : Int64) (vT_byl : Int32) (vT_tka : Int32) (vT_tkl : Int32) (vT_tkn : Int32) (vT_val : Int32) (fT_rf : Nat → Int32) : va_W := [(AT, .inr (8, [.ref AT_al, .ref AT_kp, .ref AT_ik, .ref AT_rf, .long vT_ab, .long vT_be, .ref AT_hd, .ref AT_bs, .ref AT_se, .ref AT_bf, .ref AT_te, .ref AT_by, .int vT_byl, .int vT_tka, .int vT_tkl, .int vT_tkn, .int vT_val, .ref AT_an, .ref AT_vs])), (AT_rf, .inl (cI, 3, .inl fT_rf))]
def fm_X8_part (p1 : Int32) (vT_ab : Int64) (vT_be : Int64) (fT_rf : Nat → Int32) : Option (Int64 × (Nat → Int32)) := if p1 = 0 then (some (vT_ab, fT_rf)) else (if p1 = 1 then (some (vT_be, fT_rf)) else (Option.bind (fm_X8_bad (-2) fT_rf) (fun r_26 => some ((Int32.toInt64 r_26.1), r_26.2))))
set_option maxHeartbeats 4000000 in
set_option maxRecDepth 100000 in
theorem c_X8_part (l : Launch) (D : va_G) (cI cZ : ClassId) (sz : Nat) (AT AT_al AT_kp AT_ik AT_rf AT_hd AT_bs AT_se AT_bf AT_te AT_by AT_an AT_vs : Nat) (vT_ab : Int64) (vT_be : Int64) (vT_byl : Int32) (vT_tka : Int32) (vT_tkl : Int32) (vT_tkn : Int32) (vT_val : Int32) (fT_rf : Nat → Int32) (p1 : Int32) (out : (Int64 × (Nat → Int32))) (hm : fm_X8_part p1 vT_ab vT_be fT_rf = some out) : Met l yX8_part (Cond.code yX8_part cX8_part 2 (some .long) :: bg) { frames := 1, cells := 0, slots := 0, locals := 21 } (va_Pc [.ref AT, .int p1] (q_pre D cI cZ sz (wd_X8_part cI cZ AT AT_al AT_kp AT_ik AT_rf AT_hd AT_bs AT_se AT_bf AT_te AT_by AT_an AT_vs vT_ab vT_be vT_byl vT_tka vT_tkl vT_tkn vT_val fT_rf))) (q_Ql D (wd_X8_part cI cZ AT AT_al AT_kp AT_ik AT_rf AT_hd AT_bs AT_se AT_bf AT_te AT_by AT_an AT_vs vT_ab vT_be vT_byl vT_tka vT_tkl vT_tkn vT_val out.2) out.1 (va_A (wd_X8_part cI cZ AT AT_al AT_kp AT_ik AT_rf AT_hd AT_bs AT_se AT_bf AT_te AT_by AT_an AT_vs vT_ab vT_be vT_byl vT_tka vT_tkl vT_tkn vT_val fT_rf) sz)) 0 0 (va_A (wd_X8_part cI cZ AT AT_al AT_kp AT_ik AT_rf AT_hd AT_bs AT_se AT_bf AT_te AT_by AT_an AT_vs vT_ab vT_be vT_byl vT_tka vT_tkl vT_tkn vT_val fT_rf) sz) := by
  refine q_met (fun A => q_Ql D (wd_X8_part cI cZ AT AT_al AT_kp AT_ik AT_rf AT_hd AT_bs AT_se AT_bf AT_te AT_by AT_an AT_vs vT_ab vT_be vT_byl vT_tka vT_tkl vT_tkn vT_val out.2) out.1 A) (by decide) (Nat.le_of_ble_eq_true rfl) ?_
  intro p e s m below meth c ls A hx hb hr hml hown hts hlocks _ hA hS hP hD hK hN hl
  have hown : s.vm.findClass RX8 = some m.cls := hown
  have hl : lv_has ls 2 [(0, .ref AT), (1, .int p1)] := hl
  unfold fm_X8_part at hm
  refine q_gen hS hP ?_
  intro H locs hP hS
  refine lv_iload_n hx hb dX8_part_0 rfl (lv_at hl 1 rfl) ?_
  refine lv_if_ne (tgt := 11) hx hb dX8_part_1 (by decide) (fun c_1 => ?_) (fun c_1 => ?_)
  · have hm := it_n c_1 hm
    refine lv_iload_n hx hb dX8_part_11 rfl (lv_at hl 1 rfl) ?_
    refine lv_iconst (v := 1) hx hb dX8_part_12 (by decide) ?_
    refine lv_icmp_ne (tgt := 23) hx hb dX8_part_13 (by decide) (fun c_13 => ?_) (fun c_13 => ?_)
    · have hm := it_n c_13 hm
      refine lv_aload_n hx hb dX8_part_23 rfl (lv_at hl 0 rfl) ?_
      refine lv_bipush (v := (-2)) hx hb dX8_part_24 (by decide) ?_
      obtain ⟨r_26, hc_26, hm⟩ := ob_s hm
      refine q_ci (q_rv (rest := []) ⟨hx, hb, hml, hown, hts⟩ hK hN hP hD (c_X8_bad l D cI cZ H.size AT AT_al AT_kp AT_ik AT_rf AT_hd AT_bs AT_se AT_bf AT_te AT_by AT_an AT_vs vT_ab vT_be vT_byl vT_tka vT_tkl vT_tkn vT_val fT_rf (-2) r_26 hc_26) mb_X8_bad mv_X8_bad wl_X8_75 [0, 1] rfl rfl rfl (Nat.le_of_ble_eq_true rfl) (Nat.le_of_ble_eq_true rfl) rfl hl.1 rfl (Nat.le_of_ble_eq_true rfl) ⟨Nat.le_refl 0, Nat.le_refl 0⟩ dX8_part_26) hP hD hS hA [0, 1] rfl rfl (fun H locs hP hD hS => ?_)
      have hP : va_P D vwCl (wd_X8_part cI cZ AT AT_al AT_kp AT_ik AT_rf AT_hd AT_bs AT_se AT_bf AT_te AT_by AT_an AT_vs vT_ab vT_be vT_byl vT_tka vT_tkl vT_tkn vT_val r_26.2) H := hP
      have hD : va_D A (wd_X8_part cI cZ AT AT_al AT_kp AT_ik AT_rf AT_hd AT_bs AT_se AT_bf AT_te AT_by AT_an AT_vs vT_ab vT_be vT_byl vT_tka vT_tkl vT_tkn vT_val r_26.2) := hD
      refine lv_i2l (v := (Int32.toInt64 r_26.1)) hx hb dX8_part_29 rfl ?_
      have hm := Option.some.inj hm
      subst hm
      exact q_lret (v := (Int32.toInt64 r_26.1)) hx hb hr hlocks hP hS dX8_part_30
    · have hm := it_s c_13 hm
      refine lv_aload_n hx hb dX8_part_16 rfl (lv_at hl 0 rfl) ?_
      refine gf_X8_23 (v := .long vT_be) hx hb hts hown hK hN hP 0 rfl rfl dX8_part_17 ?_
      refine lv_goto (tgt := 30) hx hb dX8_part_20 (by decide) ?_
      have hm := Option.some.inj hm
      subst hm
      exact q_lret (v := vT_be) hx hb hr hlocks hP hS dX8_part_30
  · have hm := it_s c_1 hm
    refine lv_aload_n hx hb dX8_part_4 rfl (lv_at hl 0 rfl) ?_
    refine gf_X8_195 (v := .long vT_ab) hx hb hts hown hK hN hP 0 rfl rfl dX8_part_5 ?_
    refine lv_goto (tgt := 30) hx hb dX8_part_8 (by decide) ?_
    have hm := Option.some.inj hm
    subst hm
    exact q_lret (v := vT_ab) hx hb hr hlocks hP hS dX8_part_30
theorem gf_X8_16 {p : Program} {l : Launch} {e : Env} {R : Room} {s : State} {m : MethodId} {args : Array Value} {below : List Frame} {meth : Method} {c : Code} {H : Heap} {locs : List Loc} {cells slots : Nat} {Q : State → Prop} {pc : Nat} {ls : Array Slot} {cc : ByteArray} {D : va_G} {cI cZ : ClassId} {ws : va_W} {a : Nat} {rest fs : List Value} (hx : p.tables.exec = Jvm.exec) (hb : c.code = cc) (hts : ∀ w ∈ bg, w.before args s = true) (hown : s.vm.findClass RX8 = some m.cls) (hK : va_K D vwCl (q_tys cI cZ) s) (hN : q_N s) (hP : va_P D vwCl ws H) (q0 : Nat) (he : ws[q0]? = some (a, .inr (8, fs))) {v : Value} (hv : fs[2]? = some v) (hdg : decode cc pc = .ok (.getfield 16, 3)) (kk : W p l e R s m args below meth c H locs cells slots Q (F0 m (pc + 3) ls (v :: rest))) : W p l e R s m args below meth c H locs cells slots Q (F0 m pc ls (.ref a :: rest)) :=
  va_get (C := RX8) (T := TX8) (N := 19) hx hb hts wu_X8 hown hK hP q0 he rfl 2 (by decide) (hts _ wf_X8_16) (fun _ h9 => h9) hv hdg kk
theorem gf_X8_13 {p : Program} {l : Launch} {e : Env} {R : Room} {s : State} {m : MethodId} {args : Array Value} {below : List Frame} {meth : Method} {c : Code} {H : Heap} {locs : List Loc} {cells slots : Nat} {Q : State → Prop} {pc : Nat} {ls : Array Slot} {cc : ByteArray} {D : va_G} {cI cZ : ClassId} {ws : va_W} {a : Nat} {rest fs : List Value} (hx : p.tables.exec = Jvm.exec) (hb : c.code = cc) (hts : ∀ w ∈ bg, w.before args s = true) (hown : s.vm.findClass RX8 = some m.cls) (hK : va_K D vwCl (q_tys cI cZ) s) (hN : q_N s) (hP : va_P D vwCl ws H) (q0 : Nat) (he : ws[q0]? = some (a, .inr (8, fs))) {v : Value} (hv : fs[1]? = some v) (hdg : decode cc pc = .ok (.getfield 13, 3)) (kk : W p l e R s m args below meth c H locs cells slots Q (F0 m (pc + 3) ls (v :: rest))) : W p l e R s m args below meth c H locs cells slots Q (F0 m pc ls (.ref a :: rest)) :=
  va_get (C := RX8) (T := TX8) (N := 19) hx hb hts wu_X8 hown hK hP q0 he rfl 1 (by decide) (hts _ wf_X8_13) (fun _ h9 => h9) hv hdg kk
theorem mb_X8_image : q_mb yX8_image cX8_image 3 (some .int) 1 := ⟨wc_X8_image, wn_X8, by decide, by decide, by decide +kernel⟩
theorem mv_X8_image : q_mv yX8_image 8 := ⟨wi_X8_image, ws_X8_image, _, rfl, rfl⟩
def wd_X8_image (cI cZ : ClassId) (AT AT_al AT_kp AT_ik AT_rf AT_hd AT_bs AT_se AT_bf AT_te AT_by AT_an AT_vs : Nat) (vT_ab : Int64) (vT_be : Int64) (vT_byl : Int32) (vT_tka : Int32) (vT_tkl : Int32) (vT_tkn : Int32) (vT_val : Int32) (fT_rf : Nat → Int32) (fT_ik : Nat → Int32) (fT_al : Nat → Int32) (fT_kp : Nat → Int32) : va_W := [(AT, .inr (8, [.ref AT_al, .ref AT_kp, .ref AT_ik, .ref AT_rf, .long vT_ab, .long vT_be, .ref AT_hd, .ref AT_bs, .ref AT_se, .ref AT_bf, .ref AT_te, .ref AT_by, .int vT_byl, .int vT_tka, .int vT_tkl, .int vT_tkn, .int vT_val, .ref AT_an, .ref AT_vs])), (AT_rf, .inl (cI, 3, .inl fT_rf)), (AT_ik, .inl (cZ, 2, .inl fT_ik)), (AT_al, .inl (cI, 312, .inl fT_al)), (AT_kp, .inl (cI, 624, .inl fT_kp))]
def fL_X8_image_19 (p1 : Int32) (fT_al : Nat → Int32) : Nat → Int32 → (Nat → Int32) → (Nat → Int32) → (Nat → Int32) → Option (Int32 × (Nat → Int32) × (Nat → Int32) × (Nat → Int32))
  | 0, _, _, _, _ => none
  | fu + 1, x2, fT_rf, fT_ik, fT_kp => if 312 ≤ x2 then (gd p1 2 (some (1, fT_rf, (upd fT_ik (Int32.toNatClampNeg p1) 1), fT_kp))) else (gd x2 312 (gd ((312 * p1) + x2) 624 (fL_X8_image_19 p1 fT_al fu (x2 + 1) fT_rf fT_ik (upd fT_kp (Int32.toNatClampNeg ((312 * p1) + x2)) (fT_al (Int32.toNatClampNeg x2))))))
def fm_X8_image (p1 : Int32) (fT_rf : Nat → Int32) (fT_ik : Nat → Int32) (fT_al : Nat → Int32) (fT_kp : Nat → Int32) : Option (Int32 × (Nat → Int32) × (Nat → Int32) × (Nat → Int32)) := Option.bind (fm_X8_in (Int32.toInt64 p1) 0 1) (fun r_4 => if r_4 = 0 then (Option.bind (fm_X8_bad (-2) fT_rf) (fun r_13 => some (r_13.1, r_13.2, fT_ik, fT_kp))) else (fL_X8_image_19 p1 fT_al FU 0 fT_rf fT_ik fT_kp))
set_option maxHeartbeats 4000000 in
set_option maxRecDepth 100000 in
theorem c_X8_image (l : Launch) (D : va_G) (cI cZ : ClassId) (sz : Nat) (AT AT_al AT_kp AT_ik AT_rf AT_hd AT_bs AT_se AT_bf AT_te AT_by AT_an AT_vs : Nat) (vT_ab : Int64) (vT_be : Int64) (vT_byl : Int32) (vT_tka : Int32) (vT_tkl : Int32) (vT_tkn : Int32) (vT_val : Int32) (fT_rf : Nat → Int32) (fT_ik : Nat → Int32) (fT_al : Nat → Int32) (fT_kp : Nat → Int32) (p1 : Int32) (out : (Int32 × (Nat → Int32) × (Nat → Int32) × (Nat → Int32))) (hm : fm_X8_image p1 fT_rf fT_ik fT_al fT_kp = some out) : Met l yX8_image (Cond.code yX8_image cX8_image 3 (some .int) :: bg) { frames := 1, cells := 0, slots := 0, locals := 25 } (va_Pc [.ref AT, .int p1] (q_pre D cI cZ sz (wd_X8_image cI cZ AT AT_al AT_kp AT_ik AT_rf AT_hd AT_bs AT_se AT_bf AT_te AT_by AT_an AT_vs vT_ab vT_be vT_byl vT_tka vT_tkl vT_tkn vT_val fT_rf fT_ik fT_al fT_kp))) (q_Qi D (wd_X8_image cI cZ AT AT_al AT_kp AT_ik AT_rf AT_hd AT_bs AT_se AT_bf AT_te AT_by AT_an AT_vs vT_ab vT_be vT_byl vT_tka vT_tkl vT_tkn vT_val out.2.1 out.2.2.1 fT_al out.2.2.2) out.1 (va_A (wd_X8_image cI cZ AT AT_al AT_kp AT_ik AT_rf AT_hd AT_bs AT_se AT_bf AT_te AT_by AT_an AT_vs vT_ab vT_be vT_byl vT_tka vT_tkl vT_tkn vT_val fT_rf fT_ik fT_al fT_kp) sz)) 0 0 (va_A (wd_X8_image cI cZ AT AT_al AT_kp AT_ik AT_rf AT_hd AT_bs AT_se AT_bf AT_te AT_by AT_an AT_vs vT_ab vT_be vT_byl vT_tka vT_tkl vT_tkn vT_val fT_rf fT_ik fT_al fT_kp) sz) := by
  refine q_met (fun A => q_Qi D (wd_X8_image cI cZ AT AT_al AT_kp AT_ik AT_rf AT_hd AT_bs AT_se AT_bf AT_te AT_by AT_an AT_vs vT_ab vT_be vT_byl vT_tka vT_tkl vT_tkn vT_val out.2.1 out.2.2.1 fT_al out.2.2.2) out.1 A) (by decide) (Nat.le_of_ble_eq_true rfl) ?_
  intro p e s m below meth c ls A hx hb hr hml hown hts hlocks _ hA hS hP hD hK hN hl
  have hown : s.vm.findClass RX8 = some m.cls := hown
  have hl : lv_has ls 3 [(0, .ref AT), (1, .int p1)] := hl
  have hL_19 : ∀ (fu_19 : Nat) (x2 : Int32) (fT_rf : Nat → Int32) (fT_ik : Nat → Int32) (fT_kp : Nat → Int32) (H : Heap) (locs : List Loc) (ls : Array Slot), fL_X8_image_19 p1 fT_al fu_19 x2 fT_rf fT_ik fT_kp = some out → va_P D vwCl (wd_X8_image cI cZ AT AT_al AT_kp AT_ik AT_rf AT_hd AT_bs AT_se AT_bf AT_te AT_by AT_an AT_vs vT_ab vT_be vT_byl vT_tka vT_tkl vT_tkn vT_val fT_rf fT_ik fT_al fT_kp) H → va_D A (wd_X8_image cI cZ AT AT_al AT_kp AT_ik AT_rf AT_hd AT_bs AT_se AT_bf AT_te AT_by AT_an AT_vs vT_ab vT_be vT_byl vT_tka vT_tkl vT_tkn vT_val fT_rf fT_ik fT_al fT_kp) → va_S A s.heap H locs → lv_has ls 3 [(2, .int x2), (0, .ref AT), (1, .int p1)] → W p l e { frames := 1, cells := 0, slots := 0, locals := 25 } s m ([.ref AT, .int p1] : List Value).toArray below meth c H locs 0 0 (MQ below (q_Qi D (wd_X8_image cI cZ AT AT_al AT_kp AT_ik AT_rf AT_hd AT_bs AT_se AT_bf AT_te AT_by AT_an AT_vs vT_ab vT_be vT_byl vT_tka vT_tkl vT_tkn vT_val out.2.1 out.2.2.1 fT_al out.2.2.2) out.1 A) ([.ref AT, .int p1] : List Value).toArray s 0 0 A) (F0 m 19 ls []) := by
    intro fu_19
    induction fu_19 with
    | zero => intro x2 fT_rf fT_ik fT_kp H locs ls hm hP hD hS hl; exact absurd (show (none : Option (Int32 × (Nat → Int32) × (Nat → Int32) × (Nat → Int32))) = some out from hm) (fun h => nomatch h)
    | succ fu_19 ih_19 =>
      intro x2 fT_rf fT_ik fT_kp H locs ls hm hP hD hS hl
      rw [fL_X8_image_19] at hm
      refine lv_iload_n hx hb dX8_image_19 rfl (lv_at hl 0 rfl) ?_
      refine lv_sipush (v := 312) hx hb dX8_image_20 (by decide) ?_
      refine lv_icmp_ge (tgt := 50) hx hb dX8_image_23 (by decide) (fun c_23 => ?_) (fun c_23 => ?_)
      · have hm := it_s c_23 hm
        refine lv_aload_n hx hb dX8_image_50 rfl (lv_at hl 1 rfl) ?_
        refine gf_X8_16 (v := .ref AT_ik) hx hb hts hown hK hN hP 0 rfl rfl dX8_image_51 ?_
        refine lv_iload_n hx hb dX8_image_54 rfl (lv_at hl 2 rfl) ?_
        refine lv_iconst (v := 1) hx hb dX8_image_55 (by decide) ?_
        obtain ⟨hi_56, hm⟩ := gd_s hm
        refine q_zast (j := (Int32.toNatClampNeg p1)) hx hb hK hP hD hS 2 rfl hi_56 rfl (by decide) dX8_image_56 (fun H locs hP hD hS => ?_)
        have hP : va_P D vwCl (wd_X8_image cI cZ AT AT_al AT_kp AT_ik AT_rf AT_hd AT_bs AT_se AT_bf AT_te AT_by AT_an AT_vs vT_ab vT_be vT_byl vT_tka vT_tkl vT_tkn vT_val fT_rf (upd fT_ik (Int32.toNatClampNeg p1) 1) fT_al fT_kp) H := hP
        have hD : va_D A (wd_X8_image cI cZ AT AT_al AT_kp AT_ik AT_rf AT_hd AT_bs AT_se AT_bf AT_te AT_by AT_an AT_vs vT_ab vT_be vT_byl vT_tka vT_tkl vT_tkn vT_val fT_rf (upd fT_ik (Int32.toNatClampNeg p1) 1) fT_al fT_kp) := hD
        refine lv_iconst (v := 1) hx hb dX8_image_57 (by decide) ?_
        have hm := Option.some.inj hm
        subst hm
        exact q_iret (v := 1) hx hb hr hlocks hP hS dX8_image_58
      · have hm := it_n c_23 hm
        refine lv_aload_n hx hb dX8_image_26 rfl (lv_at hl 1 rfl) ?_
        refine gf_X8_13 (v := .ref AT_kp) hx hb hts hown hK hN hP 0 rfl rfl dX8_image_27 ?_
        refine lv_sipush (v := 312) hx hb dX8_image_30 (by decide) ?_
        refine lv_iload_n hx hb dX8_image_33 rfl (lv_at hl 2 rfl) ?_
        refine lv_imul hx hb dX8_image_34 ?_
        refine lv_iload_n hx hb dX8_image_35 rfl (lv_at hl 0 rfl) ?_
        refine lv_iadd hx hb dX8_image_36 ?_
        refine lv_aload_n hx hb dX8_image_37 rfl (lv_at hl 1 rfl) ?_
        refine gf_X8_7 (v := .ref AT_al) hx hb hts hown hK hN hP 0 rfl rfl dX8_image_38 ?_
        refine lv_iload_n hx hb dX8_image_41 rfl (lv_at hl 0 rfl) ?_
        obtain ⟨hi_42, hm⟩ := gd_s hm
        refine q_iald (j := (Int32.toNatClampNeg x2)) hx hb hK hP 3 rfl hi_42 rfl dX8_image_42 ?_
        obtain ⟨hi_43, hm⟩ := gd_s hm
        refine q_iast (j := (Int32.toNatClampNeg ((312 * p1) + x2))) hx hb hK hP hD hS 4 rfl hi_43 rfl dX8_image_43 (fun H locs hP hD hS => ?_)
        have hP : va_P D vwCl (wd_X8_image cI cZ AT AT_al AT_kp AT_ik AT_rf AT_hd AT_bs AT_se AT_bf AT_te AT_by AT_an AT_vs vT_ab vT_be vT_byl vT_tka vT_tkl vT_tkn vT_val fT_rf fT_ik fT_al (upd fT_kp (Int32.toNatClampNeg ((312 * p1) + x2)) (fT_al (Int32.toNatClampNeg x2)))) H := hP
        have hD : va_D A (wd_X8_image cI cZ AT AT_al AT_kp AT_ik AT_rf AT_hd AT_bs AT_se AT_bf AT_te AT_by AT_an AT_vs vT_ab vT_be vT_byl vT_tka vT_tkl vT_tkn vT_val fT_rf fT_ik fT_al (upd fT_kp (Int32.toNatClampNeg ((312 * p1) + x2)) (fT_al (Int32.toNatClampNeg x2)))) := hD
        refine lv_iinc (v := (x2 + 1)) (lv' := [(2, .int (x2 + 1)), (0, .ref AT), (1, .int p1)]) hx hb dX8_image_44 hl (k := 0) rfl rfl (by decide) rfl (fun ls hl => ?_)
        refine lv_goto (tgt := 19) hx hb dX8_image_47 (by decide) ?_
        exact ih_19 (x2 + 1) fT_rf fT_ik (upd fT_kp (Int32.toNatClampNeg ((312 * p1) + x2)) (fT_al (Int32.toNatClampNeg x2))) H locs ls hm hP hD hS (lv_sub hl [0, 1, 2] rfl)
  unfold fm_X8_image at hm
  refine q_gen hS hP ?_
  intro H locs hP hS
  refine lv_iload_n hx hb dX8_image_0 rfl (lv_at hl 1 rfl) ?_
  refine lv_i2l (v := (Int32.toInt64 p1)) hx hb dX8_image_1 rfl ?_
  refine lv_lconst (v := 0) hx hb dX8_image_2 (by decide) ?_
  refine lv_lconst (v := 1) hx hb dX8_image_3 (by decide) ?_
  obtain ⟨r_4, hc_4, hm⟩ := ob_s hm
  refine q_ci (q_rs (rest := []) ⟨hx, hb, hml, hown, hts⟩ hK hN hP hD (c_X8_in l D cI cZ H.size (Int32.toInt64 p1) 0 1 r_4 hc_4) mb_X8_in wt_X8_in wl_X8_59 [] rfl rfl (Nat.le_of_ble_eq_true rfl) (Nat.le_of_ble_eq_true rfl) rfl hl.1 rfl (Nat.le_of_ble_eq_true rfl) ⟨Nat.le_refl 0, Nat.le_refl 0⟩ dX8_image_4) hP hD hS hA [] rfl rfl (fun H locs hP hD hS => ?_)
  have hP : va_P D vwCl (wd_X8_image cI cZ AT AT_al AT_kp AT_ik AT_rf AT_hd AT_bs AT_se AT_bf AT_te AT_by AT_an AT_vs vT_ab vT_be vT_byl vT_tka vT_tkl vT_tkn vT_val fT_rf fT_ik fT_al fT_kp) H := hP
  have hD : va_D A (wd_X8_image cI cZ AT AT_al AT_kp AT_ik AT_rf AT_hd AT_bs AT_se AT_bf AT_te AT_by AT_an AT_vs vT_ab vT_be vT_byl vT_tka vT_tkl vT_tkn vT_val fT_rf fT_ik fT_al fT_kp) := hD
  refine lv_if_ne (tgt := 17) hx hb dX8_image_7 (by decide) (fun c_7 => ?_) (fun c_7 => ?_)
  · have hm := it_n c_7 hm
    refine lv_iconst (v := 0) hx hb dX8_image_17 (by decide) ?_
    refine lv_istore_n (lv' := [(2, .int 0), (0, .ref AT), (1, .int p1)]) hx hb dX8_image_18 rfl hl (by decide) rfl (fun ls hl => ?_)
    exact hL_19 FU 0 fT_rf fT_ik fT_kp H locs ls hm hP hD hS (lv_sub hl [0, 1, 2] rfl)
  · have hm := it_s c_7 hm
    refine lv_aload_n hx hb dX8_image_10 rfl (lv_at hl 0 rfl) ?_
    refine lv_bipush (v := (-2)) hx hb dX8_image_11 (by decide) ?_
    obtain ⟨r_13, hc_13, hm⟩ := ob_s hm
    refine q_ci (q_rv (rest := []) ⟨hx, hb, hml, hown, hts⟩ hK hN hP hD (c_X8_bad l D cI cZ H.size AT AT_al AT_kp AT_ik AT_rf AT_hd AT_bs AT_se AT_bf AT_te AT_by AT_an AT_vs vT_ab vT_be vT_byl vT_tka vT_tkl vT_tkn vT_val fT_rf (-2) r_13 hc_13) mb_X8_bad mv_X8_bad wl_X8_75 [0, 1] rfl rfl rfl (Nat.le_of_ble_eq_true rfl) (Nat.le_of_ble_eq_true rfl) rfl hl.1 rfl (Nat.le_of_ble_eq_true rfl) ⟨Nat.le_refl 0, Nat.le_refl 0⟩ dX8_image_13) hP hD hS hA [0, 1] rfl rfl (fun H locs hP hD hS => ?_)
    have hP : va_P D vwCl (wd_X8_image cI cZ AT AT_al AT_kp AT_ik AT_rf AT_hd AT_bs AT_se AT_bf AT_te AT_by AT_an AT_vs vT_ab vT_be vT_byl vT_tka vT_tkl vT_tkn vT_val r_13.2 fT_ik fT_al fT_kp) H := hP
    have hD : va_D A (wd_X8_image cI cZ AT AT_al AT_kp AT_ik AT_rf AT_hd AT_bs AT_se AT_bf AT_te AT_by AT_an AT_vs vT_ab vT_be vT_byl vT_tka vT_tkl vT_tkn vT_val r_13.2 fT_ik fT_al fT_kp) := hD
    have hm := Option.some.inj hm
    subst hm
    exact q_iret (v := r_13.1) hx hb hr hlocks hP hS dX8_image_16
theorem mb_X8_from : q_mb yX8_from cX8_from 3 (some .int) 1 := ⟨wc_X8_from, wn_X8, by decide, by decide, by decide +kernel⟩
theorem mv_X8_from : q_mv yX8_from 8 := ⟨wi_X8_from, ws_X8_from, _, rfl, rfl⟩
def wd_X8_from (cI cZ : ClassId) (AT AT_al AT_kp AT_ik AT_rf AT_hd AT_bs AT_se AT_bf AT_te AT_by AT_an AT_vs : Nat) (vT_ab : Int64) (vT_be : Int64) (vT_byl : Int32) (vT_tka : Int32) (vT_tkl : Int32) (vT_tkn : Int32) (vT_val : Int32) (fT_ik : Nat → Int32) (fT_rf : Nat → Int32) (fT_kp : Nat → Int32) (fT_al : Nat → Int32) : va_W := [(AT, .inr (8, [.ref AT_al, .ref AT_kp, .ref AT_ik, .ref AT_rf, .long vT_ab, .long vT_be, .ref AT_hd, .ref AT_bs, .ref AT_se, .ref AT_bf, .ref AT_te, .ref AT_by, .int vT_byl, .int vT_tka, .int vT_tkl, .int vT_tkn, .int vT_val, .ref AT_an, .ref AT_vs])), (AT_ik, .inl (cZ, 2, .inl fT_ik)), (AT_rf, .inl (cI, 3, .inl fT_rf)), (AT_kp, .inl (cI, 624, .inl fT_kp)), (AT_al, .inl (cI, 312, .inl fT_al))]
def fL_X8_from_33 (p1 : Int32) (fT_ik : Nat → Int32) (fT_kp : Nat → Int32) : Nat → Int32 → (Nat → Int32) → (Nat → Int32) → Option (Int32 × (Nat → Int32) × (Nat → Int32))
  | 0, _, _, _ => none
  | fu + 1, x2, fT_rf, fT_al => if 312 ≤ x2 then (some (1, fT_rf, fT_al)) else (gd ((312 * p1) + x2) 624 (gd x2 312 (fL_X8_from_33 p1 fT_ik fT_kp fu (x2 + 1) fT_rf (upd fT_al (Int32.toNatClampNeg x2) (fT_kp (Int32.toNatClampNeg ((312 * p1) + x2)))))))
def fm_X8_from (p1 : Int32) (fT_ik : Nat → Int32) (fT_rf : Nat → Int32) (fT_kp : Nat → Int32) (fT_al : Nat → Int32) : Option (Int32 × (Nat → Int32) × (Nat → Int32)) := Option.bind (fm_X8_in (Int32.toInt64 p1) 0 1) (fun r_4 => if r_4 = 0 then (Option.bind (fm_X8_bad (-2) fT_rf) (fun r_13 => some (r_13.1, r_13.2, fT_al))) else (gd p1 2 (if (fT_ik (Int32.toNatClampNeg p1)) = 0 then (Option.bind (fm_X8_no fT_rf) (fun r_27 => some (r_27.1, r_27.2, fT_al))) else (fL_X8_from_33 p1 fT_ik fT_kp FU 0 fT_rf fT_al))))
set_option maxHeartbeats 4000000 in
set_option maxRecDepth 100000 in
theorem c_X8_from (l : Launch) (D : va_G) (cI cZ : ClassId) (sz : Nat) (AT AT_al AT_kp AT_ik AT_rf AT_hd AT_bs AT_se AT_bf AT_te AT_by AT_an AT_vs : Nat) (vT_ab : Int64) (vT_be : Int64) (vT_byl : Int32) (vT_tka : Int32) (vT_tkl : Int32) (vT_tkn : Int32) (vT_val : Int32) (fT_ik : Nat → Int32) (fT_rf : Nat → Int32) (fT_kp : Nat → Int32) (fT_al : Nat → Int32) (p1 : Int32) (out : (Int32 × (Nat → Int32) × (Nat → Int32))) (hm : fm_X8_from p1 fT_ik fT_rf fT_kp fT_al = some out) : Met l yX8_from (Cond.code yX8_from cX8_from 3 (some .int) :: bg) { frames := 1, cells := 0, slots := 0, locals := 25 } (va_Pc [.ref AT, .int p1] (q_pre D cI cZ sz (wd_X8_from cI cZ AT AT_al AT_kp AT_ik AT_rf AT_hd AT_bs AT_se AT_bf AT_te AT_by AT_an AT_vs vT_ab vT_be vT_byl vT_tka vT_tkl vT_tkn vT_val fT_ik fT_rf fT_kp fT_al))) (q_Qi D (wd_X8_from cI cZ AT AT_al AT_kp AT_ik AT_rf AT_hd AT_bs AT_se AT_bf AT_te AT_by AT_an AT_vs vT_ab vT_be vT_byl vT_tka vT_tkl vT_tkn vT_val fT_ik out.2.1 fT_kp out.2.2) out.1 (va_A (wd_X8_from cI cZ AT AT_al AT_kp AT_ik AT_rf AT_hd AT_bs AT_se AT_bf AT_te AT_by AT_an AT_vs vT_ab vT_be vT_byl vT_tka vT_tkl vT_tkn vT_val fT_ik fT_rf fT_kp fT_al) sz)) 0 0 (va_A (wd_X8_from cI cZ AT AT_al AT_kp AT_ik AT_rf AT_hd AT_bs AT_se AT_bf AT_te AT_by AT_an AT_vs vT_ab vT_be vT_byl vT_tka vT_tkl vT_tkn vT_val fT_ik fT_rf fT_kp fT_al) sz) := by
  refine q_met (fun A => q_Qi D (wd_X8_from cI cZ AT AT_al AT_kp AT_ik AT_rf AT_hd AT_bs AT_se AT_bf AT_te AT_by AT_an AT_vs vT_ab vT_be vT_byl vT_tka vT_tkl vT_tkn vT_val fT_ik out.2.1 fT_kp out.2.2) out.1 A) (by decide) (Nat.le_of_ble_eq_true rfl) ?_
  intro p e s m below meth c ls A hx hb hr hml hown hts hlocks _ hA hS hP hD hK hN hl
  have hown : s.vm.findClass RX8 = some m.cls := hown
  have hl : lv_has ls 3 [(0, .ref AT), (1, .int p1)] := hl
  have hL_33 : ∀ (fu_33 : Nat) (x2 : Int32) (fT_rf : Nat → Int32) (fT_al : Nat → Int32) (H : Heap) (locs : List Loc) (ls : Array Slot), fL_X8_from_33 p1 fT_ik fT_kp fu_33 x2 fT_rf fT_al = some out → va_P D vwCl (wd_X8_from cI cZ AT AT_al AT_kp AT_ik AT_rf AT_hd AT_bs AT_se AT_bf AT_te AT_by AT_an AT_vs vT_ab vT_be vT_byl vT_tka vT_tkl vT_tkn vT_val fT_ik fT_rf fT_kp fT_al) H → va_D A (wd_X8_from cI cZ AT AT_al AT_kp AT_ik AT_rf AT_hd AT_bs AT_se AT_bf AT_te AT_by AT_an AT_vs vT_ab vT_be vT_byl vT_tka vT_tkl vT_tkn vT_val fT_ik fT_rf fT_kp fT_al) → va_S A s.heap H locs → lv_has ls 3 [(2, .int x2), (0, .ref AT), (1, .int p1)] → W p l e { frames := 1, cells := 0, slots := 0, locals := 25 } s m ([.ref AT, .int p1] : List Value).toArray below meth c H locs 0 0 (MQ below (q_Qi D (wd_X8_from cI cZ AT AT_al AT_kp AT_ik AT_rf AT_hd AT_bs AT_se AT_bf AT_te AT_by AT_an AT_vs vT_ab vT_be vT_byl vT_tka vT_tkl vT_tkn vT_val fT_ik out.2.1 fT_kp out.2.2) out.1 A) ([.ref AT, .int p1] : List Value).toArray s 0 0 A) (F0 m 33 ls []) := by
    intro fu_33
    induction fu_33 with
    | zero => intro x2 fT_rf fT_al H locs ls hm hP hD hS hl; exact absurd (show (none : Option (Int32 × (Nat → Int32) × (Nat → Int32))) = some out from hm) (fun h => nomatch h)
    | succ fu_33 ih_33 =>
      intro x2 fT_rf fT_al H locs ls hm hP hD hS hl
      rw [fL_X8_from_33] at hm
      refine lv_iload_n hx hb dX8_from_33 rfl (lv_at hl 0 rfl) ?_
      refine lv_sipush (v := 312) hx hb dX8_from_34 (by decide) ?_
      refine lv_icmp_ge (tgt := 64) hx hb dX8_from_37 (by decide) (fun c_37 => ?_) (fun c_37 => ?_)
      · have hm := it_s c_37 hm
        refine lv_iconst (v := 1) hx hb dX8_from_64 (by decide) ?_
        have hm := Option.some.inj hm
        subst hm
        exact q_iret (v := 1) hx hb hr hlocks hP hS dX8_from_65
      · have hm := it_n c_37 hm
        refine lv_aload_n hx hb dX8_from_40 rfl (lv_at hl 1 rfl) ?_
        refine gf_X8_7 (v := .ref AT_al) hx hb hts hown hK hN hP 0 rfl rfl dX8_from_41 ?_
        refine lv_iload_n hx hb dX8_from_44 rfl (lv_at hl 0 rfl) ?_
        refine lv_aload_n hx hb dX8_from_45 rfl (lv_at hl 1 rfl) ?_
        refine gf_X8_13 (v := .ref AT_kp) hx hb hts hown hK hN hP 0 rfl rfl dX8_from_46 ?_
        refine lv_sipush (v := 312) hx hb dX8_from_49 (by decide) ?_
        refine lv_iload_n hx hb dX8_from_52 rfl (lv_at hl 2 rfl) ?_
        refine lv_imul hx hb dX8_from_53 ?_
        refine lv_iload_n hx hb dX8_from_54 rfl (lv_at hl 0 rfl) ?_
        refine lv_iadd hx hb dX8_from_55 ?_
        obtain ⟨hi_56, hm⟩ := gd_s hm
        refine q_iald (j := (Int32.toNatClampNeg ((312 * p1) + x2))) hx hb hK hP 3 rfl hi_56 rfl dX8_from_56 ?_
        obtain ⟨hi_57, hm⟩ := gd_s hm
        refine q_iast (j := (Int32.toNatClampNeg x2)) hx hb hK hP hD hS 4 rfl hi_57 rfl dX8_from_57 (fun H locs hP hD hS => ?_)
        have hP : va_P D vwCl (wd_X8_from cI cZ AT AT_al AT_kp AT_ik AT_rf AT_hd AT_bs AT_se AT_bf AT_te AT_by AT_an AT_vs vT_ab vT_be vT_byl vT_tka vT_tkl vT_tkn vT_val fT_ik fT_rf fT_kp (upd fT_al (Int32.toNatClampNeg x2) (fT_kp (Int32.toNatClampNeg ((312 * p1) + x2))))) H := hP
        have hD : va_D A (wd_X8_from cI cZ AT AT_al AT_kp AT_ik AT_rf AT_hd AT_bs AT_se AT_bf AT_te AT_by AT_an AT_vs vT_ab vT_be vT_byl vT_tka vT_tkl vT_tkn vT_val fT_ik fT_rf fT_kp (upd fT_al (Int32.toNatClampNeg x2) (fT_kp (Int32.toNatClampNeg ((312 * p1) + x2))))) := hD
        refine lv_iinc (v := (x2 + 1)) (lv' := [(2, .int (x2 + 1)), (0, .ref AT), (1, .int p1)]) hx hb dX8_from_58 hl (k := 0) rfl rfl (by decide) rfl (fun ls hl => ?_)
        refine lv_goto (tgt := 33) hx hb dX8_from_61 (by decide) ?_
        exact ih_33 (x2 + 1) fT_rf (upd fT_al (Int32.toNatClampNeg x2) (fT_kp (Int32.toNatClampNeg ((312 * p1) + x2)))) H locs ls hm hP hD hS (lv_sub hl [0, 1, 2] rfl)
  unfold fm_X8_from at hm
  refine q_gen hS hP ?_
  intro H locs hP hS
  refine lv_iload_n hx hb dX8_from_0 rfl (lv_at hl 1 rfl) ?_
  refine lv_i2l (v := (Int32.toInt64 p1)) hx hb dX8_from_1 rfl ?_
  refine lv_lconst (v := 0) hx hb dX8_from_2 (by decide) ?_
  refine lv_lconst (v := 1) hx hb dX8_from_3 (by decide) ?_
  obtain ⟨r_4, hc_4, hm⟩ := ob_s hm
  refine q_ci (q_rs (rest := []) ⟨hx, hb, hml, hown, hts⟩ hK hN hP hD (c_X8_in l D cI cZ H.size (Int32.toInt64 p1) 0 1 r_4 hc_4) mb_X8_in wt_X8_in wl_X8_59 [] rfl rfl (Nat.le_of_ble_eq_true rfl) (Nat.le_of_ble_eq_true rfl) rfl hl.1 rfl (Nat.le_of_ble_eq_true rfl) ⟨Nat.le_refl 0, Nat.le_refl 0⟩ dX8_from_4) hP hD hS hA [] rfl rfl (fun H locs hP hD hS => ?_)
  have hP : va_P D vwCl (wd_X8_from cI cZ AT AT_al AT_kp AT_ik AT_rf AT_hd AT_bs AT_se AT_bf AT_te AT_by AT_an AT_vs vT_ab vT_be vT_byl vT_tka vT_tkl vT_tkn vT_val fT_ik fT_rf fT_kp fT_al) H := hP
  have hD : va_D A (wd_X8_from cI cZ AT AT_al AT_kp AT_ik AT_rf AT_hd AT_bs AT_se AT_bf AT_te AT_by AT_an AT_vs vT_ab vT_be vT_byl vT_tka vT_tkl vT_tkn vT_val fT_ik fT_rf fT_kp fT_al) := hD
  refine lv_if_ne (tgt := 17) hx hb dX8_from_7 (by decide) (fun c_7 => ?_) (fun c_7 => ?_)
  · have hm := it_n c_7 hm
    refine lv_aload_n hx hb dX8_from_17 rfl (lv_at hl 0 rfl) ?_
    refine gf_X8_16 (v := .ref AT_ik) hx hb hts hown hK hN hP 0 rfl rfl dX8_from_18 ?_
    refine lv_iload_n hx hb dX8_from_21 rfl (lv_at hl 1 rfl) ?_
    obtain ⟨hi_22, hm⟩ := gd_s hm
    refine q_zald (j := (Int32.toNatClampNeg p1)) hx hb hK hP 1 rfl hi_22 rfl dX8_from_22 ?_
    refine lv_if_ne (tgt := 31) hx hb dX8_from_23 (by decide) (fun c_23 => ?_) (fun c_23 => ?_)
    · have hm := it_n c_23 hm
      refine lv_iconst (v := 0) hx hb dX8_from_31 (by decide) ?_
      refine lv_istore_n (lv' := [(2, .int 0), (0, .ref AT), (1, .int p1)]) hx hb dX8_from_32 rfl hl (by decide) rfl (fun ls hl => ?_)
      exact hL_33 FU 0 fT_rf fT_al H locs ls hm hP hD hS (lv_sub hl [0, 1, 2] rfl)
    · have hm := it_s c_23 hm
      refine lv_aload_n hx hb dX8_from_26 rfl (lv_at hl 0 rfl) ?_
      obtain ⟨r_27, hc_27, hm⟩ := ob_s hm
      refine q_ci (q_rv (rest := []) ⟨hx, hb, hml, hown, hts⟩ hK hN hP hD (c_X8_no l D cI cZ H.size AT AT_al AT_kp AT_ik AT_rf AT_hd AT_bs AT_se AT_bf AT_te AT_by AT_an AT_vs vT_ab vT_be vT_byl vT_tka vT_tkl vT_tkn vT_val fT_rf r_27 hc_27) mb_X8_no mv_X8_no wl_X8_126 [0, 2] rfl rfl rfl (Nat.le_of_ble_eq_true rfl) (Nat.le_of_ble_eq_true rfl) rfl hl.1 rfl (Nat.le_of_ble_eq_true rfl) ⟨Nat.le_refl 0, Nat.le_refl 0⟩ dX8_from_27) hP hD hS hA [0, 2] rfl rfl (fun H locs hP hD hS => ?_)
      have hP : va_P D vwCl (wd_X8_from cI cZ AT AT_al AT_kp AT_ik AT_rf AT_hd AT_bs AT_se AT_bf AT_te AT_by AT_an AT_vs vT_ab vT_be vT_byl vT_tka vT_tkl vT_tkn vT_val fT_ik r_27.2 fT_kp fT_al) H := hP
      have hD : va_D A (wd_X8_from cI cZ AT AT_al AT_kp AT_ik AT_rf AT_hd AT_bs AT_se AT_bf AT_te AT_by AT_an AT_vs vT_ab vT_be vT_byl vT_tka vT_tkl vT_tkn vT_val fT_ik r_27.2 fT_kp fT_al) := hD
      have hm := Option.some.inj hm
      subst hm
      exact q_iret (v := r_27.1) hx hb hr hlocks hP hS dX8_from_30
  · have hm := it_s c_7 hm
    refine lv_aload_n hx hb dX8_from_10 rfl (lv_at hl 0 rfl) ?_
    refine lv_bipush (v := (-2)) hx hb dX8_from_11 (by decide) ?_
    obtain ⟨r_13, hc_13, hm⟩ := ob_s hm
    refine q_ci (q_rv (rest := []) ⟨hx, hb, hml, hown, hts⟩ hK hN hP hD (c_X8_bad l D cI cZ H.size AT AT_al AT_kp AT_ik AT_rf AT_hd AT_bs AT_se AT_bf AT_te AT_by AT_an AT_vs vT_ab vT_be vT_byl vT_tka vT_tkl vT_tkn vT_val fT_rf (-2) r_13 hc_13) mb_X8_bad mv_X8_bad wl_X8_75 [0, 2] rfl rfl rfl (Nat.le_of_ble_eq_true rfl) (Nat.le_of_ble_eq_true rfl) rfl hl.1 rfl (Nat.le_of_ble_eq_true rfl) ⟨Nat.le_refl 0, Nat.le_refl 0⟩ dX8_from_13) hP hD hS hA [0, 2] rfl rfl (fun H locs hP hD hS => ?_)
    have hP : va_P D vwCl (wd_X8_from cI cZ AT AT_al AT_kp AT_ik AT_rf AT_hd AT_bs AT_se AT_bf AT_te AT_by AT_an AT_vs vT_ab vT_be vT_byl vT_tka vT_tkl vT_tkn vT_val fT_ik r_13.2 fT_kp fT_al) H := hP
    have hD : va_D A (wd_X8_from cI cZ AT AT_al AT_kp AT_ik AT_rf AT_hd AT_bs AT_se AT_bf AT_te AT_by AT_an AT_vs vT_ab vT_be vT_byl vT_tka vT_tkl vT_tkn vT_val fT_ik r_13.2 fT_kp fT_al) := hD
    have hm := Option.some.inj hm
    subst hm
    exact q_iret (v := r_13.1) hx hb hr hlocks hP hS dX8_from_16
theorem mb_X8_status : q_mb yX8_status cX8_status 2 (some .int) 1 := ⟨wc_X8_status, wn_X8, by decide, by decide, by decide +kernel⟩
theorem mv_X8_status : q_mv yX8_status 8 := ⟨wi_X8_status, ws_X8_status, _, rfl, rfl⟩
def wd_X8_status (cI cZ : ClassId) (AT AT_al AT_kp AT_ik AT_rf AT_hd AT_bs AT_se AT_bf AT_te AT_by AT_an AT_vs : Nat) (vT_ab : Int64) (vT_be : Int64) (vT_byl : Int32) (vT_tka : Int32) (vT_tkl : Int32) (vT_tkn : Int32) (vT_val : Int32) (fT_rf : Nat → Int32) : va_W := [(AT, .inr (8, [.ref AT_al, .ref AT_kp, .ref AT_ik, .ref AT_rf, .long vT_ab, .long vT_be, .ref AT_hd, .ref AT_bs, .ref AT_se, .ref AT_bf, .ref AT_te, .ref AT_by, .int vT_byl, .int vT_tka, .int vT_tkl, .int vT_tkn, .int vT_val, .ref AT_an, .ref AT_vs])), (AT_rf, .inl (cI, 3, .inl fT_rf))]
def fm_X8_status (p1 : Int32) (fT_rf : Nat → Int32) : Option (Int32 × (Nat → Int32)) := Option.bind (fm_X8_in (Int32.toInt64 p1) 0 2) (fun r_6 => if r_6 = 0 then (Option.bind (fm_X8_bad (-1) fT_rf) (fun r_23 => some (r_23.1, r_23.2))) else (gd p1 3 (some ((fT_rf (Int32.toNatClampNeg p1)), fT_rf))))
set_option maxHeartbeats 4000000 in
set_option maxRecDepth 100000 in
theorem c_X8_status (l : Launch) (D : va_G) (cI cZ : ClassId) (sz : Nat) (AT AT_al AT_kp AT_ik AT_rf AT_hd AT_bs AT_se AT_bf AT_te AT_by AT_an AT_vs : Nat) (vT_ab : Int64) (vT_be : Int64) (vT_byl : Int32) (vT_tka : Int32) (vT_tkl : Int32) (vT_tkn : Int32) (vT_val : Int32) (fT_rf : Nat → Int32) (p1 : Int32) (out : (Int32 × (Nat → Int32))) (hm : fm_X8_status p1 fT_rf = some out) : Met l yX8_status (Cond.code yX8_status cX8_status 2 (some .int) :: bg) { frames := 1, cells := 0, slots := 0, locals := 25 } (va_Pc [.ref AT, .int p1] (q_pre D cI cZ sz (wd_X8_status cI cZ AT AT_al AT_kp AT_ik AT_rf AT_hd AT_bs AT_se AT_bf AT_te AT_by AT_an AT_vs vT_ab vT_be vT_byl vT_tka vT_tkl vT_tkn vT_val fT_rf))) (q_Qi D (wd_X8_status cI cZ AT AT_al AT_kp AT_ik AT_rf AT_hd AT_bs AT_se AT_bf AT_te AT_by AT_an AT_vs vT_ab vT_be vT_byl vT_tka vT_tkl vT_tkn vT_val out.2) out.1 (va_A (wd_X8_status cI cZ AT AT_al AT_kp AT_ik AT_rf AT_hd AT_bs AT_se AT_bf AT_te AT_by AT_an AT_vs vT_ab vT_be vT_byl vT_tka vT_tkl vT_tkn vT_val fT_rf) sz)) 0 0 (va_A (wd_X8_status cI cZ AT AT_al AT_kp AT_ik AT_rf AT_hd AT_bs AT_se AT_bf AT_te AT_by AT_an AT_vs vT_ab vT_be vT_byl vT_tka vT_tkl vT_tkn vT_val fT_rf) sz) := by
  refine q_met (fun A => q_Qi D (wd_X8_status cI cZ AT AT_al AT_kp AT_ik AT_rf AT_hd AT_bs AT_se AT_bf AT_te AT_by AT_an AT_vs vT_ab vT_be vT_byl vT_tka vT_tkl vT_tkn vT_val out.2) out.1 A) (by decide) (Nat.le_of_ble_eq_true rfl) ?_
  intro p e s m below meth c ls A hx hb hr hml hown hts hlocks _ hA hS hP hD hK hN hl
  have hown : s.vm.findClass RX8 = some m.cls := hown
  have hl : lv_has ls 2 [(0, .ref AT), (1, .int p1)] := hl
  unfold fm_X8_status at hm
  refine q_gen hS hP ?_
  intro H locs hP hS
  refine lv_iload_n hx hb dX8_status_0 rfl (lv_at hl 1 rfl) ?_
  refine lv_i2l (v := (Int32.toInt64 p1)) hx hb dX8_status_1 rfl ?_
  refine lv_lconst (v := 0) hx hb dX8_status_2 (by decide) ?_
  refine lv_ldc2 (v := 2) hx hb hown (hts _ wv_X8_166) dX8_status_3 ?_
  obtain ⟨r_6, hc_6, hm⟩ := ob_s hm
  refine q_ci (q_rs (rest := []) ⟨hx, hb, hml, hown, hts⟩ hK hN hP hD (c_X8_in l D cI cZ H.size (Int32.toInt64 p1) 0 2 r_6 hc_6) mb_X8_in wt_X8_in wl_X8_59 [] rfl rfl (Nat.le_of_ble_eq_true rfl) (Nat.le_of_ble_eq_true rfl) rfl hl.1 rfl (Nat.le_of_ble_eq_true rfl) ⟨Nat.le_refl 0, Nat.le_refl 0⟩ dX8_status_6) hP hD hS hA [] rfl rfl (fun H locs hP hD hS => ?_)
  have hP : va_P D vwCl (wd_X8_status cI cZ AT AT_al AT_kp AT_ik AT_rf AT_hd AT_bs AT_se AT_bf AT_te AT_by AT_an AT_vs vT_ab vT_be vT_byl vT_tka vT_tkl vT_tkn vT_val fT_rf) H := hP
  have hD : va_D A (wd_X8_status cI cZ AT AT_al AT_kp AT_ik AT_rf AT_hd AT_bs AT_se AT_bf AT_te AT_by AT_an AT_vs vT_ab vT_be vT_byl vT_tka vT_tkl vT_tkn vT_val fT_rf) := hD
  refine lv_if_eq (tgt := 21) hx hb dX8_status_9 (by decide) (fun c_9 => ?_) (fun c_9 => ?_)
  · have hm := it_s c_9 hm
    refine lv_aload_n hx hb dX8_status_21 rfl (lv_at hl 0 rfl) ?_
    refine lv_iconst (v := (-1)) hx hb dX8_status_22 (by decide) ?_
    obtain ⟨r_23, hc_23, hm⟩ := ob_s hm
    refine q_ci (q_rv (rest := []) ⟨hx, hb, hml, hown, hts⟩ hK hN hP hD (c_X8_bad l D cI cZ H.size AT AT_al AT_kp AT_ik AT_rf AT_hd AT_bs AT_se AT_bf AT_te AT_by AT_an AT_vs vT_ab vT_be vT_byl vT_tka vT_tkl vT_tkn vT_val fT_rf (-1) r_23 hc_23) mb_X8_bad mv_X8_bad wl_X8_75 [0, 1] rfl rfl rfl (Nat.le_of_ble_eq_true rfl) (Nat.le_of_ble_eq_true rfl) rfl hl.1 rfl (Nat.le_of_ble_eq_true rfl) ⟨Nat.le_refl 0, Nat.le_refl 0⟩ dX8_status_23) hP hD hS hA [0, 1] rfl rfl (fun H locs hP hD hS => ?_)
    have hP : va_P D vwCl (wd_X8_status cI cZ AT AT_al AT_kp AT_ik AT_rf AT_hd AT_bs AT_se AT_bf AT_te AT_by AT_an AT_vs vT_ab vT_be vT_byl vT_tka vT_tkl vT_tkn vT_val r_23.2) H := hP
    have hD : va_D A (wd_X8_status cI cZ AT AT_al AT_kp AT_ik AT_rf AT_hd AT_bs AT_se AT_bf AT_te AT_by AT_an AT_vs vT_ab vT_be vT_byl vT_tka vT_tkl vT_tkn vT_val r_23.2) := hD
    have hm := Option.some.inj hm
    subst hm
    exact q_iret (v := r_23.1) hx hb hr hlocks hP hS dX8_status_26
  · have hm := it_n c_9 hm
    refine lv_aload_n hx hb dX8_status_12 rfl (lv_at hl 0 rfl) ?_
    refine gf_X8_20 (v := .ref AT_rf) hx hb hts hown hK hN hP 0 rfl rfl dX8_status_13 ?_
    refine lv_iload_n hx hb dX8_status_16 rfl (lv_at hl 1 rfl) ?_
    obtain ⟨hi_17, hm⟩ := gd_s hm
    refine q_iald (j := (Int32.toNatClampNeg p1)) hx hb hK hP 1 rfl hi_17 rfl dX8_status_17 ?_
    refine lv_goto (tgt := 26) hx hb dX8_status_18 (by decide) ?_
    have hm := Option.some.inj hm
    subst hm
    exact q_iret (v := (fT_rf (Int32.toNatClampNeg p1))) hx hb hr hlocks hP hS dX8_status_26
theorem mb_X8_counted : q_mb yX8_counted cX8_counted 4 (some .int) 1 := ⟨wc_X8_counted, wn_X8, by decide, by decide, by decide +kernel⟩
theorem mv_X8_counted : q_mv yX8_counted 8 := ⟨wi_X8_counted, ws_X8_counted, _, rfl, rfl⟩
def wd_X8_counted (cI cZ : ClassId) (AT AT_al AT_kp AT_ik AT_rf AT_hd AT_bs AT_se AT_bf AT_te AT_by AT_an AT_vs : Nat) (vT_ab : Int64) (vT_be : Int64) (vT_byl : Int32) (vT_tka : Int32) (vT_tkl : Int32) (vT_tkn : Int32) (vT_val : Int32) (fT_al : Nat → Int32) : va_W := [(AT, .inr (8, [.ref AT_al, .ref AT_kp, .ref AT_ik, .ref AT_rf, .long vT_ab, .long vT_be, .ref AT_hd, .ref AT_bs, .ref AT_se, .ref AT_bf, .ref AT_te, .ref AT_by, .int vT_byl, .int vT_tka, .int vT_tkl, .int vT_tkn, .int vT_val, .ref AT_an, .ref AT_vs])), (AT_al, .inl (cI, 312, .inl fT_al))]
def fL_X8_counted_4 (p1 : Int32) (vT_byl : Int32) (fT_al : Nat → Int32) : Nat → Int32 → Int32 → Option (Int32)
  | 0, _, _ => none
  | fu + 1, x3, x2 => Option.bind (fm_X8_many fT_al) (fun r_6 => if r_6 ≤ x3 then (if p1 = 0 then (Option.bind (fm_X8_many fT_al) (fun r_85 => some (r_85))) else if p1 = 1 then (some ((fT_al 1))) else if p1 = 2 then (some ((fT_al 30))) else if p1 = 3 then (Option.bind (fm_X8_manyWhoDo 312 fT_al) (fun r_108 => some (r_108))) else if p1 = 4 then (some (x2)) else if p1 = 5 then (gd ((2 + p1) - 5) 312 (some ((fT_al (Int32.toNatClampNeg ((2 + p1) - 5)))))) else if p1 = 6 then (gd ((2 + p1) - 5) 312 (some ((fT_al (Int32.toNatClampNeg ((2 + p1) - 5)))))) else if p1 = 7 then (gd ((2 + p1) - 5) 312 (some ((fT_al (Int32.toNatClampNeg ((2 + p1) - 5)))))) else if p1 = 8 then (gd ((2 + p1) - 5) 312 (some ((fT_al (Int32.toNatClampNeg ((2 + p1) - 5)))))) else if p1 = 9 then (some (vT_byl)) else (gd ((2 + p1) - 5) 312 (some ((fT_al (Int32.toNatClampNeg ((2 + p1) - 5))))))) else (gd (18 + x3) 312 (fL_X8_counted_4 p1 vT_byl fT_al fu (x3 + 1) (x2 + (fT_al (Int32.toNatClampNeg (18 + x3)))))))
def fm_X8_counted (p1 : Int32) (vT_byl : Int32) (fT_al : Nat → Int32) : Option (Int32) := fL_X8_counted_4 p1 vT_byl fT_al FU 0 0
set_option maxHeartbeats 4000000 in
set_option maxRecDepth 100000 in
theorem c_X8_counted (l : Launch) (D : va_G) (cI cZ : ClassId) (sz : Nat) (AT AT_al AT_kp AT_ik AT_rf AT_hd AT_bs AT_se AT_bf AT_te AT_by AT_an AT_vs : Nat) (vT_ab : Int64) (vT_be : Int64) (vT_byl : Int32) (vT_tka : Int32) (vT_tkl : Int32) (vT_tkn : Int32) (vT_val : Int32) (fT_al : Nat → Int32) (p1 : Int32) (out : (Int32)) (hm : fm_X8_counted p1 vT_byl fT_al = some out) : Met l yX8_counted (Cond.code yX8_counted cX8_counted 4 (some .int) :: bg) { frames := 1, cells := 0, slots := 0, locals := 22 } (va_Pc [.ref AT, .int p1] (q_pre D cI cZ sz (wd_X8_counted cI cZ AT AT_al AT_kp AT_ik AT_rf AT_hd AT_bs AT_se AT_bf AT_te AT_by AT_an AT_vs vT_ab vT_be vT_byl vT_tka vT_tkl vT_tkn vT_val fT_al))) (q_Qi D (wd_X8_counted cI cZ AT AT_al AT_kp AT_ik AT_rf AT_hd AT_bs AT_se AT_bf AT_te AT_by AT_an AT_vs vT_ab vT_be vT_byl vT_tka vT_tkl vT_tkn vT_val fT_al) out (va_A (wd_X8_counted cI cZ AT AT_al AT_kp AT_ik AT_rf AT_hd AT_bs AT_se AT_bf AT_te AT_by AT_an AT_vs vT_ab vT_be vT_byl vT_tka vT_tkl vT_tkn vT_val fT_al) sz)) 0 0 (va_A (wd_X8_counted cI cZ AT AT_al AT_kp AT_ik AT_rf AT_hd AT_bs AT_se AT_bf AT_te AT_by AT_an AT_vs vT_ab vT_be vT_byl vT_tka vT_tkl vT_tkn vT_val fT_al) sz) := by
  refine q_met (fun A => q_Qi D (wd_X8_counted cI cZ AT AT_al AT_kp AT_ik AT_rf AT_hd AT_bs AT_se AT_bf AT_te AT_by AT_an AT_vs vT_ab vT_be vT_byl vT_tka vT_tkl vT_tkn vT_val fT_al) out A) (by decide) (Nat.le_of_ble_eq_true rfl) ?_
  intro p e s m below meth c ls A hx hb hr hml hown hts hlocks _ hA hS hP hD hK hN hl
  have hown : s.vm.findClass RX8 = some m.cls := hown
  have hl : lv_has ls 4 [(0, .ref AT), (1, .int p1)] := hl
  have hL_4 : ∀ (fu_4 : Nat) (x3 : Int32) (x2 : Int32) (H : Heap) (locs : List Loc) (ls : Array Slot), fL_X8_counted_4 p1 vT_byl fT_al fu_4 x3 x2 = some out → va_P D vwCl (wd_X8_counted cI cZ AT AT_al AT_kp AT_ik AT_rf AT_hd AT_bs AT_se AT_bf AT_te AT_by AT_an AT_vs vT_ab vT_be vT_byl vT_tka vT_tkl vT_tkn vT_val fT_al) H → va_D A (wd_X8_counted cI cZ AT AT_al AT_kp AT_ik AT_rf AT_hd AT_bs AT_se AT_bf AT_te AT_by AT_an AT_vs vT_ab vT_be vT_byl vT_tka vT_tkl vT_tkn vT_val fT_al) → va_S A s.heap H locs → lv_has ls 4 [(3, .int x3), (2, .int x2), (0, .ref AT), (1, .int p1)] → W p l e { frames := 1, cells := 0, slots := 0, locals := 22 } s m ([.ref AT, .int p1] : List Value).toArray below meth c H locs 0 0 (MQ below (q_Qi D (wd_X8_counted cI cZ AT AT_al AT_kp AT_ik AT_rf AT_hd AT_bs AT_se AT_bf AT_te AT_by AT_an AT_vs vT_ab vT_be vT_byl vT_tka vT_tkl vT_tkn vT_val fT_al) out A) ([.ref AT, .int p1] : List Value).toArray s 0 0 A) (F0 m 4 ls []) := by
    intro fu_4
    induction fu_4 with
    | zero => intro x3 x2 H locs ls hm hP hD hS hl; exact absurd (show (none : Option (Int32)) = some out from hm) (fun h => nomatch h)
    | succ fu_4 ih_4 =>
      intro x3 x2 H locs ls hm hP hD hS hl
      rw [fL_X8_counted_4] at hm
      refine lv_iload_n hx hb dX8_counted_4 rfl (lv_at hl 0 rfl) ?_
      refine lv_aload_n hx hb dX8_counted_5 rfl (lv_at hl 2 rfl) ?_
      obtain ⟨r_6, hc_6, hm⟩ := ob_s hm
      refine q_ci (q_rv (rest := [.int x3]) ⟨hx, hb, hml, hown, hts⟩ hK hN hP hD (c_X8_many l D cI cZ H.size AT AT_al AT_kp AT_ik AT_rf AT_hd AT_bs AT_se AT_bf AT_te AT_by AT_an AT_vs vT_ab vT_be vT_byl vT_tka vT_tkl vT_tkn vT_val fT_al r_6 hc_6) mb_X8_many mv_X8_many wl_X8_55 [0, 1] rfl rfl rfl (Nat.le_of_ble_eq_true rfl) (Nat.le_of_ble_eq_true rfl) rfl hl.1 rfl (Nat.le_of_ble_eq_true rfl) ⟨Nat.le_refl 0, Nat.le_refl 0⟩ dX8_counted_6) hP hD hS hA [0, 1] rfl rfl (fun H locs hP hD hS => ?_)
      have hP : va_P D vwCl (wd_X8_counted cI cZ AT AT_al AT_kp AT_ik AT_rf AT_hd AT_bs AT_se AT_bf AT_te AT_by AT_an AT_vs vT_ab vT_be vT_byl vT_tka vT_tkl vT_tkn vT_val fT_al) H := hP
      have hD : va_D A (wd_X8_counted cI cZ AT AT_al AT_kp AT_ik AT_rf AT_hd AT_bs AT_se AT_bf AT_te AT_by AT_an AT_vs vT_ab vT_be vT_byl vT_tka vT_tkl vT_tkn vT_val fT_al) := hD
      refine lv_icmp_ge (tgt := 30) hx hb dX8_counted_9 (by decide) (fun c_9 => ?_) (fun c_9 => ?_)
      · have hm := it_s c_9 hm
        refine lv_iload_n hx hb dX8_counted_30 rfl (lv_at hl 3 rfl) ?_
        rcases Decidable.em (p1 = 0) with c_31_0 | c_31_0
        · have hm := it_s c_31_0 hm
          refine lv_tableIn (tgt := 84) hx hb dX8_counted_31 (by rw [c_31_0]; decide) (by rw [c_31_0]; decide) (by rw [c_31_0]; rfl) (by decide) ?_
          refine lv_aload_n hx hb dX8_counted_84 rfl (lv_at hl 2 rfl) ?_
          obtain ⟨r_85, hc_85, hm⟩ := ob_s hm
          refine q_ci (q_rv (rest := []) ⟨hx, hb, hml, hown, hts⟩ hK hN hP hD (c_X8_many l D cI cZ H.size AT AT_al AT_kp AT_ik AT_rf AT_hd AT_bs AT_se AT_bf AT_te AT_by AT_an AT_vs vT_ab vT_be vT_byl vT_tka vT_tkl vT_tkn vT_val fT_al r_85 hc_85) mb_X8_many mv_X8_many wl_X8_55 [0, 1] rfl rfl rfl (Nat.le_of_ble_eq_true rfl) (Nat.le_of_ble_eq_true rfl) rfl hl.1 rfl (Nat.le_of_ble_eq_true rfl) ⟨Nat.le_refl 0, Nat.le_refl 0⟩ dX8_counted_85) hP hD hS hA [0, 1] rfl rfl (fun H locs hP hD hS => ?_)
          have hP : va_P D vwCl (wd_X8_counted cI cZ AT AT_al AT_kp AT_ik AT_rf AT_hd AT_bs AT_se AT_bf AT_te AT_by AT_an AT_vs vT_ab vT_be vT_byl vT_tka vT_tkl vT_tkn vT_val fT_al) H := hP
          have hD : va_D A (wd_X8_counted cI cZ AT AT_al AT_kp AT_ik AT_rf AT_hd AT_bs AT_se AT_bf AT_te AT_by AT_an AT_vs vT_ab vT_be vT_byl vT_tka vT_tkl vT_tkn vT_val fT_al) := hD
          have hm := Option.some.inj hm
          subst hm
          exact q_iret (v := r_85) hx hb hr hlocks hP hS dX8_counted_88
        have hm := it_n c_31_0 hm
        rcases Decidable.em (p1 = 1) with c_31_1 | c_31_1
        · have hm := it_s c_31_1 hm
          refine lv_tableIn (tgt := 89) hx hb dX8_counted_31 (by rw [c_31_1]; decide) (by rw [c_31_1]; decide) (by rw [c_31_1]; rfl) (by decide) ?_
          refine lv_aload_n hx hb dX8_counted_89 rfl (lv_at hl 2 rfl) ?_
          refine gf_X8_7 (v := .ref AT_al) hx hb hts hown hK hN hP 0 rfl rfl dX8_counted_90 ?_
          refine lv_iconst (v := 1) hx hb dX8_counted_93 (by decide) ?_
          refine q_iald (j := 1) hx hb hK hP 1 rfl (q_inl (by decide)) (by decide) dX8_counted_94 ?_
          have hm := Option.some.inj hm
          subst hm
          exact q_iret (v := (fT_al 1)) hx hb hr hlocks hP hS dX8_counted_95
        have hm := it_n c_31_1 hm
        rcases Decidable.em (p1 = 2) with c_31_2 | c_31_2
        · have hm := it_s c_31_2 hm
          refine lv_tableIn (tgt := 96) hx hb dX8_counted_31 (by rw [c_31_2]; decide) (by rw [c_31_2]; decide) (by rw [c_31_2]; rfl) (by decide) ?_
          refine lv_aload_n hx hb dX8_counted_96 rfl (lv_at hl 2 rfl) ?_
          refine gf_X8_7 (v := .ref AT_al) hx hb hts hown hK hN hP 0 rfl rfl dX8_counted_97 ?_
          refine lv_bipush (v := 30) hx hb dX8_counted_100 (by decide) ?_
          refine q_iald (j := 30) hx hb hK hP 1 rfl (q_inl (by decide)) (by decide) dX8_counted_102 ?_
          have hm := Option.some.inj hm
          subst hm
          exact q_iret (v := (fT_al 30)) hx hb hr hlocks hP hS dX8_counted_103
        have hm := it_n c_31_2 hm
        rcases Decidable.em (p1 = 3) with c_31_3 | c_31_3
        · have hm := it_s c_31_3 hm
          refine lv_tableIn (tgt := 104) hx hb dX8_counted_31 (by rw [c_31_3]; decide) (by rw [c_31_3]; decide) (by rw [c_31_3]; rfl) (by decide) ?_
          refine lv_aload_n hx hb dX8_counted_104 rfl (lv_at hl 2 rfl) ?_
          refine gf_X8_7 (v := .ref AT_al) hx hb hts hown hK hN hP 0 rfl rfl dX8_counted_105 ?_
          obtain ⟨r_108, hc_108, hm⟩ := ob_s hm
          refine q_ci (q_rs (rest := []) ⟨hx, hb, hml, hown, hts⟩ hK hN hP hD (c_X8_manyWhoDo l D cI cZ H.size AT_al 312 fT_al r_108 hc_108) mb_X8_manyWhoDo wt_X8_manyWhoDo wl_X8_122 [1] rfl rfl (Nat.le_of_ble_eq_true rfl) (Nat.le_of_ble_eq_true rfl) rfl hl.1 rfl (Nat.le_of_ble_eq_true rfl) ⟨Nat.le_refl 0, Nat.le_refl 0⟩ dX8_counted_108) hP hD hS hA [1] rfl rfl (fun H locs hP hD hS => ?_)
          have hP : va_P D vwCl (wd_X8_counted cI cZ AT AT_al AT_kp AT_ik AT_rf AT_hd AT_bs AT_se AT_bf AT_te AT_by AT_an AT_vs vT_ab vT_be vT_byl vT_tka vT_tkl vT_tkn vT_val fT_al) H := hP
          have hD : va_D A (wd_X8_counted cI cZ AT AT_al AT_kp AT_ik AT_rf AT_hd AT_bs AT_se AT_bf AT_te AT_by AT_an AT_vs vT_ab vT_be vT_byl vT_tka vT_tkl vT_tkn vT_val fT_al) := hD
          have hm := Option.some.inj hm
          subst hm
          exact q_iret (v := r_108) hx hb hr hlocks hP hS dX8_counted_111
        have hm := it_n c_31_3 hm
        rcases Decidable.em (p1 = 4) with c_31_4 | c_31_4
        · have hm := it_s c_31_4 hm
          refine lv_tableIn (tgt := 112) hx hb dX8_counted_31 (by rw [c_31_4]; decide) (by rw [c_31_4]; decide) (by rw [c_31_4]; rfl) (by decide) ?_
          refine lv_iload_n hx hb dX8_counted_112 rfl (lv_at hl 1 rfl) ?_
          have hm := Option.some.inj hm
          subst hm
          exact q_iret (v := x2) hx hb hr hlocks hP hS dX8_counted_113
        have hm := it_n c_31_4 hm
        rcases Decidable.em (p1 = 5) with c_31_5 | c_31_5
        · have hm := it_s c_31_5 hm
          refine lv_tableIn (tgt := 119) hx hb dX8_counted_31 (by rw [c_31_5]; decide) (by rw [c_31_5]; decide) (by rw [c_31_5]; rfl) (by decide) ?_
          refine lv_aload_n hx hb dX8_counted_119 rfl (lv_at hl 2 rfl) ?_
          refine gf_X8_7 (v := .ref AT_al) hx hb hts hown hK hN hP 0 rfl rfl dX8_counted_120 ?_
          refine lv_iconst (v := 2) hx hb dX8_counted_123 (by decide) ?_
          refine lv_iload_n hx hb dX8_counted_124 rfl (lv_at hl 3 rfl) ?_
          refine lv_iadd hx hb dX8_counted_125 ?_
          refine lv_iconst (v := 5) hx hb dX8_counted_126 (by decide) ?_
          refine lv_isub hx hb dX8_counted_127 ?_
          obtain ⟨hi_128, hm⟩ := gd_s hm
          refine q_iald (j := (Int32.toNatClampNeg ((2 + p1) - 5))) hx hb hK hP 1 rfl hi_128 rfl dX8_counted_128 ?_
          have hm := Option.some.inj hm
          subst hm
          exact q_iret (v := (fT_al (Int32.toNatClampNeg ((2 + p1) - 5)))) hx hb hr hlocks hP hS dX8_counted_129
        have hm := it_n c_31_5 hm
        rcases Decidable.em (p1 = 6) with c_31_6 | c_31_6
        · have hm := it_s c_31_6 hm
          refine lv_tableIn (tgt := 119) hx hb dX8_counted_31 (by rw [c_31_6]; decide) (by rw [c_31_6]; decide) (by rw [c_31_6]; rfl) (by decide) ?_
          refine lv_aload_n hx hb dX8_counted_119 rfl (lv_at hl 2 rfl) ?_
          refine gf_X8_7 (v := .ref AT_al) hx hb hts hown hK hN hP 0 rfl rfl dX8_counted_120 ?_
          refine lv_iconst (v := 2) hx hb dX8_counted_123 (by decide) ?_
          refine lv_iload_n hx hb dX8_counted_124 rfl (lv_at hl 3 rfl) ?_
          refine lv_iadd hx hb dX8_counted_125 ?_
          refine lv_iconst (v := 5) hx hb dX8_counted_126 (by decide) ?_
          refine lv_isub hx hb dX8_counted_127 ?_
          obtain ⟨hi_128, hm⟩ := gd_s hm
          refine q_iald (j := (Int32.toNatClampNeg ((2 + p1) - 5))) hx hb hK hP 1 rfl hi_128 rfl dX8_counted_128 ?_
          have hm := Option.some.inj hm
          subst hm
          exact q_iret (v := (fT_al (Int32.toNatClampNeg ((2 + p1) - 5)))) hx hb hr hlocks hP hS dX8_counted_129
        have hm := it_n c_31_6 hm
        rcases Decidable.em (p1 = 7) with c_31_7 | c_31_7
        · have hm := it_s c_31_7 hm
          refine lv_tableIn (tgt := 119) hx hb dX8_counted_31 (by rw [c_31_7]; decide) (by rw [c_31_7]; decide) (by rw [c_31_7]; rfl) (by decide) ?_
          refine lv_aload_n hx hb dX8_counted_119 rfl (lv_at hl 2 rfl) ?_
          refine gf_X8_7 (v := .ref AT_al) hx hb hts hown hK hN hP 0 rfl rfl dX8_counted_120 ?_
          refine lv_iconst (v := 2) hx hb dX8_counted_123 (by decide) ?_
          refine lv_iload_n hx hb dX8_counted_124 rfl (lv_at hl 3 rfl) ?_
          refine lv_iadd hx hb dX8_counted_125 ?_
          refine lv_iconst (v := 5) hx hb dX8_counted_126 (by decide) ?_
          refine lv_isub hx hb dX8_counted_127 ?_
          obtain ⟨hi_128, hm⟩ := gd_s hm
          refine q_iald (j := (Int32.toNatClampNeg ((2 + p1) - 5))) hx hb hK hP 1 rfl hi_128 rfl dX8_counted_128 ?_
          have hm := Option.some.inj hm
          subst hm
          exact q_iret (v := (fT_al (Int32.toNatClampNeg ((2 + p1) - 5)))) hx hb hr hlocks hP hS dX8_counted_129
        have hm := it_n c_31_7 hm
        rcases Decidable.em (p1 = 8) with c_31_8 | c_31_8
        · have hm := it_s c_31_8 hm
          refine lv_tableIn (tgt := 119) hx hb dX8_counted_31 (by rw [c_31_8]; decide) (by rw [c_31_8]; decide) (by rw [c_31_8]; rfl) (by decide) ?_
          refine lv_aload_n hx hb dX8_counted_119 rfl (lv_at hl 2 rfl) ?_
          refine gf_X8_7 (v := .ref AT_al) hx hb hts hown hK hN hP 0 rfl rfl dX8_counted_120 ?_
          refine lv_iconst (v := 2) hx hb dX8_counted_123 (by decide) ?_
          refine lv_iload_n hx hb dX8_counted_124 rfl (lv_at hl 3 rfl) ?_
          refine lv_iadd hx hb dX8_counted_125 ?_
          refine lv_iconst (v := 5) hx hb dX8_counted_126 (by decide) ?_
          refine lv_isub hx hb dX8_counted_127 ?_
          obtain ⟨hi_128, hm⟩ := gd_s hm
          refine q_iald (j := (Int32.toNatClampNeg ((2 + p1) - 5))) hx hb hK hP 1 rfl hi_128 rfl dX8_counted_128 ?_
          have hm := Option.some.inj hm
          subst hm
          exact q_iret (v := (fT_al (Int32.toNatClampNeg ((2 + p1) - 5)))) hx hb hr hlocks hP hS dX8_counted_129
        have hm := it_n c_31_8 hm
        rcases Decidable.em (p1 = 9) with c_31_9 | c_31_9
        · have hm := it_s c_31_9 hm
          refine lv_tableIn (tgt := 114) hx hb dX8_counted_31 (by rw [c_31_9]; decide) (by rw [c_31_9]; decide) (by rw [c_31_9]; rfl) (by decide) ?_
          refine lv_aload_n hx hb dX8_counted_114 rfl (lv_at hl 2 rfl) ?_
          refine gf_X8_220 (v := .int vT_byl) hx hb hts hown hK hN hP 0 rfl rfl dX8_counted_115 ?_
          have hm := Option.some.inj hm
          subst hm
          exact q_iret (v := vT_byl) hx hb hr hlocks hP hS dX8_counted_118
        have hm := it_n c_31_9 hm
        have ht_0 := lv_neT c_31_0 (show (0 : Int32).toInt = 0 by decide)
        have ht_1 := lv_neT c_31_1 (show (1 : Int32).toInt = 1 by decide)
        have ht_2 := lv_neT c_31_2 (show (2 : Int32).toInt = 2 by decide)
        have ht_3 := lv_neT c_31_3 (show (3 : Int32).toInt = 3 by decide)
        have ht_4 := lv_neT c_31_4 (show (4 : Int32).toInt = 4 by decide)
        have ht_5 := lv_neT c_31_5 (show (5 : Int32).toInt = 5 by decide)
        have ht_6 := lv_neT c_31_6 (show (6 : Int32).toInt = 6 by decide)
        have ht_7 := lv_neT c_31_7 (show (7 : Int32).toInt = 7 by decide)
        have ht_8 := lv_neT c_31_8 (show (8 : Int32).toInt = 8 by decide)
        have ht_9 := lv_neT c_31_9 (show (9 : Int32).toInt = 9 by decide)
        refine lv_tableOut (tgt := 119) hx hb dX8_counted_31 (by omega) (by decide) ?_
        refine lv_aload_n hx hb dX8_counted_119 rfl (lv_at hl 2 rfl) ?_
        refine gf_X8_7 (v := .ref AT_al) hx hb hts hown hK hN hP 0 rfl rfl dX8_counted_120 ?_
        refine lv_iconst (v := 2) hx hb dX8_counted_123 (by decide) ?_
        refine lv_iload_n hx hb dX8_counted_124 rfl (lv_at hl 3 rfl) ?_
        refine lv_iadd hx hb dX8_counted_125 ?_
        refine lv_iconst (v := 5) hx hb dX8_counted_126 (by decide) ?_
        refine lv_isub hx hb dX8_counted_127 ?_
        obtain ⟨hi_128, hm⟩ := gd_s hm
        refine q_iald (j := (Int32.toNatClampNeg ((2 + p1) - 5))) hx hb hK hP 1 rfl hi_128 rfl dX8_counted_128 ?_
        have hm := Option.some.inj hm
        subst hm
        exact q_iret (v := (fT_al (Int32.toNatClampNeg ((2 + p1) - 5)))) hx hb hr hlocks hP hS dX8_counted_129
      · have hm := it_n c_9 hm
        refine lv_iload_n hx hb dX8_counted_12 rfl (lv_at hl 1 rfl) ?_
        refine lv_aload_n hx hb dX8_counted_13 rfl (lv_at hl 2 rfl) ?_
        refine gf_X8_7 (v := .ref AT_al) hx hb hts hown hK hN hP 0 rfl rfl dX8_counted_14 ?_
        refine lv_bipush (v := 18) hx hb dX8_counted_17 (by decide) ?_
        refine lv_iload_n hx hb dX8_counted_19 rfl (lv_at hl 0 rfl) ?_
        refine lv_iadd hx hb dX8_counted_20 ?_
        obtain ⟨hi_21, hm⟩ := gd_s hm
        refine q_iald (j := (Int32.toNatClampNeg (18 + x3))) hx hb hK hP 1 rfl hi_21 rfl dX8_counted_21 ?_
        refine lv_iadd hx hb dX8_counted_22 ?_
        refine lv_istore_n (lv' := [(2, .int (x2 + (fT_al (Int32.toNatClampNeg (18 + x3))))), (3, .int x3), (0, .ref AT), (1, .int p1)]) hx hb dX8_counted_23 rfl hl (by decide) rfl (fun ls hl => ?_)
        refine lv_iinc (v := (x3 + 1)) (lv' := [(3, .int (x3 + 1)), (2, .int (x2 + (fT_al (Int32.toNatClampNeg (18 + x3))))), (0, .ref AT), (1, .int p1)]) hx hb dX8_counted_24 hl (k := 1) rfl rfl (by decide) rfl (fun ls hl => ?_)
        refine lv_goto (tgt := 4) hx hb dX8_counted_27 (by decide) ?_
        exact ih_4 (x3 + 1) (x2 + (fT_al (Int32.toNatClampNeg (18 + x3)))) H locs ls hm hP hD hS (lv_sub hl [0, 1, 2, 3] rfl)
  unfold fm_X8_counted at hm
  refine q_gen hS hP ?_
  intro H locs hP hS
  refine lv_iconst (v := 0) hx hb dX8_counted_0 (by decide) ?_
  refine lv_istore_n (lv' := [(2, .int 0), (0, .ref AT), (1, .int p1)]) hx hb dX8_counted_1 rfl hl (by decide) rfl (fun ls hl => ?_)
  refine lv_iconst (v := 0) hx hb dX8_counted_2 (by decide) ?_
  refine lv_istore_n (lv' := [(3, .int 0), (2, .int 0), (0, .ref AT), (1, .int p1)]) hx hb dX8_counted_3 rfl hl (by decide) rfl (fun ls hl => ?_)
  exact hL_4 FU 0 0 H locs ls hm hP hD hS (lv_sub hl [0, 1, 2, 3] rfl)
theorem mb_X8_count : q_mb yX8_count cX8_count 2 (some .int) 1 := ⟨wc_X8_count, wn_X8, by decide, by decide, by decide +kernel⟩
theorem mv_X8_count : q_mv yX8_count 8 := ⟨wi_X8_count, ws_X8_count, _, rfl, rfl⟩
def wd_X8_count (cI cZ : ClassId) (AT AT_al AT_kp AT_ik AT_rf AT_hd AT_bs AT_se AT_bf AT_te AT_by AT_an AT_vs : Nat) (vT_ab : Int64) (vT_be : Int64) (vT_byl : Int32) (vT_tka : Int32) (vT_tkl : Int32) (vT_tkn : Int32) (vT_val : Int32) (fT_rf : Nat → Int32) (fT_al : Nat → Int32) : va_W := [(AT, .inr (8, [.ref AT_al, .ref AT_kp, .ref AT_ik, .ref AT_rf, .long vT_ab, .long vT_be, .ref AT_hd, .ref AT_bs, .ref AT_se, .ref AT_bf, .ref AT_te, .ref AT_by, .int vT_byl, .int vT_tka, .int vT_tkl, .int vT_tkn, .int vT_val, .ref AT_an, .ref AT_vs])), (AT_rf, .inl (cI, 3, .inl fT_rf)), (AT_al, .inl (cI, 312, .inl fT_al))]
def fm_X8_count (p1 : Int32) (vT_byl : Int32) (fT_rf : Nat → Int32) (fT_al : Nat → Int32) : Option (Int32 × (Nat → Int32)) := Option.bind (fm_X8_in (Int32.toInt64 p1) 0 9) (fun r_6 => if r_6 = 0 then (Option.bind (fm_X8_bad (-2) fT_rf) (fun r_23 => some (r_23.1, r_23.2))) else (Option.bind (fm_X8_counted p1 vT_byl fT_al) (fun r_14 => some (r_14, fT_rf))))
set_option maxHeartbeats 4000000 in
set_option maxRecDepth 100000 in
theorem c_X8_count (l : Launch) (D : va_G) (cI cZ : ClassId) (sz : Nat) (AT AT_al AT_kp AT_ik AT_rf AT_hd AT_bs AT_se AT_bf AT_te AT_by AT_an AT_vs : Nat) (vT_ab : Int64) (vT_be : Int64) (vT_byl : Int32) (vT_tka : Int32) (vT_tkl : Int32) (vT_tkn : Int32) (vT_val : Int32) (fT_rf : Nat → Int32) (fT_al : Nat → Int32) (p1 : Int32) (out : (Int32 × (Nat → Int32))) (hm : fm_X8_count p1 vT_byl fT_rf fT_al = some out) : Met l yX8_count (Cond.code yX8_count cX8_count 2 (some .int) :: bg) { frames := 2, cells := 0, slots := 0, locals := 45 } (va_Pc [.ref AT, .int p1] (q_pre D cI cZ sz (wd_X8_count cI cZ AT AT_al AT_kp AT_ik AT_rf AT_hd AT_bs AT_se AT_bf AT_te AT_by AT_an AT_vs vT_ab vT_be vT_byl vT_tka vT_tkl vT_tkn vT_val fT_rf fT_al))) (q_Qi D (wd_X8_count cI cZ AT AT_al AT_kp AT_ik AT_rf AT_hd AT_bs AT_se AT_bf AT_te AT_by AT_an AT_vs vT_ab vT_be vT_byl vT_tka vT_tkl vT_tkn vT_val out.2 fT_al) out.1 (va_A (wd_X8_count cI cZ AT AT_al AT_kp AT_ik AT_rf AT_hd AT_bs AT_se AT_bf AT_te AT_by AT_an AT_vs vT_ab vT_be vT_byl vT_tka vT_tkl vT_tkn vT_val fT_rf fT_al) sz)) 0 0 (va_A (wd_X8_count cI cZ AT AT_al AT_kp AT_ik AT_rf AT_hd AT_bs AT_se AT_bf AT_te AT_by AT_an AT_vs vT_ab vT_be vT_byl vT_tka vT_tkl vT_tkn vT_val fT_rf fT_al) sz) := by
  refine q_met (fun A => q_Qi D (wd_X8_count cI cZ AT AT_al AT_kp AT_ik AT_rf AT_hd AT_bs AT_se AT_bf AT_te AT_by AT_an AT_vs vT_ab vT_be vT_byl vT_tka vT_tkl vT_tkn vT_val out.2 fT_al) out.1 A) (by decide) (Nat.le_of_ble_eq_true rfl) ?_
  intro p e s m below meth c ls A hx hb hr hml hown hts hlocks _ hA hS hP hD hK hN hl
  have hown : s.vm.findClass RX8 = some m.cls := hown
  have hl : lv_has ls 2 [(0, .ref AT), (1, .int p1)] := hl
  unfold fm_X8_count at hm
  refine q_gen hS hP ?_
  intro H locs hP hS
  refine lv_iload_n hx hb dX8_count_0 rfl (lv_at hl 1 rfl) ?_
  refine lv_i2l (v := (Int32.toInt64 p1)) hx hb dX8_count_1 rfl ?_
  refine lv_lconst (v := 0) hx hb dX8_count_2 (by decide) ?_
  refine lv_ldc2 (v := 9) hx hb hown (hts _ wv_X8_65) dX8_count_3 ?_
  obtain ⟨r_6, hc_6, hm⟩ := ob_s hm
  refine q_ci (q_rs (rest := []) ⟨hx, hb, hml, hown, hts⟩ hK hN hP hD (c_X8_in l D cI cZ H.size (Int32.toInt64 p1) 0 9 r_6 hc_6) mb_X8_in wt_X8_in wl_X8_59 [] rfl rfl (Nat.le_of_ble_eq_true rfl) (Nat.le_of_ble_eq_true rfl) rfl hl.1 rfl (Nat.le_of_ble_eq_true rfl) ⟨Nat.le_refl 0, Nat.le_refl 0⟩ dX8_count_6) hP hD hS hA [] rfl rfl (fun H locs hP hD hS => ?_)
  have hP : va_P D vwCl (wd_X8_count cI cZ AT AT_al AT_kp AT_ik AT_rf AT_hd AT_bs AT_se AT_bf AT_te AT_by AT_an AT_vs vT_ab vT_be vT_byl vT_tka vT_tkl vT_tkn vT_val fT_rf fT_al) H := hP
  have hD : va_D A (wd_X8_count cI cZ AT AT_al AT_kp AT_ik AT_rf AT_hd AT_bs AT_se AT_bf AT_te AT_by AT_an AT_vs vT_ab vT_be vT_byl vT_tka vT_tkl vT_tkn vT_val fT_rf fT_al) := hD
  refine lv_if_eq (tgt := 20) hx hb dX8_count_9 (by decide) (fun c_9 => ?_) (fun c_9 => ?_)
  · have hm := it_s c_9 hm
    refine lv_aload_n hx hb dX8_count_20 rfl (lv_at hl 0 rfl) ?_
    refine lv_bipush (v := (-2)) hx hb dX8_count_21 (by decide) ?_
    obtain ⟨r_23, hc_23, hm⟩ := ob_s hm
    refine q_ci (q_rv (rest := []) ⟨hx, hb, hml, hown, hts⟩ hK hN hP hD (c_X8_bad l D cI cZ H.size AT AT_al AT_kp AT_ik AT_rf AT_hd AT_bs AT_se AT_bf AT_te AT_by AT_an AT_vs vT_ab vT_be vT_byl vT_tka vT_tkl vT_tkn vT_val fT_rf (-2) r_23 hc_23) mb_X8_bad mv_X8_bad wl_X8_75 [0, 1] rfl rfl rfl (Nat.le_of_ble_eq_true rfl) (Nat.le_of_ble_eq_true rfl) rfl hl.1 rfl (Nat.le_of_ble_eq_true rfl) ⟨Nat.le_refl 0, Nat.le_refl 0⟩ dX8_count_23) hP hD hS hA [0, 1] rfl rfl (fun H locs hP hD hS => ?_)
    have hP : va_P D vwCl (wd_X8_count cI cZ AT AT_al AT_kp AT_ik AT_rf AT_hd AT_bs AT_se AT_bf AT_te AT_by AT_an AT_vs vT_ab vT_be vT_byl vT_tka vT_tkl vT_tkn vT_val r_23.2 fT_al) H := hP
    have hD : va_D A (wd_X8_count cI cZ AT AT_al AT_kp AT_ik AT_rf AT_hd AT_bs AT_se AT_bf AT_te AT_by AT_an AT_vs vT_ab vT_be vT_byl vT_tka vT_tkl vT_tkn vT_val r_23.2 fT_al) := hD
    have hm := Option.some.inj hm
    subst hm
    exact q_iret (v := r_23.1) hx hb hr hlocks hP hS dX8_count_26
  · have hm := it_n c_9 hm
    refine lv_aload_n hx hb dX8_count_12 rfl (lv_at hl 0 rfl) ?_
    refine lv_iload_n hx hb dX8_count_13 rfl (lv_at hl 1 rfl) ?_
    obtain ⟨r_14, hc_14, hm⟩ := ob_s hm
    refine q_ci (q_rv (rest := []) ⟨hx, hb, hml, hown, hts⟩ hK hN hP hD (c_X8_counted l D cI cZ H.size AT AT_al AT_kp AT_ik AT_rf AT_hd AT_bs AT_se AT_bf AT_te AT_by AT_an AT_vs vT_ab vT_be vT_byl vT_tka vT_tkl vT_tkn vT_val fT_al p1 r_14 hc_14) mb_X8_counted mv_X8_counted wl_X8_283 [0, 2] rfl rfl rfl (Nat.le_of_ble_eq_true rfl) (Nat.le_of_ble_eq_true rfl) rfl hl.1 rfl (Nat.le_of_ble_eq_true rfl) ⟨Nat.le_refl 0, Nat.le_refl 0⟩ dX8_count_14) hP hD hS hA [0, 2] rfl rfl (fun H locs hP hD hS => ?_)
    have hP : va_P D vwCl (wd_X8_count cI cZ AT AT_al AT_kp AT_ik AT_rf AT_hd AT_bs AT_se AT_bf AT_te AT_by AT_an AT_vs vT_ab vT_be vT_byl vT_tka vT_tkl vT_tkn vT_val fT_rf fT_al) H := hP
    have hD : va_D A (wd_X8_count cI cZ AT AT_al AT_kp AT_ik AT_rf AT_hd AT_bs AT_se AT_bf AT_te AT_by AT_an AT_vs vT_ab vT_be vT_byl vT_tka vT_tkl vT_tkn vT_val fT_rf fT_al) := hD
    refine lv_goto (tgt := 26) hx hb dX8_count_17 (by decide) ?_
    have hm := Option.some.inj hm
    subst hm
    exact q_iret (v := r_14) hx hb hr hlocks hP hS dX8_count_26
theorem mb_X8_sums : q_mb yX8_sums cX8_sums 8 (some .long) 3 := ⟨wc_X8_sums, wn_X8, by decide, by decide, by decide +kernel⟩
theorem mv_X8_sums : q_mv yX8_sums 8 := ⟨wi_X8_sums, ws_X8_sums, _, rfl, rfl⟩
def wd_X8_sums (cI cZ : ClassId) (AT AT_al AT_kp AT_ik AT_rf AT_hd AT_bs AT_se AT_bf AT_te AT_by AT_an AT_vs : Nat) (vT_ab : Int64) (vT_be : Int64) (vT_byl : Int32) (vT_tka : Int32) (vT_tkl : Int32) (vT_tkn : Int32) (vT_val : Int32) (fT_al : Nat → Int32) : va_W := [(AT, .inr (8, [.ref AT_al, .ref AT_kp, .ref AT_ik, .ref AT_rf, .long vT_ab, .long vT_be, .ref AT_hd, .ref AT_bs, .ref AT_se, .ref AT_bf, .ref AT_te, .ref AT_by, .int vT_byl, .int vT_tka, .int vT_tkl, .int vT_tkn, .int vT_val, .ref AT_an, .ref AT_vs])), (AT_al, .inl (cI, 312, .inl fT_al))]
def fL_X8_sums_6 (p1 : Int64) (p3 : Int32) (p4 : Int32) (fT_al : Nat → Int32) : Nat → Int32 → Int64 → Option (Int64)
  | 0, _, _ => none
  | fu + 1, x7, x5 => if p4 ≤ x7 then (some (x5)) else (gd (p3 + x7) 312 (fL_X8_sums_6 p1 p3 p4 fT_al fu (x7 + 1) ((31 * x5) + (Int32.toInt64 (fT_al (Int32.toNatClampNeg (p3 + x7)))))))
def fm_X8_sums (p1 : Int64) (p3 : Int32) (p4 : Int32) (fT_al : Nat → Int32) : Option (Int64) := fL_X8_sums_6 p1 p3 p4 fT_al FU 0 p1
set_option maxHeartbeats 4000000 in
set_option maxRecDepth 100000 in
theorem c_X8_sums (l : Launch) (D : va_G) (cI cZ : ClassId) (sz : Nat) (AT AT_al AT_kp AT_ik AT_rf AT_hd AT_bs AT_se AT_bf AT_te AT_by AT_an AT_vs : Nat) (vT_ab : Int64) (vT_be : Int64) (vT_byl : Int32) (vT_tka : Int32) (vT_tkl : Int32) (vT_tkn : Int32) (vT_val : Int32) (fT_al : Nat → Int32) (p1 : Int64) (p3 : Int32) (p4 : Int32) (out : (Int64)) (hm : fm_X8_sums p1 p3 p4 fT_al = some out) : Met l yX8_sums (Cond.code yX8_sums cX8_sums 8 (some .long) :: bg) { frames := 0, cells := 0, slots := 0, locals := 0 } (va_Pc [.ref AT, .long p1, .int p3, .int p4] (q_pre D cI cZ sz (wd_X8_sums cI cZ AT AT_al AT_kp AT_ik AT_rf AT_hd AT_bs AT_se AT_bf AT_te AT_by AT_an AT_vs vT_ab vT_be vT_byl vT_tka vT_tkl vT_tkn vT_val fT_al))) (q_Ql D (wd_X8_sums cI cZ AT AT_al AT_kp AT_ik AT_rf AT_hd AT_bs AT_se AT_bf AT_te AT_by AT_an AT_vs vT_ab vT_be vT_byl vT_tka vT_tkl vT_tkn vT_val fT_al) out (va_A (wd_X8_sums cI cZ AT AT_al AT_kp AT_ik AT_rf AT_hd AT_bs AT_se AT_bf AT_te AT_by AT_an AT_vs vT_ab vT_be vT_byl vT_tka vT_tkl vT_tkn vT_val fT_al) sz)) 0 0 (va_A (wd_X8_sums cI cZ AT AT_al AT_kp AT_ik AT_rf AT_hd AT_bs AT_se AT_bf AT_te AT_by AT_an AT_vs vT_ab vT_be vT_byl vT_tka vT_tkl vT_tkn vT_val fT_al) sz) := by
  refine q_met (fun A => q_Ql D (wd_X8_sums cI cZ AT AT_al AT_kp AT_ik AT_rf AT_hd AT_bs AT_se AT_bf AT_te AT_by AT_an AT_vs vT_ab vT_be vT_byl vT_tka vT_tkl vT_tkn vT_val fT_al) out A) (by decide) (Nat.le_of_ble_eq_true rfl) ?_
  intro p e s m below meth c ls A hx hb hr hml hown hts hlocks _ hA hS hP hD hK hN hl
  have hown : s.vm.findClass RX8 = some m.cls := hown
  have hl : lv_has ls 8 [(0, .ref AT), (1, .long p1), (3, .int p3), (4, .int p4)] := hl
  have hL_6 : ∀ (fu_6 : Nat) (x7 : Int32) (x5 : Int64) (H : Heap) (locs : List Loc) (ls : Array Slot), fL_X8_sums_6 p1 p3 p4 fT_al fu_6 x7 x5 = some out → va_P D vwCl (wd_X8_sums cI cZ AT AT_al AT_kp AT_ik AT_rf AT_hd AT_bs AT_se AT_bf AT_te AT_by AT_an AT_vs vT_ab vT_be vT_byl vT_tka vT_tkl vT_tkn vT_val fT_al) H → va_D A (wd_X8_sums cI cZ AT AT_al AT_kp AT_ik AT_rf AT_hd AT_bs AT_se AT_bf AT_te AT_by AT_an AT_vs vT_ab vT_be vT_byl vT_tka vT_tkl vT_tkn vT_val fT_al) → va_S A s.heap H locs → lv_has ls 8 [(7, .int x7), (5, .long x5), (0, .ref AT), (3, .int p3), (4, .int p4)] → W p l e { frames := 0, cells := 0, slots := 0, locals := 0 } s m ([.ref AT, .long p1, .int p3, .int p4] : List Value).toArray below meth c H locs 0 0 (MQ below (q_Ql D (wd_X8_sums cI cZ AT AT_al AT_kp AT_ik AT_rf AT_hd AT_bs AT_se AT_bf AT_te AT_by AT_an AT_vs vT_ab vT_be vT_byl vT_tka vT_tkl vT_tkn vT_val fT_al) out A) ([.ref AT, .long p1, .int p3, .int p4] : List Value).toArray s 0 0 A) (F0 m 6 ls []) := by
    intro fu_6
    induction fu_6 with
    | zero => intro x7 x5 H locs ls hm hP hD hS hl; exact absurd (show (none : Option (Int64)) = some out from hm) (fun h => nomatch h)
    | succ fu_6 ih_6 =>
      intro x7 x5 H locs ls hm hP hD hS hl
      rw [fL_X8_sums_6] at hm
      refine lv_iload hx hb dX8_sums_6 (lv_at hl 0 rfl) ?_
      refine lv_iload hx hb dX8_sums_8 (lv_at hl 4 rfl) ?_
      refine lv_icmp_ge (tgt := 38) hx hb dX8_sums_10 (by decide) (fun c_10 => ?_) (fun c_10 => ?_)
      · have hm := it_s c_10 hm
        refine lv_lload hx hb dX8_sums_38 (lv_at hl 1 rfl) ?_
        have hm := Option.some.inj hm
        subst hm
        exact q_lret (v := x5) hx hb hr hlocks hP hS dX8_sums_40
      · have hm := it_n c_10 hm
        refine lv_ldc2 (v := 31) hx hb hown (hts _ wv_X8_286) dX8_sums_13 ?_
        refine lv_lload hx hb dX8_sums_16 (lv_at hl 1 rfl) ?_
        refine lv_lmul hx hb dX8_sums_18 ?_
        refine lv_aload_n hx hb dX8_sums_19 rfl (lv_at hl 2 rfl) ?_
        refine gf_X8_7 (v := .ref AT_al) hx hb hts hown hK hN hP 0 rfl rfl dX8_sums_20 ?_
        refine lv_iload_n hx hb dX8_sums_23 rfl (lv_at hl 3 rfl) ?_
        refine lv_iload hx hb dX8_sums_24 (lv_at hl 0 rfl) ?_
        refine lv_iadd hx hb dX8_sums_26 ?_
        obtain ⟨hi_27, hm⟩ := gd_s hm
        refine q_iald (j := (Int32.toNatClampNeg (p3 + x7))) hx hb hK hP 1 rfl hi_27 rfl dX8_sums_27 ?_
        refine lv_i2l (v := (Int32.toInt64 (fT_al (Int32.toNatClampNeg (p3 + x7))))) hx hb dX8_sums_28 rfl ?_
        refine lv_ladd hx hb dX8_sums_29 ?_
        refine lv_lstore (lv' := [(5, .long ((31 * x5) + (Int32.toInt64 (fT_al (Int32.toNatClampNeg (p3 + x7)))))), (7, .int x7), (0, .ref AT), (3, .int p3), (4, .int p4)]) hx hb dX8_sums_30 hl (by decide) rfl (fun ls hl => ?_)
        refine lv_iinc (v := (x7 + 1)) (lv' := [(7, .int (x7 + 1)), (5, .long ((31 * x5) + (Int32.toInt64 (fT_al (Int32.toNatClampNeg (p3 + x7)))))), (0, .ref AT), (3, .int p3), (4, .int p4)]) hx hb dX8_sums_32 hl (k := 1) rfl rfl (by decide) rfl (fun ls hl => ?_)
        refine lv_goto (tgt := 6) hx hb dX8_sums_35 (by decide) ?_
        exact ih_6 (x7 + 1) ((31 * x5) + (Int32.toInt64 (fT_al (Int32.toNatClampNeg (p3 + x7))))) H locs ls hm hP hD hS (lv_sub hl [0, 1, 2, 3, 4] rfl)
  unfold fm_X8_sums at hm
  refine q_gen hS hP ?_
  intro H locs hP hS
  refine lv_lload_n hx hb dX8_sums_0 rfl (lv_at hl 1 rfl) ?_
  refine lv_lstore (lv' := [(5, .long p1), (0, .ref AT), (1, .long p1), (3, .int p3), (4, .int p4)]) hx hb dX8_sums_1 hl (by decide) rfl (fun ls hl => ?_)
  refine lv_iconst (v := 0) hx hb dX8_sums_3 (by decide) ?_
  refine lv_istore (lv' := [(7, .int 0), (5, .long p1), (0, .ref AT), (1, .long p1), (3, .int p3), (4, .int p4)]) hx hb dX8_sums_4 hl (by decide) rfl (fun ls hl => ?_)
  exact hL_6 FU 0 p1 H locs ls hm hP hD hS (lv_sub hl [0, 1, 2, 4, 5] rfl)
theorem mb_X8_digest : q_mb yX8_digest cX8_digest 4 (some .long) 0 := ⟨wc_X8_digest, wn_X8, by decide, by decide, by decide +kernel⟩
theorem mv_X8_digest : q_mv yX8_digest 8 := ⟨wi_X8_digest, ws_X8_digest, _, rfl, rfl⟩
def wd_X8_digest (cI cZ : ClassId) (AT AT_al AT_kp AT_ik AT_rf AT_hd AT_bs AT_se AT_bf AT_te AT_by AT_an AT_vs : Nat) (vT_ab : Int64) (vT_be : Int64) (vT_byl : Int32) (vT_tka : Int32) (vT_tkl : Int32) (vT_tkn : Int32) (vT_val : Int32) (fT_al : Nat → Int32) : va_W := [(AT, .inr (8, [.ref AT_al, .ref AT_kp, .ref AT_ik, .ref AT_rf, .long vT_ab, .long vT_be, .ref AT_hd, .ref AT_bs, .ref AT_se, .ref AT_bf, .ref AT_te, .ref AT_by, .int vT_byl, .int vT_tka, .int vT_tkl, .int vT_tkn, .int vT_val, .ref AT_an, .ref AT_vs])), (AT_al, .inl (cI, 312, .inl fT_al))]
def fL_X8_digest_113 (vT_ab : Int64) (vT_be : Int64) (vT_byl : Int32) (fT_al : Nat → Int32) : Nat → Int32 → Int64 → Option (Int64)
  | 0, _, _ => none
  | fu + 1, x3, x1 => if (fT_al 1) ≤ x3 then (Option.bind (fm_X8_sums x1 49 (3 * (fT_al 2)) fT_al) (fun r_188 => Option.bind (fm_X8_sums r_188 64 (4 * (fT_al 3)) fT_al) (fun r_204 => Option.bind (fm_X8_sums r_204 88 (4 * (fT_al 4)) fT_al) (fun r_220 => some (((31 * ((31 * r_220) + vT_ab)) + vT_be)))))) else (gd (37 + x3) 312 (gd (43 + x3) 312 (gd (24 + x3) 312 (fL_X8_digest_113 vT_ab vT_be vT_byl fT_al fu (x3 + 1) ((31 * ((31 * ((31 * x1) + (Int32.toInt64 (fT_al (Int32.toNatClampNeg (37 + x3)))))) + (Int32.toInt64 (fT_al (Int32.toNatClampNeg (43 + x3)))))) + (Int32.toInt64 (fT_al (Int32.toNatClampNeg (24 + x3)))))))))
def fL_X8_digest_33 (vT_ab : Int64) (vT_be : Int64) (vT_byl : Int32) (fT_al : Nat → Int32) : Nat → Int32 → Int64 → Option (Int64)
  | 0, _, _ => none
  | fu + 1, x3, x1 => Option.bind (fm_X8_many fT_al) (fun r_35 => if r_35 ≤ x3 then (fL_X8_digest_113 vT_ab vT_be vT_byl fT_al FU 0 x1) else (gd (31 + x3) 312 (gd (6 + x3) 312 (gd (12 + x3) 312 (gd (18 + x3) 312 (fL_X8_digest_33 vT_ab vT_be vT_byl fT_al fu (x3 + 1) ((31 * ((31 * ((31 * ((31 * x1) + (Int32.toInt64 (fT_al (Int32.toNatClampNeg (31 + x3)))))) + (Int32.toInt64 (fT_al (Int32.toNatClampNeg (6 + x3)))))) + (Int32.toInt64 (fT_al (Int32.toNatClampNeg (12 + x3)))))) + (Int32.toInt64 (fT_al (Int32.toNatClampNeg (18 + x3)))))))))))
def fL_X8_digest_6 (vT_ab : Int64) (vT_be : Int64) (vT_byl : Int32) (fT_al : Nat → Int32) : Nat → Int32 → Int64 → Option (Int64)
  | 0, _, _ => none
  | fu + 1, x3, x1 => if 10 ≤ x3 then (fL_X8_digest_33 vT_ab vT_be vT_byl fT_al FU 0 x1) else (Option.bind (fm_X8_counted x3 vT_byl fT_al) (fun r_19 => fL_X8_digest_6 vT_ab vT_be vT_byl fT_al fu (x3 + 1) ((31 * x1) + (Int32.toInt64 r_19))))
def fm_X8_digest (vT_ab : Int64) (vT_be : Int64) (vT_byl : Int32) (fT_al : Nat → Int32) : Option (Int64) := fL_X8_digest_6 vT_ab vT_be vT_byl fT_al FU 0 1609
set_option maxHeartbeats 4000000 in
set_option maxRecDepth 100000 in
theorem c_X8_digest (l : Launch) (D : va_G) (cI cZ : ClassId) (sz : Nat) (AT AT_al AT_kp AT_ik AT_rf AT_hd AT_bs AT_se AT_bf AT_te AT_by AT_an AT_vs : Nat) (vT_ab : Int64) (vT_be : Int64) (vT_byl : Int32) (vT_tka : Int32) (vT_tkl : Int32) (vT_tkn : Int32) (vT_val : Int32) (fT_al : Nat → Int32) (out : (Int64)) (hm : fm_X8_digest vT_ab vT_be vT_byl fT_al = some out) : Met l yX8_digest (Cond.code yX8_digest cX8_digest 4 (some .long) :: bg) { frames := 2, cells := 0, slots := 0, locals := 45 } (va_Pc [.ref AT] (q_pre D cI cZ sz (wd_X8_digest cI cZ AT AT_al AT_kp AT_ik AT_rf AT_hd AT_bs AT_se AT_bf AT_te AT_by AT_an AT_vs vT_ab vT_be vT_byl vT_tka vT_tkl vT_tkn vT_val fT_al))) (q_Ql D (wd_X8_digest cI cZ AT AT_al AT_kp AT_ik AT_rf AT_hd AT_bs AT_se AT_bf AT_te AT_by AT_an AT_vs vT_ab vT_be vT_byl vT_tka vT_tkl vT_tkn vT_val fT_al) out (va_A (wd_X8_digest cI cZ AT AT_al AT_kp AT_ik AT_rf AT_hd AT_bs AT_se AT_bf AT_te AT_by AT_an AT_vs vT_ab vT_be vT_byl vT_tka vT_tkl vT_tkn vT_val fT_al) sz)) 0 0 (va_A (wd_X8_digest cI cZ AT AT_al AT_kp AT_ik AT_rf AT_hd AT_bs AT_se AT_bf AT_te AT_by AT_an AT_vs vT_ab vT_be vT_byl vT_tka vT_tkl vT_tkn vT_val fT_al) sz) := by
  refine q_met (fun A => q_Ql D (wd_X8_digest cI cZ AT AT_al AT_kp AT_ik AT_rf AT_hd AT_bs AT_se AT_bf AT_te AT_by AT_an AT_vs vT_ab vT_be vT_byl vT_tka vT_tkl vT_tkn vT_val fT_al) out A) (by decide) (Nat.le_of_ble_eq_true rfl) ?_
  intro p e s m below meth c ls A hx hb hr hml hown hts hlocks _ hA hS hP hD hK hN hl
  have hown : s.vm.findClass RX8 = some m.cls := hown
  have hl : lv_has ls 4 [(0, .ref AT)] := hl
  have hL_113 : ∀ (fu_113 : Nat) (x3 : Int32) (x1 : Int64) (H : Heap) (locs : List Loc) (ls : Array Slot), fL_X8_digest_113 vT_ab vT_be vT_byl fT_al fu_113 x3 x1 = some out → va_P D vwCl (wd_X8_digest cI cZ AT AT_al AT_kp AT_ik AT_rf AT_hd AT_bs AT_se AT_bf AT_te AT_by AT_an AT_vs vT_ab vT_be vT_byl vT_tka vT_tkl vT_tkn vT_val fT_al) H → va_D A (wd_X8_digest cI cZ AT AT_al AT_kp AT_ik AT_rf AT_hd AT_bs AT_se AT_bf AT_te AT_by AT_an AT_vs vT_ab vT_be vT_byl vT_tka vT_tkl vT_tkn vT_val fT_al) → va_S A s.heap H locs → lv_has ls 4 [(3, .int x3), (1, .long x1), (0, .ref AT)] → W p l e { frames := 2, cells := 0, slots := 0, locals := 45 } s m ([.ref AT] : List Value).toArray below meth c H locs 0 0 (MQ below (q_Ql D (wd_X8_digest cI cZ AT AT_al AT_kp AT_ik AT_rf AT_hd AT_bs AT_se AT_bf AT_te AT_by AT_an AT_vs vT_ab vT_be vT_byl vT_tka vT_tkl vT_tkn vT_val fT_al) out A) ([.ref AT] : List Value).toArray s 0 0 A) (F0 m 113 ls []) := by
    intro fu_113
    induction fu_113 with
    | zero => intro x3 x1 H locs ls hm hP hD hS hl; exact absurd (show (none : Option (Int64)) = some out from hm) (fun h => nomatch h)
    | succ fu_113 ih_113 =>
      intro x3 x1 H locs ls hm hP hD hS hl
      rw [fL_X8_digest_113] at hm
      refine lv_iload_n hx hb dX8_digest_113 rfl (lv_at hl 0 rfl) ?_
      refine lv_aload_n hx hb dX8_digest_114 rfl (lv_at hl 2 rfl) ?_
      refine gf_X8_7 (v := .ref AT_al) hx hb hts hown hK hN hP 0 rfl rfl dX8_digest_115 ?_
      refine lv_iconst (v := 1) hx hb dX8_digest_118 (by decide) ?_
      refine q_iald (j := 1) hx hb hK hP 1 rfl (q_inl (by decide)) (by decide) dX8_digest_119 ?_
      refine lv_icmp_ge (tgt := 176) hx hb dX8_digest_120 (by decide) (fun c_120 => ?_) (fun c_120 => ?_)
      · have hm := it_s c_120 hm
        refine lv_aload_n hx hb dX8_digest_176 rfl (lv_at hl 2 rfl) ?_
        refine lv_lload_n hx hb dX8_digest_177 rfl (lv_at hl 1 rfl) ?_
        refine lv_bipush (v := 49) hx hb dX8_digest_178 (by decide) ?_
        refine lv_iconst (v := 3) hx hb dX8_digest_180 (by decide) ?_
        refine lv_aload_n hx hb dX8_digest_181 rfl (lv_at hl 2 rfl) ?_
        refine gf_X8_7 (v := .ref AT_al) hx hb hts hown hK hN hP 0 rfl rfl dX8_digest_182 ?_
        refine lv_iconst (v := 2) hx hb dX8_digest_185 (by decide) ?_
        refine q_iald (j := 2) hx hb hK hP 1 rfl (q_inl (by decide)) (by decide) dX8_digest_186 ?_
        refine lv_imul hx hb dX8_digest_187 ?_
        obtain ⟨r_188, hc_188, hm⟩ := ob_s hm
        refine q_cl (q_rv (rest := []) ⟨hx, hb, hml, hown, hts⟩ hK hN hP hD (c_X8_sums l D cI cZ H.size AT AT_al AT_kp AT_ik AT_rf AT_hd AT_bs AT_se AT_bf AT_te AT_by AT_an AT_vs vT_ab vT_be vT_byl vT_tka vT_tkl vT_tkn vT_val fT_al x1 49 (3 * (fT_al 2)) r_188 hc_188) mb_X8_sums mv_X8_sums wl_X8_290 [0, 1] rfl rfl rfl (Nat.le_of_ble_eq_true rfl) (Nat.le_of_ble_eq_true rfl) rfl hl.1 rfl (Nat.le_of_ble_eq_true rfl) ⟨Nat.le_refl 0, Nat.le_refl 0⟩ dX8_digest_188) hP hD hS hA [0, 1] rfl rfl (fun H locs hP hD hS => ?_)
        have hP : va_P D vwCl (wd_X8_digest cI cZ AT AT_al AT_kp AT_ik AT_rf AT_hd AT_bs AT_se AT_bf AT_te AT_by AT_an AT_vs vT_ab vT_be vT_byl vT_tka vT_tkl vT_tkn vT_val fT_al) H := hP
        have hD : va_D A (wd_X8_digest cI cZ AT AT_al AT_kp AT_ik AT_rf AT_hd AT_bs AT_se AT_bf AT_te AT_by AT_an AT_vs vT_ab vT_be vT_byl vT_tka vT_tkl vT_tkn vT_val fT_al) := hD
        refine lv_lstore_n (lv' := [(1, .long r_188), (3, .int x3), (0, .ref AT)]) hx hb dX8_digest_191 rfl hl (by decide) rfl (fun ls hl => ?_)
        refine lv_aload_n hx hb dX8_digest_192 rfl (lv_at hl 2 rfl) ?_
        refine lv_lload_n hx hb dX8_digest_193 rfl (lv_at hl 0 rfl) ?_
        refine lv_bipush (v := 64) hx hb dX8_digest_194 (by decide) ?_
        refine lv_iconst (v := 4) hx hb dX8_digest_196 (by decide) ?_
        refine lv_aload_n hx hb dX8_digest_197 rfl (lv_at hl 2 rfl) ?_
        refine gf_X8_7 (v := .ref AT_al) hx hb hts hown hK hN hP 0 rfl rfl dX8_digest_198 ?_
        refine lv_iconst (v := 3) hx hb dX8_digest_201 (by decide) ?_
        refine q_iald (j := 3) hx hb hK hP 1 rfl (q_inl (by decide)) (by decide) dX8_digest_202 ?_
        refine lv_imul hx hb dX8_digest_203 ?_
        obtain ⟨r_204, hc_204, hm⟩ := ob_s hm
        refine q_cl (q_rv (rest := []) ⟨hx, hb, hml, hown, hts⟩ hK hN hP hD (c_X8_sums l D cI cZ H.size AT AT_al AT_kp AT_ik AT_rf AT_hd AT_bs AT_se AT_bf AT_te AT_by AT_an AT_vs vT_ab vT_be vT_byl vT_tka vT_tkl vT_tkn vT_val fT_al r_188 64 (4 * (fT_al 3)) r_204 hc_204) mb_X8_sums mv_X8_sums wl_X8_290 [0, 1] rfl rfl rfl (Nat.le_of_ble_eq_true rfl) (Nat.le_of_ble_eq_true rfl) rfl hl.1 rfl (Nat.le_of_ble_eq_true rfl) ⟨Nat.le_refl 0, Nat.le_refl 0⟩ dX8_digest_204) hP hD hS hA [0, 1] rfl rfl (fun H locs hP hD hS => ?_)
        have hP : va_P D vwCl (wd_X8_digest cI cZ AT AT_al AT_kp AT_ik AT_rf AT_hd AT_bs AT_se AT_bf AT_te AT_by AT_an AT_vs vT_ab vT_be vT_byl vT_tka vT_tkl vT_tkn vT_val fT_al) H := hP
        have hD : va_D A (wd_X8_digest cI cZ AT AT_al AT_kp AT_ik AT_rf AT_hd AT_bs AT_se AT_bf AT_te AT_by AT_an AT_vs vT_ab vT_be vT_byl vT_tka vT_tkl vT_tkn vT_val fT_al) := hD
        refine lv_lstore_n (lv' := [(1, .long r_204), (3, .int x3), (0, .ref AT)]) hx hb dX8_digest_207 rfl hl (by decide) rfl (fun ls hl => ?_)
        refine lv_aload_n hx hb dX8_digest_208 rfl (lv_at hl 2 rfl) ?_
        refine lv_lload_n hx hb dX8_digest_209 rfl (lv_at hl 0 rfl) ?_
        refine lv_bipush (v := 88) hx hb dX8_digest_210 (by decide) ?_
        refine lv_iconst (v := 4) hx hb dX8_digest_212 (by decide) ?_
        refine lv_aload_n hx hb dX8_digest_213 rfl (lv_at hl 2 rfl) ?_
        refine gf_X8_7 (v := .ref AT_al) hx hb hts hown hK hN hP 0 rfl rfl dX8_digest_214 ?_
        refine lv_iconst (v := 4) hx hb dX8_digest_217 (by decide) ?_
        refine q_iald (j := 4) hx hb hK hP 1 rfl (q_inl (by decide)) (by decide) dX8_digest_218 ?_
        refine lv_imul hx hb dX8_digest_219 ?_
        obtain ⟨r_220, hc_220, hm⟩ := ob_s hm
        refine q_cl (q_rv (rest := []) ⟨hx, hb, hml, hown, hts⟩ hK hN hP hD (c_X8_sums l D cI cZ H.size AT AT_al AT_kp AT_ik AT_rf AT_hd AT_bs AT_se AT_bf AT_te AT_by AT_an AT_vs vT_ab vT_be vT_byl vT_tka vT_tkl vT_tkn vT_val fT_al r_204 88 (4 * (fT_al 4)) r_220 hc_220) mb_X8_sums mv_X8_sums wl_X8_290 [0, 1] rfl rfl rfl (Nat.le_of_ble_eq_true rfl) (Nat.le_of_ble_eq_true rfl) rfl hl.1 rfl (Nat.le_of_ble_eq_true rfl) ⟨Nat.le_refl 0, Nat.le_refl 0⟩ dX8_digest_220) hP hD hS hA [0, 1] rfl rfl (fun H locs hP hD hS => ?_)
        have hP : va_P D vwCl (wd_X8_digest cI cZ AT AT_al AT_kp AT_ik AT_rf AT_hd AT_bs AT_se AT_bf AT_te AT_by AT_an AT_vs vT_ab vT_be vT_byl vT_tka vT_tkl vT_tkn vT_val fT_al) H := hP
        have hD : va_D A (wd_X8_digest cI cZ AT AT_al AT_kp AT_ik AT_rf AT_hd AT_bs AT_se AT_bf AT_te AT_by AT_an AT_vs vT_ab vT_be vT_byl vT_tka vT_tkl vT_tkn vT_val fT_al) := hD
        refine lv_lstore_n (lv' := [(1, .long r_220), (3, .int x3), (0, .ref AT)]) hx hb dX8_digest_223 rfl hl (by decide) rfl (fun ls hl => ?_)
        refine lv_ldc2 (v := 31) hx hb hown (hts _ wv_X8_286) dX8_digest_224 ?_
        refine lv_ldc2 (v := 31) hx hb hown (hts _ wv_X8_286) dX8_digest_227 ?_
        refine lv_lload_n hx hb dX8_digest_230 rfl (lv_at hl 0 rfl) ?_
        refine lv_lmul hx hb dX8_digest_231 ?_
        refine lv_aload_n hx hb dX8_digest_232 rfl (lv_at hl 2 rfl) ?_
        refine gf_X8_195 (v := .long vT_ab) hx hb hts hown hK hN hP 0 rfl rfl dX8_digest_233 ?_
        refine lv_ladd hx hb dX8_digest_236 ?_
        refine lv_lmul hx hb dX8_digest_237 ?_
        refine lv_aload_n hx hb dX8_digest_238 rfl (lv_at hl 2 rfl) ?_
        refine gf_X8_23 (v := .long vT_be) hx hb hts hown hK hN hP 0 rfl rfl dX8_digest_239 ?_
        refine lv_ladd hx hb dX8_digest_242 ?_
        have hm := Option.some.inj hm
        subst hm
        exact q_lret (v := ((31 * ((31 * r_220) + vT_ab)) + vT_be)) hx hb hr hlocks hP hS dX8_digest_243
      · have hm := it_n c_120 hm
        refine lv_ldc2 (v := 31) hx hb hown (hts _ wv_X8_286) dX8_digest_123 ?_
        refine lv_ldc2 (v := 31) hx hb hown (hts _ wv_X8_286) dX8_digest_126 ?_
        refine lv_ldc2 (v := 31) hx hb hown (hts _ wv_X8_286) dX8_digest_129 ?_
        refine lv_lload_n hx hb dX8_digest_132 rfl (lv_at hl 1 rfl) ?_
        refine lv_lmul hx hb dX8_digest_133 ?_
        refine lv_aload_n hx hb dX8_digest_134 rfl (lv_at hl 2 rfl) ?_
        refine gf_X8_7 (v := .ref AT_al) hx hb hts hown hK hN hP 0 rfl rfl dX8_digest_135 ?_
        refine lv_bipush (v := 37) hx hb dX8_digest_138 (by decide) ?_
        refine lv_iload_n hx hb dX8_digest_140 rfl (lv_at hl 0 rfl) ?_
        refine lv_iadd hx hb dX8_digest_141 ?_
        obtain ⟨hi_142, hm⟩ := gd_s hm
        refine q_iald (j := (Int32.toNatClampNeg (37 + x3))) hx hb hK hP 1 rfl hi_142 rfl dX8_digest_142 ?_
        refine lv_i2l (v := (Int32.toInt64 (fT_al (Int32.toNatClampNeg (37 + x3))))) hx hb dX8_digest_143 rfl ?_
        refine lv_ladd hx hb dX8_digest_144 ?_
        refine lv_lmul hx hb dX8_digest_145 ?_
        refine lv_aload_n hx hb dX8_digest_146 rfl (lv_at hl 2 rfl) ?_
        refine gf_X8_7 (v := .ref AT_al) hx hb hts hown hK hN hP 0 rfl rfl dX8_digest_147 ?_
        refine lv_bipush (v := 43) hx hb dX8_digest_150 (by decide) ?_
        refine lv_iload_n hx hb dX8_digest_152 rfl (lv_at hl 0 rfl) ?_
        refine lv_iadd hx hb dX8_digest_153 ?_
        obtain ⟨hi_154, hm⟩ := gd_s hm
        refine q_iald (j := (Int32.toNatClampNeg (43 + x3))) hx hb hK hP 1 rfl hi_154 rfl dX8_digest_154 ?_
        refine lv_i2l (v := (Int32.toInt64 (fT_al (Int32.toNatClampNeg (43 + x3))))) hx hb dX8_digest_155 rfl ?_
        refine lv_ladd hx hb dX8_digest_156 ?_
        refine lv_lmul hx hb dX8_digest_157 ?_
        refine lv_aload_n hx hb dX8_digest_158 rfl (lv_at hl 2 rfl) ?_
        refine gf_X8_7 (v := .ref AT_al) hx hb hts hown hK hN hP 0 rfl rfl dX8_digest_159 ?_
        refine lv_bipush (v := 24) hx hb dX8_digest_162 (by decide) ?_
        refine lv_iload_n hx hb dX8_digest_164 rfl (lv_at hl 0 rfl) ?_
        refine lv_iadd hx hb dX8_digest_165 ?_
        obtain ⟨hi_166, hm⟩ := gd_s hm
        refine q_iald (j := (Int32.toNatClampNeg (24 + x3))) hx hb hK hP 1 rfl hi_166 rfl dX8_digest_166 ?_
        refine lv_i2l (v := (Int32.toInt64 (fT_al (Int32.toNatClampNeg (24 + x3))))) hx hb dX8_digest_167 rfl ?_
        refine lv_ladd hx hb dX8_digest_168 ?_
        refine lv_lstore_n (lv' := [(1, .long ((31 * ((31 * ((31 * x1) + (Int32.toInt64 (fT_al (Int32.toNatClampNeg (37 + x3)))))) + (Int32.toInt64 (fT_al (Int32.toNatClampNeg (43 + x3)))))) + (Int32.toInt64 (fT_al (Int32.toNatClampNeg (24 + x3)))))), (3, .int x3), (0, .ref AT)]) hx hb dX8_digest_169 rfl hl (by decide) rfl (fun ls hl => ?_)
        refine lv_iinc (v := (x3 + 1)) (lv' := [(3, .int (x3 + 1)), (1, .long ((31 * ((31 * ((31 * x1) + (Int32.toInt64 (fT_al (Int32.toNatClampNeg (37 + x3)))))) + (Int32.toInt64 (fT_al (Int32.toNatClampNeg (43 + x3)))))) + (Int32.toInt64 (fT_al (Int32.toNatClampNeg (24 + x3)))))), (0, .ref AT)]) hx hb dX8_digest_170 hl (k := 1) rfl rfl (by decide) rfl (fun ls hl => ?_)
        refine lv_goto (tgt := 113) hx hb dX8_digest_173 (by decide) ?_
        exact ih_113 (x3 + 1) ((31 * ((31 * ((31 * x1) + (Int32.toInt64 (fT_al (Int32.toNatClampNeg (37 + x3)))))) + (Int32.toInt64 (fT_al (Int32.toNatClampNeg (43 + x3)))))) + (Int32.toInt64 (fT_al (Int32.toNatClampNeg (24 + x3))))) H locs ls hm hP hD hS (lv_sub hl [0, 1, 2] rfl)
  have hL_33 : ∀ (fu_33 : Nat) (x3 : Int32) (x1 : Int64) (H : Heap) (locs : List Loc) (ls : Array Slot), fL_X8_digest_33 vT_ab vT_be vT_byl fT_al fu_33 x3 x1 = some out → va_P D vwCl (wd_X8_digest cI cZ AT AT_al AT_kp AT_ik AT_rf AT_hd AT_bs AT_se AT_bf AT_te AT_by AT_an AT_vs vT_ab vT_be vT_byl vT_tka vT_tkl vT_tkn vT_val fT_al) H → va_D A (wd_X8_digest cI cZ AT AT_al AT_kp AT_ik AT_rf AT_hd AT_bs AT_se AT_bf AT_te AT_by AT_an AT_vs vT_ab vT_be vT_byl vT_tka vT_tkl vT_tkn vT_val fT_al) → va_S A s.heap H locs → lv_has ls 4 [(3, .int x3), (1, .long x1), (0, .ref AT)] → W p l e { frames := 2, cells := 0, slots := 0, locals := 45 } s m ([.ref AT] : List Value).toArray below meth c H locs 0 0 (MQ below (q_Ql D (wd_X8_digest cI cZ AT AT_al AT_kp AT_ik AT_rf AT_hd AT_bs AT_se AT_bf AT_te AT_by AT_an AT_vs vT_ab vT_be vT_byl vT_tka vT_tkl vT_tkn vT_val fT_al) out A) ([.ref AT] : List Value).toArray s 0 0 A) (F0 m 33 ls []) := by
    intro fu_33
    induction fu_33 with
    | zero => intro x3 x1 H locs ls hm hP hD hS hl; exact absurd (show (none : Option (Int64)) = some out from hm) (fun h => nomatch h)
    | succ fu_33 ih_33 =>
      intro x3 x1 H locs ls hm hP hD hS hl
      rw [fL_X8_digest_33] at hm
      refine lv_iload_n hx hb dX8_digest_33 rfl (lv_at hl 0 rfl) ?_
      refine lv_aload_n hx hb dX8_digest_34 rfl (lv_at hl 2 rfl) ?_
      obtain ⟨r_35, hc_35, hm⟩ := ob_s hm
      refine q_ci (q_rv (rest := [.int x3]) ⟨hx, hb, hml, hown, hts⟩ hK hN hP hD (c_X8_many l D cI cZ H.size AT AT_al AT_kp AT_ik AT_rf AT_hd AT_bs AT_se AT_bf AT_te AT_by AT_an AT_vs vT_ab vT_be vT_byl vT_tka vT_tkl vT_tkn vT_val fT_al r_35 hc_35) mb_X8_many mv_X8_many wl_X8_55 [0, 1] rfl rfl rfl (Nat.le_of_ble_eq_true rfl) (Nat.le_of_ble_eq_true rfl) rfl hl.1 rfl (Nat.le_of_ble_eq_true rfl) ⟨Nat.le_refl 0, Nat.le_refl 0⟩ dX8_digest_35) hP hD hS hA [0, 1] rfl rfl (fun H locs hP hD hS => ?_)
      have hP : va_P D vwCl (wd_X8_digest cI cZ AT AT_al AT_kp AT_ik AT_rf AT_hd AT_bs AT_se AT_bf AT_te AT_by AT_an AT_vs vT_ab vT_be vT_byl vT_tka vT_tkl vT_tkn vT_val fT_al) H := hP
      have hD : va_D A (wd_X8_digest cI cZ AT AT_al AT_kp AT_ik AT_rf AT_hd AT_bs AT_se AT_bf AT_te AT_by AT_an AT_vs vT_ab vT_be vT_byl vT_tka vT_tkl vT_tkn vT_val fT_al) := hD
      refine lv_icmp_ge (tgt := 111) hx hb dX8_digest_38 (by decide) (fun c_38 => ?_) (fun c_38 => ?_)
      · have hm := it_s c_38 hm
        refine lv_iconst (v := 0) hx hb dX8_digest_111 (by decide) ?_
        refine lv_istore_n (lv' := [(3, .int 0), (1, .long x1), (0, .ref AT)]) hx hb dX8_digest_112 rfl hl (by decide) rfl (fun ls hl => ?_)
        exact hL_113 FU 0 x1 H locs ls hm hP hD hS (lv_sub hl [0, 1, 2] rfl)
      · have hm := it_n c_38 hm
        refine lv_ldc2 (v := 31) hx hb hown (hts _ wv_X8_286) dX8_digest_41 ?_
        refine lv_ldc2 (v := 31) hx hb hown (hts _ wv_X8_286) dX8_digest_44 ?_
        refine lv_lload_n hx hb dX8_digest_47 rfl (lv_at hl 1 rfl) ?_
        refine lv_lmul hx hb dX8_digest_48 ?_
        refine lv_aload_n hx hb dX8_digest_49 rfl (lv_at hl 2 rfl) ?_
        refine gf_X8_7 (v := .ref AT_al) hx hb hts hown hK hN hP 0 rfl rfl dX8_digest_50 ?_
        refine lv_bipush (v := 31) hx hb dX8_digest_53 (by decide) ?_
        refine lv_iload_n hx hb dX8_digest_55 rfl (lv_at hl 0 rfl) ?_
        refine lv_iadd hx hb dX8_digest_56 ?_
        obtain ⟨hi_57, hm⟩ := gd_s hm
        refine q_iald (j := (Int32.toNatClampNeg (31 + x3))) hx hb hK hP 1 rfl hi_57 rfl dX8_digest_57 ?_
        refine lv_i2l (v := (Int32.toInt64 (fT_al (Int32.toNatClampNeg (31 + x3))))) hx hb dX8_digest_58 rfl ?_
        refine lv_ladd hx hb dX8_digest_59 ?_
        refine lv_lmul hx hb dX8_digest_60 ?_
        refine lv_aload_n hx hb dX8_digest_61 rfl (lv_at hl 2 rfl) ?_
        refine gf_X8_7 (v := .ref AT_al) hx hb hts hown hK hN hP 0 rfl rfl dX8_digest_62 ?_
        refine lv_bipush (v := 6) hx hb dX8_digest_65 (by decide) ?_
        refine lv_iload_n hx hb dX8_digest_67 rfl (lv_at hl 0 rfl) ?_
        refine lv_iadd hx hb dX8_digest_68 ?_
        obtain ⟨hi_69, hm⟩ := gd_s hm
        refine q_iald (j := (Int32.toNatClampNeg (6 + x3))) hx hb hK hP 1 rfl hi_69 rfl dX8_digest_69 ?_
        refine lv_i2l (v := (Int32.toInt64 (fT_al (Int32.toNatClampNeg (6 + x3))))) hx hb dX8_digest_70 rfl ?_
        refine lv_ladd hx hb dX8_digest_71 ?_
        refine lv_lstore_n (lv' := [(1, .long ((31 * ((31 * x1) + (Int32.toInt64 (fT_al (Int32.toNatClampNeg (31 + x3)))))) + (Int32.toInt64 (fT_al (Int32.toNatClampNeg (6 + x3)))))), (3, .int x3), (0, .ref AT)]) hx hb dX8_digest_72 rfl hl (by decide) rfl (fun ls hl => ?_)
        refine lv_ldc2 (v := 31) hx hb hown (hts _ wv_X8_286) dX8_digest_73 ?_
        refine lv_ldc2 (v := 31) hx hb hown (hts _ wv_X8_286) dX8_digest_76 ?_
        refine lv_lload_n hx hb dX8_digest_79 rfl (lv_at hl 0 rfl) ?_
        refine lv_lmul hx hb dX8_digest_80 ?_
        refine lv_aload_n hx hb dX8_digest_81 rfl (lv_at hl 2 rfl) ?_
        refine gf_X8_7 (v := .ref AT_al) hx hb hts hown hK hN hP 0 rfl rfl dX8_digest_82 ?_
        refine lv_bipush (v := 12) hx hb dX8_digest_85 (by decide) ?_
        refine lv_iload_n hx hb dX8_digest_87 rfl (lv_at hl 1 rfl) ?_
        refine lv_iadd hx hb dX8_digest_88 ?_
        obtain ⟨hi_89, hm⟩ := gd_s hm
        refine q_iald (j := (Int32.toNatClampNeg (12 + x3))) hx hb hK hP 1 rfl hi_89 rfl dX8_digest_89 ?_
        refine lv_i2l (v := (Int32.toInt64 (fT_al (Int32.toNatClampNeg (12 + x3))))) hx hb dX8_digest_90 rfl ?_
        refine lv_ladd hx hb dX8_digest_91 ?_
        refine lv_lmul hx hb dX8_digest_92 ?_
        refine lv_aload_n hx hb dX8_digest_93 rfl (lv_at hl 2 rfl) ?_
        refine gf_X8_7 (v := .ref AT_al) hx hb hts hown hK hN hP 0 rfl rfl dX8_digest_94 ?_
        refine lv_bipush (v := 18) hx hb dX8_digest_97 (by decide) ?_
        refine lv_iload_n hx hb dX8_digest_99 rfl (lv_at hl 1 rfl) ?_
        refine lv_iadd hx hb dX8_digest_100 ?_
        obtain ⟨hi_101, hm⟩ := gd_s hm
        refine q_iald (j := (Int32.toNatClampNeg (18 + x3))) hx hb hK hP 1 rfl hi_101 rfl dX8_digest_101 ?_
        refine lv_i2l (v := (Int32.toInt64 (fT_al (Int32.toNatClampNeg (18 + x3))))) hx hb dX8_digest_102 rfl ?_
        refine lv_ladd hx hb dX8_digest_103 ?_
        refine lv_lstore_n (lv' := [(1, .long ((31 * ((31 * ((31 * ((31 * x1) + (Int32.toInt64 (fT_al (Int32.toNatClampNeg (31 + x3)))))) + (Int32.toInt64 (fT_al (Int32.toNatClampNeg (6 + x3)))))) + (Int32.toInt64 (fT_al (Int32.toNatClampNeg (12 + x3)))))) + (Int32.toInt64 (fT_al (Int32.toNatClampNeg (18 + x3)))))), (3, .int x3), (0, .ref AT)]) hx hb dX8_digest_104 rfl hl (by decide) rfl (fun ls hl => ?_)
        refine lv_iinc (v := (x3 + 1)) (lv' := [(3, .int (x3 + 1)), (1, .long ((31 * ((31 * ((31 * ((31 * x1) + (Int32.toInt64 (fT_al (Int32.toNatClampNeg (31 + x3)))))) + (Int32.toInt64 (fT_al (Int32.toNatClampNeg (6 + x3)))))) + (Int32.toInt64 (fT_al (Int32.toNatClampNeg (12 + x3)))))) + (Int32.toInt64 (fT_al (Int32.toNatClampNeg (18 + x3)))))), (0, .ref AT)]) hx hb dX8_digest_105 hl (k := 1) rfl rfl (by decide) rfl (fun ls hl => ?_)
        refine lv_goto (tgt := 33) hx hb dX8_digest_108 (by decide) ?_
        exact ih_33 (x3 + 1) ((31 * ((31 * ((31 * ((31 * x1) + (Int32.toInt64 (fT_al (Int32.toNatClampNeg (31 + x3)))))) + (Int32.toInt64 (fT_al (Int32.toNatClampNeg (6 + x3)))))) + (Int32.toInt64 (fT_al (Int32.toNatClampNeg (12 + x3)))))) + (Int32.toInt64 (fT_al (Int32.toNatClampNeg (18 + x3))))) H locs ls hm hP hD hS (lv_sub hl [0, 1, 2] rfl)
  have hL_6 : ∀ (fu_6 : Nat) (x3 : Int32) (x1 : Int64) (H : Heap) (locs : List Loc) (ls : Array Slot), fL_X8_digest_6 vT_ab vT_be vT_byl fT_al fu_6 x3 x1 = some out → va_P D vwCl (wd_X8_digest cI cZ AT AT_al AT_kp AT_ik AT_rf AT_hd AT_bs AT_se AT_bf AT_te AT_by AT_an AT_vs vT_ab vT_be vT_byl vT_tka vT_tkl vT_tkn vT_val fT_al) H → va_D A (wd_X8_digest cI cZ AT AT_al AT_kp AT_ik AT_rf AT_hd AT_bs AT_se AT_bf AT_te AT_by AT_an AT_vs vT_ab vT_be vT_byl vT_tka vT_tkl vT_tkn vT_val fT_al) → va_S A s.heap H locs → lv_has ls 4 [(3, .int x3), (1, .long x1), (0, .ref AT)] → W p l e { frames := 2, cells := 0, slots := 0, locals := 45 } s m ([.ref AT] : List Value).toArray below meth c H locs 0 0 (MQ below (q_Ql D (wd_X8_digest cI cZ AT AT_al AT_kp AT_ik AT_rf AT_hd AT_bs AT_se AT_bf AT_te AT_by AT_an AT_vs vT_ab vT_be vT_byl vT_tka vT_tkl vT_tkn vT_val fT_al) out A) ([.ref AT] : List Value).toArray s 0 0 A) (F0 m 6 ls []) := by
    intro fu_6
    induction fu_6 with
    | zero => intro x3 x1 H locs ls hm hP hD hS hl; exact absurd (show (none : Option (Int64)) = some out from hm) (fun h => nomatch h)
    | succ fu_6 ih_6 =>
      intro x3 x1 H locs ls hm hP hD hS hl
      rw [fL_X8_digest_6] at hm
      refine lv_iload_n hx hb dX8_digest_6 rfl (lv_at hl 0 rfl) ?_
      refine lv_bipush (v := 10) hx hb dX8_digest_7 (by decide) ?_
      refine lv_icmp_ge (tgt := 31) hx hb dX8_digest_9 (by decide) (fun c_9 => ?_) (fun c_9 => ?_)
      · have hm := it_s c_9 hm
        refine lv_iconst (v := 0) hx hb dX8_digest_31 (by decide) ?_
        refine lv_istore_n (lv' := [(3, .int 0), (1, .long x1), (0, .ref AT)]) hx hb dX8_digest_32 rfl hl (by decide) rfl (fun ls hl => ?_)
        exact hL_33 FU 0 x1 H locs ls hm hP hD hS (lv_sub hl [0, 1, 2] rfl)
      · have hm := it_n c_9 hm
        refine lv_ldc2 (v := 31) hx hb hown (hts _ wv_X8_286) dX8_digest_12 ?_
        refine lv_lload_n hx hb dX8_digest_15 rfl (lv_at hl 1 rfl) ?_
        refine lv_lmul hx hb dX8_digest_16 ?_
        refine lv_aload_n hx hb dX8_digest_17 rfl (lv_at hl 2 rfl) ?_
        refine lv_iload_n hx hb dX8_digest_18 rfl (lv_at hl 0 rfl) ?_
        obtain ⟨r_19, hc_19, hm⟩ := ob_s hm
        refine q_ci (q_rv (rest := [.long (31 * x1)]) ⟨hx, hb, hml, hown, hts⟩ hK hN hP hD (c_X8_counted l D cI cZ H.size AT AT_al AT_kp AT_ik AT_rf AT_hd AT_bs AT_se AT_bf AT_te AT_by AT_an AT_vs vT_ab vT_be vT_byl vT_tka vT_tkl vT_tkn vT_val fT_al x3 r_19 hc_19) mb_X8_counted mv_X8_counted wl_X8_283 [0, 1] rfl rfl rfl (Nat.le_of_ble_eq_true rfl) (Nat.le_of_ble_eq_true rfl) rfl hl.1 rfl (Nat.le_of_ble_eq_true rfl) ⟨Nat.le_refl 0, Nat.le_refl 0⟩ dX8_digest_19) hP hD hS hA [0, 1] rfl rfl (fun H locs hP hD hS => ?_)
        have hP : va_P D vwCl (wd_X8_digest cI cZ AT AT_al AT_kp AT_ik AT_rf AT_hd AT_bs AT_se AT_bf AT_te AT_by AT_an AT_vs vT_ab vT_be vT_byl vT_tka vT_tkl vT_tkn vT_val fT_al) H := hP
        have hD : va_D A (wd_X8_digest cI cZ AT AT_al AT_kp AT_ik AT_rf AT_hd AT_bs AT_se AT_bf AT_te AT_by AT_an AT_vs vT_ab vT_be vT_byl vT_tka vT_tkl vT_tkn vT_val fT_al) := hD
        refine lv_i2l (v := (Int32.toInt64 r_19)) hx hb dX8_digest_22 rfl ?_
        refine lv_ladd hx hb dX8_digest_23 ?_
        refine lv_lstore_n (lv' := [(1, .long ((31 * x1) + (Int32.toInt64 r_19))), (3, .int x3), (0, .ref AT)]) hx hb dX8_digest_24 rfl hl (by decide) rfl (fun ls hl => ?_)
        refine lv_iinc (v := (x3 + 1)) (lv' := [(3, .int (x3 + 1)), (1, .long ((31 * x1) + (Int32.toInt64 r_19))), (0, .ref AT)]) hx hb dX8_digest_25 hl (k := 1) rfl rfl (by decide) rfl (fun ls hl => ?_)
        refine lv_goto (tgt := 6) hx hb dX8_digest_28 (by decide) ?_
        exact ih_6 (x3 + 1) ((31 * x1) + (Int32.toInt64 r_19)) H locs ls hm hP hD hS (lv_sub hl [0, 1, 2] rfl)
  unfold fm_X8_digest at hm
  refine q_gen hS hP ?_
  intro H locs hP hS
  refine lv_ldc2 (v := 1609) hx hb hown (hts _ wv_X8_288) dX8_digest_0 ?_
  refine lv_lstore_n (lv' := [(1, .long 1609), (0, .ref AT)]) hx hb dX8_digest_3 rfl hl (by decide) rfl (fun ls hl => ?_)
  refine lv_iconst (v := 0) hx hb dX8_digest_4 (by decide) ?_
  refine lv_istore_n (lv' := [(3, .int 0), (1, .long 1609), (0, .ref AT)]) hx hb dX8_digest_5 rfl hl (by decide) rfl (fun ls hl => ?_)
  exact hL_6 FU 0 1609 H locs ls hm hP hD hS (lv_sub hl [0, 1, 2] rfl)
