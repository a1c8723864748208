theorem mb_J6_bitCount_0f7a4 : q_mb yJ6_bitCount_0f7a4 cJ6_bitCount_0f7a4 1 (some .int) 1 := ⟨wc_J6_bitCount_0f7a4, wn_J6, by decide, by decide, by decide +kernel⟩
def wd_J6_bitCount_0f7a4 (cI cZ : ClassId) : va_W := []
def fm_J6_bitCount_0f7a4 (p0 : Int32) : Option (Int32) := some (((((((((p0 - (((Int32.toUInt32 p0 >>> (Int32.toUInt32 1 &&& Int32.toUInt32 31)).toInt32) &&& 1431655765)) &&& 858993459) + (((Int32.toUInt32 (p0 - (((Int32.toUInt32 p0 >>> (Int32.toUInt32 1 &&& Int32.toUInt32 31)).toInt32) &&& 1431655765)) >>> (Int32.toUInt32 2 &&& Int32.toUInt32 31)).toInt32) &&& 858993459)) + ((Int32.toUInt32 (((p0 - (((Int32.toUInt32 p0 >>> (Int32.toUInt32 1 &&& Int32.toUInt32 31)).toInt32) &&& 1431655765)) &&& 858993459) + (((Int32.toUInt32 (p0 - (((Int32.toUInt32 p0 >>> (Int32.toUInt32 1 &&& Int32.toUInt32 31)).toInt32) &&& 1431655765)) >>> (Int32.toUInt32 2 &&& Int32.toUInt32 31)).toInt32) &&& 858993459)) >>> (Int32.toUInt32 4 &&& Int32.toUInt32 31)).toInt32)) &&& 252645135) + ((Int32.toUInt32 (((((p0 - (((Int32.toUInt32 p0 >>> (Int32.toUInt32 1 &&& Int32.toUInt32 31)).toInt32) &&& 1431655765)) &&& 858993459) + (((Int32.toUInt32 (p0 - (((Int32.toUInt32 p0 >>> (Int32.toUInt32 1 &&& Int32.toUInt32 31)).toInt32) &&& 1431655765)) >>> (Int32.toUInt32 2 &&& Int32.toUInt32 31)).toInt32) &&& 858993459)) + ((Int32.toUInt32 (((p0 - (((Int32.toUInt32 p0 >>> (Int32.toUInt32 1 &&& Int32.toUInt32 31)).toInt32) &&& 1431655765)) &&& 858993459) + (((Int32.toUInt32 (p0 - (((Int32.toUInt32 p0 >>> (Int32.toUInt32 1 &&& Int32.toUInt32 31)).toInt32) &&& 1431655765)) >>> (Int32.toUInt32 2 &&& Int32.toUInt32 31)).toInt32) &&& 858993459)) >>> (Int32.toUInt32 4 &&& Int32.toUInt32 31)).toInt32)) &&& 252645135) >>> (Int32.toUInt32 8 &&& Int32.toUInt32 31)).toInt32)) + ((Int32.toUInt32 ((((((p0 - (((Int32.toUInt32 p0 >>> (Int32.toUInt32 1 &&& Int32.toUInt32 31)).toInt32) &&& 1431655765)) &&& 858993459) + (((Int32.toUInt32 (p0 - (((Int32.toUInt32 p0 >>> (Int32.toUInt32 1 &&& Int32.toUInt32 31)).toInt32) &&& 1431655765)) >>> (Int32.toUInt32 2 &&& Int32.toUInt32 31)).toInt32) &&& 858993459)) + ((Int32.toUInt32 (((p0 - (((Int32.toUInt32 p0 >>> (Int32.toUInt32 1 &&& Int32.toUInt32 31)).toInt32) &&& 1431655765)) &&& 858993459) + (((Int32.toUInt32 (p0 - (((Int32.toUInt32 p0 >>> (Int32.toUInt32 1 &&& Int32.toUInt32 31)).toInt32) &&& 1431655765)) >>> (Int32.toUInt32 2 &&& Int32.toUInt32 31)).toInt32) &&& 858993459)) >>> (Int32.toUInt32 4 &&& Int32.toUInt32 31)).toInt32)) &&& 252645135) + ((Int32.toUInt32 (((((p0 - (((Int32.toUInt32 p0 >>> (Int32.toUInt32 1 &&& Int32.toUInt32 31)).toInt32) &&& 1431655765)) &&& 858993459) + (((Int32.toUInt32 (p0 - (((Int32.toUInt32 p0 >>> (Int32.toUInt32 1 &&& Int32.toUInt32 31)).toInt32) &&& 1431655765)) >>> (Int32.toUInt32 2 &&& Int32.toUInt32 31)).toInt32) &&& 858993459)) + ((Int32.toUInt32 (((p0 - (((Int32.toUInt32 p0 >>> (Int32.toUInt32 1 &&& Int32.toUInt32 31)).toInt32) &&& 1431655765)) &&& 858993459) + (((Int32.toUInt32 (p0 - (((Int32.toUInt32 p0 >>> (Int32.toUInt32 1 &&& Int32.toUInt32 31)).toInt32) &&& 1431655765)) >>> (Int32.toUInt32 2 &&& Int32.toUInt32 31)).toInt32) &&& 858993459)) >>> (Int32.toUInt32 4 &&& Int32.toUInt32 31)).toInt32)) &&& 252645135) >>> (Int32.toUInt32 8 &&& Int32.toUInt32 31)).toInt32)) >>> (Int32.toUInt32 16 &&& Int32.toUInt32 31)).toInt32)) &&& 63))
set_option maxHeartbeats 4000000 in
set_option maxRecDepth 100000 in
theorem c_J6_bitCount_0f7a4 (l : Launch) (D : va_G) (cI cZ : ClassId) (sz : Nat) (p0 : Int32) (out : (Int32)) (hm : fm_J6_bitCount_0f7a4 p0 = some out) : Met l yJ6_bitCount_0f7a4 (Cond.code yJ6_bitCount_0f7a4 cJ6_bitCount_0f7a4 1 (some .int) :: bg) { frames := 0, cells := 0, slots := 0, locals := 0 } (va_Pc [.int p0] (q_pre D cI cZ sz (wd_J6_bitCount_0f7a4 cI cZ))) (q_Qi D (wd_J6_bitCount_0f7a4 cI cZ) out (va_A (wd_J6_bitCount_0f7a4 cI cZ) sz)) 0 0 (va_A (wd_J6_bitCount_0f7a4 cI cZ) sz) := by
  refine q_met (fun A => q_Qi D (wd_J6_bitCount_0f7a4 cI cZ) out A) (by decide) (Nat.le_of_ble_eq_true rfl) ?_
  intro p e s m below meth c ls A hx hb hr hml hown hts hlocks _ hA hS hP hD hK hN hl
  have hown : s.vm.findClass RJ6 = some m.cls := hown
  have hl : lv_has ls 1 [(0, .int p0)] := hl
  unfold fm_J6_bitCount_0f7a4 at hm
  refine q_gen hS hP ?_
  intro H locs hP hS
  refine lv_iload_n hx hb dJ6_bitCount_0f7a4_0 rfl (lv_at hl 0 rfl) ?_
  refine lv_iload_n hx hb dJ6_bitCount_0f7a4_1 rfl (lv_at hl 0 rfl) ?_
  refine lv_iconst (v := 1) hx hb dJ6_bitCount_0f7a4_2 (by decide) ?_
  refine lv_iushr (v := ((Int32.toUInt32 p0 >>> (Int32.toUInt32 1 &&& Int32.toUInt32 31)).toInt32)) hx hb dJ6_bitCount_0f7a4_3 rfl ?_
  refine lv_ldcw (v := 1431655765) hx hb hown (hts _ wv_J6_265) dJ6_bitCount_0f7a4_4 ?_
  refine lv_iand hx hb dJ6_bitCount_0f7a4_7 ?_
  refine lv_isub hx hb dJ6_bitCount_0f7a4_8 ?_
  refine lv_istore_n (lv' := [(0, .int (p0 - (((Int32.toUInt32 p0 >>> (Int32.toUInt32 1 &&& Int32.toUInt32 31)).toInt32) &&& 1431655765)))]) hx hb dJ6_bitCount_0f7a4_9 rfl hl (by decide) rfl (fun ls hl => ?_)
  refine lv_iload_n hx hb dJ6_bitCount_0f7a4_10 rfl (lv_at hl 0 rfl) ?_
  refine lv_ldcw (v := 858993459) hx hb hown (hts _ wv_J6_266) dJ6_bitCount_0f7a4_11 ?_
  refine lv_iand hx hb dJ6_bitCount_0f7a4_14 ?_
  refine lv_iload_n hx hb dJ6_bitCount_0f7a4_15 rfl (lv_at hl 0 rfl) ?_
  refine lv_iconst (v := 2) hx hb dJ6_bitCount_0f7a4_16 (by decide) ?_
  refine lv_iushr (v := ((Int32.toUInt32 (p0 - (((Int32.toUInt32 p0 >>> (Int32.toUInt32 1 &&& Int32.toUInt32 31)).toInt32) &&& 1431655765)) >>> (Int32.toUInt32 2 &&& Int32.toUInt32 31)).toInt32)) hx hb dJ6_bitCount_0f7a4_17 rfl ?_
  refine lv_ldcw (v := 858993459) hx hb hown (hts _ wv_J6_266) dJ6_bitCount_0f7a4_18 ?_
  refine lv_iand hx hb dJ6_bitCount_0f7a4_21 ?_
  refine lv_iadd hx hb dJ6_bitCount_0f7a4_22 ?_
  refine lv_istore_n (lv' := [(0, .int (((p0 - (((Int32.toUInt32 p0 >>> (Int32.toUInt32 1 &&& Int32.toUInt32 31)).toInt32) &&& 1431655765)) &&& 858993459) + (((Int32.toUInt32 (p0 - (((Int32.toUInt32 p0 >>> (Int32.toUInt32 1 &&& Int32.toUInt32 31)).toInt32) &&& 1431655765)) >>> (Int32.toUInt32 2 &&& Int32.toUInt32 31)).toInt32) &&& 858993459)))]) hx hb dJ6_bitCount_0f7a4_23 rfl hl (by decide) rfl (fun ls hl => ?_)
  refine lv_iload_n hx hb dJ6_bitCount_0f7a4_24 rfl (lv_at hl 0 rfl) ?_
  refine lv_iload_n hx hb dJ6_bitCount_0f7a4_25 rfl (lv_at hl 0 rfl) ?_
  refine lv_iconst (v := 4) hx hb dJ6_bitCount_0f7a4_26 (by decide) ?_
  refine lv_iushr (v := ((Int32.toUInt32 (((p0 - (((Int32.toUInt32 p0 >>> (Int32.toUInt32 1 &&& Int32.toUInt32 31)).toInt32) &&& 1431655765)) &&& 858993459) + (((Int32.toUInt32 (p0 - (((Int32.toUInt32 p0 >>> (Int32.toUInt32 1 &&& Int32.toUInt32 31)).toInt32) &&& 1431655765)) >>> (Int32.toUInt32 2 &&& Int32.toUInt32 31)).toInt32) &&& 858993459)) >>> (Int32.toUInt32 4 &&& Int32.toUInt32 31)).toInt32)) hx hb dJ6_bitCount_0f7a4_27 rfl ?_
  refine lv_iadd hx hb dJ6_bitCount_0f7a4_28 ?_
  refine lv_ldcw (v := 252645135) hx hb hown (hts _ wv_J6_267) dJ6_bitCount_0f7a4_29 ?_
  refine lv_iand hx hb dJ6_bitCount_0f7a4_32 ?_
  refine lv_istore_n (lv' := [(0, .int (((((p0 - (((Int32.toUInt32 p0 >>> (Int32.toUInt32 1 &&& Int32.toUInt32 31)).toInt32) &&& 1431655765)) &&& 858993459) + (((Int32.toUInt32 (p0 - (((Int32.toUInt32 p0 >>> (Int32.toUInt32 1 &&& Int32.toUInt32 31)).toInt32) &&& 1431655765)) >>> (Int32.toUInt32 2 &&& Int32.toUInt32 31)).toInt32) &&& 858993459)) + ((Int32.toUInt32 (((p0 - (((Int32.toUInt32 p0 >>> (Int32.toUInt32 1 &&& Int32.toUInt32 31)).toInt32) &&& 1431655765)) &&& 858993459) + (((Int32.toUInt32 (p0 - (((Int32.toUInt32 p0 >>> (Int32.toUInt32 1 &&& Int32.toUInt32 31)).toInt32) &&& 1431655765)) >>> (Int32.toUInt32 2 &&& Int32.toUInt32 31)).toInt32) &&& 858993459)) >>> (Int32.toUInt32 4 &&& Int32.toUInt32 31)).toInt32)) &&& 252645135))]) hx hb dJ6_bitCount_0f7a4_33 rfl hl (by decide) rfl (fun ls hl => ?_)
  refine lv_iload_n hx hb dJ6_bitCount_0f7a4_34 rfl (lv_at hl 0 rfl) ?_
  refine lv_iload_n hx hb dJ6_bitCount_0f7a4_35 rfl (lv_at hl 0 rfl) ?_
  refine lv_bipush (v := 8) hx hb dJ6_bitCount_0f7a4_36 (by decide) ?_
  refine lv_iushr (v := ((Int32.toUInt32 (((((p0 - (((Int32.toUInt32 p0 >>> (Int32.toUInt32 1 &&& Int32.toUInt32 31)).toInt32) &&& 1431655765)) &&& 858993459) + (((Int32.toUInt32 (p0 - (((Int32.toUInt32 p0 >>> (Int32.toUInt32 1 &&& Int32.toUInt32 31)).toInt32) &&& 1431655765)) >>> (Int32.toUInt32 2 &&& Int32.toUInt32 31)).toInt32) &&& 858993459)) + ((Int32.toUInt32 (((p0 - (((Int32.toUInt32 p0 >>> (Int32.toUInt32 1 &&& Int32.toUInt32 31)).toInt32) &&& 1431655765)) &&& 858993459) + (((Int32.toUInt32 (p0 - (((Int32.toUInt32 p0 >>> (Int32.toUInt32 1 &&& Int32.toUInt32 31)).toInt32) &&& 1431655765)) >>> (Int32.toUInt32 2 &&& Int32.toUInt32 31)).toInt32) &&& 858993459)) >>> (Int32.toUInt32 4 &&& Int32.toUInt32 31)).toInt32)) &&& 252645135) >>> (Int32.toUInt32 8 &&& Int32.toUInt32 31)).toInt32)) hx hb dJ6_bitCount_0f7a4_38 rfl ?_
  refine lv_iadd hx hb dJ6_bitCount_0f7a4_39 ?_
  refine lv_istore_n (lv' := [(0, .int ((((((p0 - (((Int32.toUInt32 p0 >>> (Int32.toUInt32 1 &&& Int32.toUInt32 31)).toInt32) &&& 1431655765)) &&& 858993459) + (((Int32.toUInt32 (p0 - (((Int32.toUInt32 p0 >>> (Int32.toUInt32 1 &&& Int32.toUInt32 31)).toInt32) &&& 1431655765)) >>> (Int32.toUInt32 2 &&& Int32.toUInt32 31)).toInt32) &&& 858993459)) + ((Int32.toUInt32 (((p0 - (((Int32.toUInt32 p0 >>> (Int32.toUInt32 1 &&& Int32.toUInt32 31)).toInt32) &&& 1431655765)) &&& 858993459) + (((Int32.toUInt32 (p0 - (((Int32.toUInt32 p0 >>> (Int32.toUInt32 1 &&& Int32.toUInt32 31)).toInt32) &&& 1431655765)) >>> (Int32.toUInt32 2 &&& Int32.toUInt32 31)).toInt32) &&& 858993459)) >>> (Int32.toUInt32 4 &&& Int32.toUInt32 31)).toInt32)) &&& 252645135) + ((Int32.toUInt32 (((((p0 - (((Int32.toUInt32 p0 >>> (Int32.toUInt32 1 &&& Int32.toUInt32 31)).toInt32) &&& 1431655765)) &&& 858993459) + (((Int32.toUInt32 (p0 - (((Int32.toUInt32 p0 >>> (Int32.toUInt32 1 &&& Int32.toUInt32 31)).toInt32) &&& 1431655765)) >>> (Int32.toUInt32 2 &&& Int32.toUInt32 31)).toInt32) &&& 858993459)) + ((Int32.toUInt32 (((p0 - (((Int32.toUInt32 p0 >>> (Int32.toUInt32 1 &&& Int32.toUInt32 31)).toInt32) &&& 1431655765)) &&& 858993459) + (((Int32.toUInt32 (p0 - (((Int32.toUInt32 p0 >>> (Int32.toUInt32 1 &&& Int32.toUInt32 31)).toInt32) &&& 1431655765)) >>> (Int32.toUInt32 2 &&& Int32.toUInt32 31)).toInt32) &&& 858993459)) >>> (Int32.toUInt32 4 &&& Int32.toUInt32 31)).toInt32)) &&& 252645135) >>> (Int32.toUInt32 8 &&& Int32.toUInt32 31)).toInt32)))]) hx hb dJ6_bitCount_0f7a4_40 rfl hl (by decide) rfl (fun ls hl => ?_)
  refine lv_iload_n hx hb dJ6_bitCount_0f7a4_41 rfl (lv_at hl 0 rfl) ?_
  refine lv_iload_n hx hb dJ6_bitCount_0f7a4_42 rfl (lv_at hl 0 rfl) ?_
  refine lv_bipush (v := 16) hx hb dJ6_bitCount_0f7a4_43 (by decide) ?_
  refine lv_iushr (v := ((Int32.toUInt32 ((((((p0 - (((Int32.toUInt32 p0 >>> (Int32.toUInt32 1 &&& Int32.toUInt32 31)).toInt32) &&& 1431655765)) &&& 858993459) + (((Int32.toUInt32 (p0 - (((Int32.toUInt32 p0 >>> (Int32.toUInt32 1 &&& Int32.toUInt32 31)).toInt32) &&& 1431655765)) >>> (Int32.toUInt32 2 &&& Int32.toUInt32 31)).toInt32) &&& 858993459)) + ((Int32.toUInt32 (((p0 - (((Int32.toUInt32 p0 >>> (Int32.toUInt32 1 &&& Int32.toUInt32 31)).toInt32) &&& 1431655765)) &&& 858993459) + (((Int32.toUInt32 (p0 - (((Int32.toUInt32 p0 >>> (Int32.toUInt32 1 &&& Int32.toUInt32 31)).toInt32) &&& 1431655765)) >>> (Int32.toUInt32 2 &&& Int32.toUInt32 31)).toInt32) &&& 858993459)) >>> (Int32.toUInt32 4 &&& Int32.toUInt32 31)).toInt32)) &&& 252645135) + ((Int32.toUInt32 (((((p0 - (((Int32.toUInt32 p0 >>> (Int32.toUInt32 1 &&& Int32.toUInt32 31)).toInt32) &&& 1431655765)) &&& 858993459) + (((Int32.toUInt32 (p0 - (((Int32.toUInt32 p0 >>> (Int32.toUInt32 1 &&& Int32.toUInt32 31)).toInt32) &&& 1431655765)) >>> (Int32.toUInt32 2 &&& Int32.toUInt32 31)).toInt32) &&& 858993459)) + ((Int32.toUInt32 (((p0 - (((Int32.toUInt32 p0 >>> (Int32.toUInt32 1 &&& Int32.toUInt32 31)).toInt32) &&& 1431655765)) &&& 858993459) + (((Int32.toUInt32 (p0 - (((Int32.toUInt32 p0 >>> (Int32.toUInt32 1 &&& Int32.toUInt32 31)).toInt32) &&& 1431655765)) >>> (Int32.toUInt32 2 &&& Int32.toUInt32 31)).toInt32) &&& 858993459)) >>> (Int32.toUInt32 4 &&& Int32.toUInt32 31)).toInt32)) &&& 252645135) >>> (Int32.toUInt32 8 &&& Int32.toUInt32 31)).toInt32)) >>> (Int32.toUInt32 16 &&& Int32.toUInt32 31)).toInt32)) hx hb dJ6_bitCount_0f7a4_45 rfl ?_
  refine lv_iadd hx hb dJ6_bitCount_0f7a4_46 ?_
  refine lv_istore_n (lv' := [(0, .int (((((((p0 - (((Int32.toUInt32 p0 >>> (Int32.toUInt32 1 &&& Int32.toUInt32 31)).toInt32) &&& 1431655765)) &&& 858993459) + (((Int32.toUInt32 (p0 - (((Int32.toUInt32 p0 >>> (Int32.toUInt32 1 &&& Int32.toUInt32 31)).toInt32) &&& 1431655765)) >>> (Int32.toUInt32 2 &&& Int32.toUInt32 31)).toInt32) &&& 858993459)) + ((Int32.toUInt32 (((p0 - (((Int32.toUInt32 p0 >>> (Int32.toUInt32 1 &&& Int32.toUInt32 31)).toInt32) &&& 1431655765)) &&& 858993459) + (((Int32.toUInt32 (p0 - (((Int32.toUInt32 p0 >>> (Int32.toUInt32 1 &&& Int32.toUInt32 31)).toInt32) &&& 1431655765)) >>> (Int32.toUInt32 2 &&& Int32.toUInt32 31)).toInt32) &&& 858993459)) >>> (Int32.toUInt32 4 &&& Int32.toUInt32 31)).toInt32)) &&& 252645135) + ((Int32.toUInt32 (((((p0 - (((Int32.toUInt32 p0 >>> (Int32.toUInt32 1 &&& Int32.toUInt32 31)).toInt32) &&& 1431655765)) &&& 858993459) + (((Int32.toUInt32 (p0 - (((Int32.toUInt32 p0 >>> (Int32.toUInt32 1 &&& Int32.toUInt32 31)).toInt32) &&& 1431655765)) >>> (Int32.toUInt32 2 &&& Int32.toUInt32 31)).toInt32) &&& 858993459)) + ((Int32.toUInt32 (((p0 - (((Int32.toUInt32 p0 >>> (Int32.toUInt32 1 &&& Int32.toUInt32 31)).toInt32) &&& 1431655765)) &&& 858993459) + (((Int32.toUInt32 (p0 - (((Int32.toUInt32 p0 >>> (Int32.toUInt32 1 &&& Int32.toUInt32 31)).toInt32) &&& 1431655765)) >>> (Int32.toUInt32 2 &&& Int32.toUInt32 31)).toInt32) &&& 858993459)) >>> (Int32.toUInt32 4 &&& Int32.toUInt32 31)).toInt32)) &&& 252645135) >>> (Int32.toUInt32 8 &&& Int32.toUInt32 31)).toInt32)) + ((Int32.toUInt32 ((((((p0 - (((Int32.toUInt32 p0 >>> (Int32.toUInt32 1 &&& Int32.toUInt32 31)).toInt32) &&& 1431655765)) &&& 858993459) + (((Int32.toUInt32 (p0 - (((Int32.toUInt32 p0 >>> (Int32.toUInt32 1 &&& Int32.toUInt32 31)).toInt32) &&& 1431655765)) >>> (Int32.toUInt32 2 &&& Int32.toUInt32 31)).toInt32) &&& 858993459)) + ((Int32.toUInt32 (((p0 - (((Int32.toUInt32 p0 >>> (Int32.toUInt32 1 &&& Int32.toUInt32 31)).toInt32) &&& 1431655765)) &&& 858993459) + (((Int32.toUInt32 (p0 - (((Int32.toUInt32 p0 >>> (Int32.toUInt32 1 &&& Int32.toUInt32 31)).toInt32) &&& 1431655765)) >>> (Int32.toUInt32 2 &&& Int32.toUInt32 31)).toInt32) &&& 858993459)) >>> (Int32.toUInt32 4 &&& Int32.toUInt32 31)).toInt32)) &&& 252645135) + ((Int32.toUInt32 (((((p0 - (((Int32.toUInt32 p0 >>> (Int32.toUInt32 1 &&& Int32.toUInt32 31)).toInt32) &&& 1431655765)) &&& 858993459) + (((Int32.toUInt32 (p0 - (((Int32.toUInt32 p0 >>> (Int32.toUInt32 1 &&& Int32.toUInt32 31)).toInt32) &&& 1431655765)) >>> (Int32.toUInt32 2 &&& Int32.toUInt32 31)).toInt32) &&& 858993459)) + ((Int32.toUInt32 (((p0 - (((Int32.toUInt32 p0 >>> (Int32.toUInt32 1 &&& Int32.toUInt32 31)).toInt32) &&& 1431655765)) &&& 858993459) + (((Int32.toUInt32 (p0 - (((Int32.toUInt32 p0 >>> (Int32.toUInt32 1 &&& Int32.toUInt32 31)).toInt32) &&& 1431655765)) >>> (Int32.toUInt32 2 &&& Int32.toUInt32 31)).toInt32) &&& 858993459)) >>> (Int32.toUInt32 4 &&& Int32.toUInt32 31)).toInt32)) &&& 252645135) >>> (Int32.toUInt32 8 &&& Int32.toUInt32 31)).toInt32)) >>> (Int32.toUInt32 16 &&& Int32.toUInt32 31)).toInt32)))]) hx hb dJ6_bitCount_0f7a4_47 rfl hl (by decide) rfl (fun ls hl => ?_)
  refine lv_iload_n hx hb dJ6_bitCount_0f7a4_48 rfl (lv_at hl 0 rfl) ?_
  refine lv_bipush (v := 63) hx hb dJ6_bitCount_0f7a4_49 (by decide) ?_
  refine lv_iand hx hb dJ6_bitCount_0f7a4_51 ?_
  have hm := Option.some.inj hm
  subst hm
  exact q_iret (v := ((((((((p0 - (((Int32.toUInt32 p0 >>> (Int32.toUInt32 1 &&& Int32.toUInt32 31)).toInt32) &&& 1431655765)) &&& 858993459) + (((Int32.toUInt32 (p0 - (((Int32.toUInt32 p0 >>> (Int32.toUInt32 1 &&& Int32.toUInt32 31)).toInt32) &&& 1431655765)) >>> (Int32.toUInt32 2 &&& Int32.toUInt32 31)).toInt32) &&& 858993459)) + ((Int32.toUInt32 (((p0 - (((Int32.toUInt32 p0 >>> (Int32.toUInt32 1 &&& Int32.toUInt32 31)).toInt32) &&& 1431655765)) &&& 858993459) + (((Int32.toUInt32 (p0 - (((Int32.toUInt32 p0 >>> (Int32.toUInt32 1 &&& Int32.toUInt32 31)).toInt32) &&& 1431655765)) >>> (Int32.toUInt32 2 &&& Int32.toUInt32 31)).toInt32) &&& 858993459)) >>> (Int32.toUInt32 4 &&& Int32.toUInt32 31)).toInt32)) &&& 252645135) + ((Int32.toUInt32 (((((p0 - (((Int32.toUInt32 p0 >>> (Int32.toUInt32 1 &&& Int32.toUInt32 31)).toInt32) &&& 1431655765)) &&& 858993459) + (((Int32.toUInt32 (p0 - (((Int32.toUInt32 p0 >>> (Int32.toUInt32 1 &&& Int32.toUInt32 31)).toInt32) &&& 1431655765)) >>> (Int32.toUInt32 2 &&& Int32.toUInt32 31)).toInt32) &&& 858993459)) + ((Int32.toUInt32 (((p0 - (((Int32.toUInt32 p0 >>> (Int32.toUInt32 1 &&& Int32.toUInt32 31)).toInt32) &&& 1431655765)) &&& 858993459) + (((Int32.toUInt32 (p0 - (((Int32.toUInt32 p0 >>> (Int32.toUInt32 1 &&& Int32.toUInt32 31)).toInt32) &&& 1431655765)) >>> (Int32.toUInt32 2 &&& Int32.toUInt32 31)).toInt32) &&& 858993459)) >>> (Int32.toUInt32 4 &&& Int32.toUInt32 31)).toInt32)) &&& 252645135) >>> (Int32.toUInt32 8 &&& Int32.toUInt32 31)).toInt32)) + ((Int32.toUInt32 ((((((p0 - (((Int32.toUInt32 p0 >>> (Int32.toUInt32 1 &&& Int32.toUInt32 31)).toInt32) &&& 1431655765)) &&& 858993459) + (((Int32.toUInt32 (p0 - (((Int32.toUInt32 p0 >>> (Int32.toUInt32 1 &&& Int32.toUInt32 31)).toInt32) &&& 1431655765)) >>> (Int32.toUInt32 2 &&& Int32.toUInt32 31)).toInt32) &&& 858993459)) + ((Int32.toUInt32 (((p0 - (((Int32.toUInt32 p0 >>> (Int32.toUInt32 1 &&& Int32.toUInt32 31)).toInt32) &&& 1431655765)) &&& 858993459) + (((Int32.toUInt32 (p0 - (((Int32.toUInt32 p0 >>> (Int32.toUInt32 1 &&& Int32.toUInt32 31)).toInt32) &&& 1431655765)) >>> (Int32.toUInt32 2 &&& Int32.toUInt32 31)).toInt32) &&& 858993459)) >>> (Int32.toUInt32 4 &&& Int32.toUInt32 31)).toInt32)) &&& 252645135) + ((Int32.toUInt32 (((((p0 - (((Int32.toUInt32 p0 >>> (Int32.toUInt32 1 &&& Int32.toUInt32 31)).toInt32) &&& 1431655765)) &&& 858993459) + (((Int32.toUInt32 (p0 - (((Int32.toUInt32 p0 >>> (Int32.toUInt32 1 &&& Int32.toUInt32 31)).toInt32) &&& 1431655765)) >>> (Int32.toUInt32 2 &&& Int32.toUInt32 31)).toInt32) &&& 858993459)) + ((Int32.toUInt32 (((p0 - (((Int32.toUInt32 p0 >>> (Int32.toUInt32 1 &&& Int32.toUInt32 31)).toInt32) &&& 1431655765)) &&& 858993459) + (((Int32.toUInt32 (p0 - (((Int32.toUInt32 p0 >>> (Int32.toUInt32 1 &&& Int32.toUInt32 31)).toInt32) &&& 1431655765)) >>> (Int32.toUInt32 2 &&& Int32.toUInt32 31)).toInt32) &&& 858993459)) >>> (Int32.toUInt32 4 &&& Int32.toUInt32 31)).toInt32)) &&& 252645135) >>> (Int32.toUInt32 8 &&& Int32.toUInt32 31)).toInt32)) >>> (Int32.toUInt32 16 &&& Int32.toUInt32 31)).toInt32)) &&& 63)) hx hb hr hlocks hP hS dJ6_bitCount_0f7a4_52
theorem gf_X3_17 {p : Program} {l : Launch} {e : Env} {R : Room} {s : State} {m : MethodId} {args : Array Value} {below : List Frame} {meth : Method} {c : Code} {H : Heap} {locs : List Loc} {cells slots : Nat} {Q : State → Prop} {pc : Nat} {ls : Array Slot} {cc : ByteArray} {D : va_G} {cI cZ : ClassId} {ws : va_W} {a : Nat} {rest fs : List Value} (hx : p.tables.exec = Jvm.exec) (hb : c.code = cc) (hts : ∀ w ∈ bg, w.before args s = true) (hown : s.vm.findClass RX3 = some m.cls) (hK : va_K D vwCl (q_tys cI cZ) s) (hN : q_N s) (hP : va_P D vwCl ws H) (q0 : Nat) (he : ws[q0]? = some (a, .inr (3, fs))) {v : Value} (hv : fs[2]? = some v) (hdg : decode cc pc = .ok (.getfield 17, 3)) (kk : W p l e R s m args below meth c H locs cells slots Q (F0 m (pc + 3) ls (v :: rest))) : W p l e R s m args below meth c H locs cells slots Q (F0 m pc ls (.ref a :: rest)) :=
  va_get (C := RX3) (T := TX3) (N := 3) hx hb hts wu_X3 hown hK hP q0 he rfl 2 (by decide) (hts _ wf_X3_17) (fun _ h9 => h9) hv hdg kk
theorem mb_X3_size : q_mb yX3_size cX3_size 1 (some .int) 0 := ⟨wc_X3_size, wn_X3, by decide, by decide, by decide +kernel⟩
theorem mv_X3_size : q_mv yX3_size 3 := ⟨wi_X3_size, ws_X3_size, _, rfl, rfl⟩
def wd_X3_size (cI cZ : ClassId) (AT AT_c : Nat) (wT : Int32) (vT_n : Int32) : va_W := [(AT, .inr (3, [.int wT, .ref AT_c, .int vT_n]))]
def fm_X3_size (vT_n : Int32) : Option (Int32) := some (vT_n)
set_option maxHeartbeats 4000000 in
set_option maxRecDepth 100000 in
theorem c_X3_size (l : Launch) (D : va_G) (cI cZ : ClassId) (sz : Nat) (AT AT_c : Nat) (wT : Int32) (vT_n : Int32) (out : (Int32)) (hm : fm_X3_size vT_n = some out) : Met l yX3_size (Cond.code yX3_size cX3_size 1 (some .int) :: bg) { frames := 0, cells := 0, slots := 0, locals := 0 } (va_Pc [.ref AT] (q_pre D cI cZ sz (wd_X3_size cI cZ AT AT_c wT vT_n))) (q_Qi D (wd_X3_size cI cZ AT AT_c wT vT_n) out (va_A (wd_X3_size cI cZ AT AT_c wT vT_n) sz)) 0 0 (va_A (wd_X3_size cI cZ AT AT_c wT vT_n) sz) := by
  refine q_met (fun A => q_Qi D (wd_X3_size cI cZ AT AT_c wT vT_n) out A) (by decide) (Nat.le_of_ble_eq_true rfl) ?_
  intro p e s m below meth c ls A hx hb hr hml hown hts hlocks _ hA hS hP hD hK hN hl
  have hown : s.vm.findClass RX3 = some m.cls := hown
  have hl : lv_has ls 1 [(0, .ref AT)] := hl
  unfold fm_X3_size at hm
  refine q_gen hS hP ?_
  intro H locs hP hS
  refine lv_aload_n hx hb dX3_size_0 rfl (lv_at hl 0 rfl) ?_
  refine gf_X3_17 (v := .int vT_n) hx hb hts hown hK hN hP 0 rfl rfl dX3_size_1 ?_
  have hm := Option.some.inj hm
  subst hm
  exact q_iret (v := vT_n) hx hb hr hlocks hP hS dX3_size_4
theorem mb_X7_at : q_mb yX7_at cX7_at 2 (some .int) 2 := ⟨wc_X7_at, wn_X7, by decide, by decide, by decide +kernel⟩
def wd_X7_at (cI cZ : ClassId) (A0 : Nat) (n0 : Nat) (f0 : Nat → Int32) : va_W := [(A0, .inl (cI, n0, .inl f0))]
def fm_X7_at (n0 : Nat) (p1 : Int32) (f0 : Nat → Int32) : Option (Int32) := if p1 < 0 then (some (0)) else (if (Int32.ofNat n0) ≤ p1 then (some (0)) else (gd p1 n0 (some ((f0 (Int32.toNatClampNeg p1))))))
set_option maxHeartbeats 4000000 in
set_option maxRecDepth 100000 in
theorem c_X7_at (l : Launch) (D : va_G) (cI cZ : ClassId) (sz : Nat) (A0 : Nat) (n0 : Nat) (f0 : Nat → Int32) (p1 : Int32) (out : (Int32)) (hm : fm_X7_at n0 p1 f0 = some out) : Met l yX7_at (Cond.code yX7_at cX7_at 2 (some .int) :: bg) { frames := 0, cells := 0, slots := 0, locals := 0 } (va_Pc [.ref A0, .int p1] (q_pre D cI cZ sz (wd_X7_at cI cZ A0 n0 f0))) (q_Qi D (wd_X7_at cI cZ A0 n0 f0) out (va_A (wd_X7_at cI cZ A0 n0 f0) sz)) 0 0 (va_A (wd_X7_at cI cZ A0 n0 f0) sz) := by
  refine q_met (fun A => q_Qi D (wd_X7_at cI cZ A0 n0 f0) out A) (by decide) (Nat.le_of_ble_eq_true rfl) ?_
  intro p e s m below meth c ls A hx hb hr hml hown hts hlocks _ hA hS hP hD hK hN hl
  have hown : s.vm.findClass RX7 = some m.cls := hown
  have hl : lv_has ls 2 [(0, .ref A0), (1, .int p1)] := hl
  unfold fm_X7_at at hm
  refine q_gen hS hP ?_
  intro H locs hP hS
  refine lv_iload_n hx hb dX7_at_0 rfl (lv_at hl 1 rfl) ?_
  refine lv_if_lt (tgt := 16) hx hb dX7_at_1 (by decide) (fun c_1 => ?_) (fun c_1 => ?_)
  · have hm := it_s c_1 hm
    refine lv_iconst (v := 0) hx hb dX7_at_16 (by decide) ?_
    have hm := Option.some.inj hm
    subst hm
    exact q_iret (v := 0) hx hb hr hlocks hP hS dX7_at_17
  · have hm := it_n c_1 hm
    refine lv_iload_n hx hb dX7_at_4 rfl (lv_at hl 1 rfl) ?_
    refine lv_aload_n hx hb dX7_at_5 rfl (lv_at hl 0 rfl) ?_
    refine va_alen (v := (Int32.ofNat n0)) hx hb hK hP 0 0 rfl rfl rfl dX7_at_6 ?_
    refine lv_icmp_ge (tgt := 16) hx hb dX7_at_7 (by decide) (fun c_7 => ?_) (fun c_7 => ?_)
    · have hm := it_s c_7 hm
      refine lv_iconst (v := 0) hx hb dX7_at_16 (by decide) ?_
      have hm := Option.some.inj hm
      subst hm
      exact q_iret (v := 0) hx hb hr hlocks hP hS dX7_at_17
    · have hm := it_n c_7 hm
      refine lv_aload_n hx hb dX7_at_10 rfl (lv_at hl 0 rfl) ?_
      refine lv_iload_n hx hb dX7_at_11 rfl (lv_at hl 1 rfl) ?_
      obtain ⟨hi_12, hm⟩ := gd_s hm
      refine q_iald (j := (Int32.toNatClampNeg p1)) hx hb hK hP 0 rfl hi_12 rfl dX7_at_12 ?_
      refine lv_goto (tgt := 17) hx hb dX7_at_13 (by decide) ?_
      have hm := Option.some.inj hm
      subst hm
      exact q_iret (v := (f0 (Int32.toNatClampNeg p1))) hx hb hr hlocks hP hS dX7_at_17
theorem mb_X7_holds : q_mb yX7_holds cX7_holds 2 (some .boolean) 2 := ⟨wc_X7_holds, wn_X7, by decide, by decide, by decide +kernel⟩
def wd_X7_holds (cI cZ : ClassId) : va_W := []
def fm_X7_holds (p0 : Int32) (p1 : Int32) : Option (Int32) := if ((p0 >>> (p1 &&& 31)) &&& 1) = 0 then (some (0)) else (some (1))
set_option maxHeartbeats 4000000 in
set_option maxRecDepth 100000 in
theorem c_X7_holds (l : Launch) (D : va_G) (cI cZ : ClassId) (sz : Nat) (p0 : Int32) (p1 : Int32) (out : (Int32)) (hm : fm_X7_holds p0 p1 = some out) : Met l yX7_holds (Cond.code yX7_holds cX7_holds 2 (some .boolean) :: bg) { frames := 0, cells := 0, slots := 0, locals := 0 } (va_Pc [.int p0, .int p1] (q_pre D cI cZ sz (wd_X7_holds cI cZ))) (q_Qi D (wd_X7_holds cI cZ) out (va_A (wd_X7_holds cI cZ) sz)) 0 0 (va_A (wd_X7_holds cI cZ) sz) := by
  refine q_met (fun A => q_Qi D (wd_X7_holds cI cZ) out A) (by decide) (Nat.le_of_ble_eq_true rfl) ?_
  intro p e s m below meth c ls A hx hb hr hml hown hts hlocks _ hA hS hP hD hK hN hl
  have hown : s.vm.findClass RX7 = some m.cls := hown
  have hl : lv_has ls 2 [(0, .int p0), (1, .int p1)] := hl
  unfold fm_X7_holds at hm
  refine q_gen hS hP ?_
  intro H locs hP hS
  refine lv_iload_n hx hb dX7_holds_0 rfl (lv_at hl 0 rfl) ?_
  refine lv_iload_n hx hb dX7_holds_1 rfl (lv_at hl 1 rfl) ?_
  refine lv_ishr hx hb dX7_holds_2 ?_
  refine lv_iconst (v := 1) hx hb dX7_holds_3 (by decide) ?_
  refine lv_iand hx hb dX7_holds_4 ?_
  refine lv_if_eq (tgt := 12) hx hb dX7_holds_5 (by decide) (fun c_5 => ?_) (fun c_5 => ?_)
  · have hm := it_s c_5 hm
    refine lv_iconst (v := 0) hx hb dX7_holds_12 (by decide) ?_
    have hm := Option.some.inj hm
    subst hm
    exact q_zret (v := 0) hx hb hr hlocks rfl hP hS dX7_holds_13
  · have hm := it_n c_5 hm
    refine lv_iconst (v := 1) hx hb dX7_holds_8 (by decide) ?_
    refine lv_goto (tgt := 13) hx hb dX7_holds_9 (by decide) ?_
    have hm := Option.some.inj hm
    subst hm
    exact q_zret (v := 1) hx hb hr hlocks rfl hP hS dX7_holds_13
theorem gf_X3_7 {p : Program} {l : Launch} {e : Env} {R : Room} {s : State} {m : MethodId} {args : Array Value} {below : List Frame} {meth : Method} {c : Code} {H : Heap} {locs : List Loc} {cells slots : Nat} {Q : State → Prop} {pc : Nat} {ls : Array Slot} {cc : ByteArray} {D : va_G} {cI cZ : ClassId} {ws : va_W} {a : Nat} {rest fs : List Value} (hx : p.tables.exec = Jvm.exec) (hb : c.code = cc) (hts : ∀ w ∈ bg, w.before args s = true) (hown : s.vm.findClass RX3 = some m.cls) (hK : va_K D vwCl (q_tys cI cZ) s) (hN : q_N s) (hP : va_P D vwCl ws H) (q0 : Nat) (he : ws[q0]? = some (a, .inr (3, fs))) {v : Value} (hv : fs[0]? = some v) (hdg : decode cc pc = .ok (.getfield 7, 3)) (kk : W p l e R s m args below meth c H locs cells slots Q (F0 m (pc + 3) ls (v :: rest))) : W p l e R s m args below meth c H locs cells slots Q (F0 m pc ls (.ref a :: rest)) :=
  va_get (C := RX3) (T := TX3) (N := 3) hx hb hts wu_X3 hown hK hP q0 he rfl 0 (by decide) (hts _ wf_X3_7) (fun _ h9 => h9) hv hdg kk
theorem gf_X3_13 {p : Program} {l : Launch} {e : Env} {R : Room} {s : State} {m : MethodId} {args : Array Value} {below : List Frame} {meth : Method} {c : Code} {H : Heap} {locs : List Loc} {cells slots : Nat} {Q : State → Prop} {pc : Nat} {ls : Array Slot} {cc : ByteArray} {D : va_G} {cI cZ : ClassId} {ws : va_W} {a : Nat} {rest fs : List Value} (hx : p.tables.exec = Jvm.exec) (hb : c.code = cc) (hts : ∀ w ∈ bg, w.before args s = true) (hown : s.vm.findClass RX3 = some m.cls) (hK : va_K D vwCl (q_tys cI cZ) s) (hN : q_N s) (hP : va_P D vwCl ws H) (q0 : Nat) (he : ws[q0]? = some (a, .inr (3, fs))) {v : Value} (hv : fs[1]? = some v) (hdg : decode cc pc = .ok (.getfield 13, 3)) (kk : W p l e R s m args below meth c H locs cells slots Q (F0 m (pc + 3) ls (v :: rest))) : W p l e R s m args below meth c H locs cells slots Q (F0 m pc ls (.ref a :: rest)) :=
  va_get (C := RX3) (T := TX3) (N := 3) hx hb hts wu_X3 hown hK hP q0 he rfl 1 (by decide) (hts _ wf_X3_13) (fun _ h9 => h9) hv hdg kk
theorem mb_X3_cell : q_mb yX3_cell cX3_cell 5 (some .int) 2 := ⟨wc_X3_cell, wn_X3, by decide, by decide, by decide +kernel⟩
theorem mv_X3_cell : q_mv yX3_cell 3 := ⟨wi_X3_cell, ws_X3_cell, _, rfl, rfl⟩
def wd_X3_cell (cI cZ : ClassId) (AT AT_c : Nat) (wT : Int32) (nT_c : Nat) (vT_n : Int32) (fT_c : Nat → Int32) : va_W := [(AT, .inr (3, [.int wT, .ref AT_c, .int vT_n])), (AT_c, .inl (cI, nT_c, .inl fT_c))]
def fm_X3_cell (wT : Int32) (nT_c : Nat) (p1 : Int32) (p2 : Int32) (vT_n : Int32) (fT_c : Nat → Int32) : Option (Int32) := if p1 < 0 then (some (0)) else (if vT_n ≤ p1 then (some (0)) else (if p2 < 0 then (some (0)) else (if wT ≤ p2 then (some (0)) else (if ((p1 * wT) + p2) < 0 then (some (0)) else (if (Int32.ofNat nT_c) ≤ ((p1 * wT) + p2) then (some (0)) else (gd ((p1 * wT) + p2) nT_c (some ((fT_c (Int32.toNatClampNeg ((p1 * wT) + p2)))))))))))
set_option maxHeartbeats 4000000 in
set_option maxRecDepth 100000 in
theorem c_X3_cell (l : Launch) (D : va_G) (cI cZ : ClassId) (sz : Nat) (AT AT_c : Nat) (wT : Int32) (nT_c : Nat) (vT_n : Int32) (fT_c : Nat → Int32) (p1 : Int32) (p2 : Int32) (out : (Int32)) (hm : fm_X3_cell wT nT_c p1 p2 vT_n fT_c = some out) : Met l yX3_cell (Cond.code yX3_cell cX3_cell 5 (some .int) :: bg) { frames := 0, cells := 0, slots := 0, locals := 0 } (va_Pc [.ref AT, .int p1, .int p2] (q_pre D cI cZ sz (wd_X3_cell cI cZ AT AT_c wT nT_c vT_n fT_c))) (q_Qi D (wd_X3_cell cI cZ AT AT_c wT nT_c vT_n fT_c) out (va_A (wd_X3_cell cI cZ AT AT_c wT nT_c vT_n fT_c) sz)) 0 0 (va_A (wd_X3_cell cI cZ AT AT_c wT nT_c vT_n fT_c) sz) := by
  refine q_met (fun A => q_Qi D (wd_X3_cell cI cZ AT AT_c wT nT_c vT_n fT_c) out A) (by decide) (Nat.le_of_ble_eq_true rfl) ?_
  intro p e s m below meth c ls A hx hb hr hml hown hts hlocks _ hA hS hP hD hK hN hl
  have hown : s.vm.findClass RX3 = some m.cls := hown
  have hl : lv_has ls 5 [(0, .ref AT), (1, .int p1), (2, .int p2)] := hl
  unfold fm_X3_cell at hm
  refine q_gen hS hP ?_
  intro H locs hP hS
  refine lv_iload_n hx hb dX3_cell_0 rfl (lv_at hl 1 rfl) ?_
  refine lv_aload_n hx hb dX3_cell_1 rfl (lv_at hl 0 rfl) ?_
  refine gf_X3_7 (v := .int wT) hx hb hts hown hK hN hP 0 rfl rfl dX3_cell_2 ?_
  refine lv_imul hx hb dX3_cell_5 ?_
  refine lv_iload_n hx hb dX3_cell_6 rfl (lv_at hl 2 rfl) ?_
  refine lv_iadd hx hb dX3_cell_7 ?_
  refine lv_istore_n (lv' := [(3, .int ((p1 * wT) + p2)), (0, .ref AT), (1, .int p1), (2, .int p2)]) hx hb dX3_cell_8 rfl hl (by decide) rfl (fun ls hl => ?_)
  refine lv_iload_n hx hb dX3_cell_9 rfl (lv_at hl 2 rfl) ?_
  refine lv_if_lt (tgt := 37) hx hb dX3_cell_10 (by decide) (fun c_10 => ?_) (fun c_10 => ?_)
  · have hm := it_s c_10 hm
    refine lv_iconst (v := 0) hx hb dX3_cell_37 (by decide) ?_
    refine lv_istore (lv' := [(4, .int 0), (3, .int ((p1 * wT) + p2)), (0, .ref AT), (1, .int p1), (2, .int p2)]) hx hb dX3_cell_38 hl (by decide) rfl (fun ls hl => ?_)
    refine lv_iload hx hb dX3_cell_40 (lv_at hl 0 rfl) ?_
    refine lv_if_eq (tgt := 67) hx hb dX3_cell_42 (by decide) (fun _ => ?_) (fun c => absurd c (by decide))
    refine lv_iconst (v := 0) hx hb dX3_cell_67 (by decide) ?_
    have hm := Option.some.inj hm
    subst hm
    exact q_iret (v := 0) hx hb hr hlocks hP hS dX3_cell_68
  · have hm := it_n c_10 hm
    refine lv_iload_n hx hb dX3_cell_13 rfl (lv_at hl 2 rfl) ?_
    refine lv_aload_n hx hb dX3_cell_14 rfl (lv_at hl 1 rfl) ?_
    refine gf_X3_17 (v := .int vT_n) hx hb hts hown hK hN hP 0 rfl rfl dX3_cell_15 ?_
    refine lv_icmp_ge (tgt := 37) hx hb dX3_cell_18 (by decide) (fun c_18 => ?_) (fun c_18 => ?_)
    · have hm := it_s c_18 hm
      refine lv_iconst (v := 0) hx hb dX3_cell_37 (by decide) ?_
      refine lv_istore (lv' := [(4, .int 0), (3, .int ((p1 * wT) + p2)), (0, .ref AT), (1, .int p1), (2, .int p2)]) hx hb dX3_cell_38 hl (by decide) rfl (fun ls hl => ?_)
      refine lv_iload hx hb dX3_cell_40 (lv_at hl 0 rfl) ?_
      refine lv_if_eq (tgt := 67) hx hb dX3_cell_42 (by decide) (fun _ => ?_) (fun c => absurd c (by decide))
      refine lv_iconst (v := 0) hx hb dX3_cell_67 (by decide) ?_
      have hm := Option.some.inj hm
      subst hm
      exact q_iret (v := 0) hx hb hr hlocks hP hS dX3_cell_68
    · have hm := it_n c_18 hm
      refine lv_iload_n hx hb dX3_cell_21 rfl (lv_at hl 3 rfl) ?_
      refine lv_if_lt (tgt := 37) hx hb dX3_cell_22 (by decide) (fun c_22 => ?_) (fun c_22 => ?_)
      · have hm := it_s c_22 hm
        refine lv_iconst (v := 0) hx hb dX3_cell_37 (by decide) ?_
        refine lv_istore (lv' := [(4, .int 0), (3, .int ((p1 * wT) + p2)), (0, .ref AT), (1, .int p1), (2, .int p2)]) hx hb dX3_cell_38 hl (by decide) rfl (fun ls hl => ?_)
        refine lv_iload hx hb dX3_cell_40 (lv_at hl 0 rfl) ?_
        refine lv_if_eq (tgt := 67) hx hb dX3_cell_42 (by decide) (fun _ => ?_) (fun c => absurd c (by decide))
        refine lv_iconst (v := 0) hx hb dX3_cell_67 (by decide) ?_
        have hm := Option.some.inj hm
        subst hm
        exact q_iret (v := 0) hx hb hr hlocks hP hS dX3_cell_68
      · have hm := it_n c_22 hm
        refine lv_iload_n hx hb dX3_cell_25 rfl (lv_at hl 3 rfl) ?_
        refine lv_aload_n hx hb dX3_cell_26 rfl (lv_at hl 1 rfl) ?_
        refine gf_X3_7 (v := .int wT) hx hb hts hown hK hN hP 0 rfl rfl dX3_cell_27 ?_
        refine lv_icmp_ge (tgt := 37) hx hb dX3_cell_30 (by decide) (fun c_30 => ?_) (fun c_30 => ?_)
        · have hm := it_s c_30 hm
          refine lv_iconst (v := 0) hx hb dX3_cell_37 (by decide) ?_
          refine lv_istore (lv' := [(4, .int 0), (3, .int ((p1 * wT) + p2)), (0, .ref AT), (1, .int p1), (2, .int p2)]) hx hb dX3_cell_38 hl (by decide) rfl (fun ls hl => ?_)
          refine lv_iload hx hb dX3_cell_40 (lv_at hl 0 rfl) ?_
          refine lv_if_eq (tgt := 67) hx hb dX3_cell_42 (by decide) (fun _ => ?_) (fun c => absurd c (by decide))
          refine lv_iconst (v := 0) hx hb dX3_cell_67 (by decide) ?_
          have hm := Option.some.inj hm
          subst hm
          exact q_iret (v := 0) hx hb hr hlocks hP hS dX3_cell_68
        · have hm := it_n c_30 hm
          refine lv_iconst (v := 1) hx hb dX3_cell_33 (by decide) ?_
          refine lv_goto (tgt := 38) hx hb dX3_cell_34 (by decide) ?_
          refine lv_istore (lv' := [(4, .int 1), (3, .int ((p1 * wT) + p2)), (0, .ref AT), (1, .int p1), (2, .int p2)]) hx hb dX3_cell_38 hl (by decide) rfl (fun ls hl => ?_)
          refine lv_iload hx hb dX3_cell_40 (lv_at hl 0 rfl) ?_
          refine lv_if_eq (tgt := 67) hx hb dX3_cell_42 (by decide) (fun c => absurd c (by decide)) (fun _ => ?_)
          refine lv_iload_n hx hb dX3_cell_45 rfl (lv_at hl 1 rfl) ?_
          refine lv_if_lt (tgt := 67) hx hb dX3_cell_46 (by decide) (fun c_46 => ?_) (fun c_46 => ?_)
          · have hm := it_s c_46 hm
            refine lv_iconst (v := 0) hx hb dX3_cell_67 (by decide) ?_
            have hm := Option.some.inj hm
            subst hm
            exact q_iret (v := 0) hx hb hr hlocks hP hS dX3_cell_68
          · have hm := it_n c_46 hm
            refine lv_iload_n hx hb dX3_cell_49 rfl (lv_at hl 1 rfl) ?_
            refine lv_aload_n hx hb dX3_cell_50 rfl (lv_at hl 2 rfl) ?_
            refine gf_X3_13 (v := .ref AT_c) hx hb hts hown hK hN hP 0 rfl rfl dX3_cell_51 ?_
            refine va_alen (v := (Int32.ofNat nT_c)) hx hb hK hP 1 0 rfl rfl rfl dX3_cell_54 ?_
            refine lv_icmp_ge (tgt := 67) hx hb dX3_cell_55 (by decide) (fun c_55 => ?_) (fun c_55 => ?_)
            · have hm := it_s c_55 hm
              refine lv_iconst (v := 0) hx hb dX3_cell_67 (by decide) ?_
              have hm := Option.some.inj hm
              subst hm
              exact q_iret (v := 0) hx hb hr hlocks hP hS dX3_cell_68
            · have hm := it_n c_55 hm
              refine lv_aload_n hx hb dX3_cell_58 rfl (lv_at hl 2 rfl) ?_
              refine gf_X3_13 (v := .ref AT_c) hx hb hts hown hK hN hP 0 rfl rfl dX3_cell_59 ?_
              refine lv_iload_n hx hb dX3_cell_62 rfl (lv_at hl 1 rfl) ?_
              obtain ⟨hi_63, hm⟩ := gd_s hm
              refine q_iald (j := (Int32.toNatClampNeg ((p1 * wT) + p2))) hx hb hK hP 1 rfl hi_63 rfl dX3_cell_63 ?_
              refine lv_goto (tgt := 68) hx hb dX3_cell_64 (by decide) ?_
              have hm := Option.some.inj hm
              subst hm
              exact q_iret (v := (fT_c (Int32.toNatClampNeg ((p1 * wT) + p2)))) hx hb hr hlocks hP hS dX3_cell_68
theorem mb_X7_loudness : q_mb yX7_loudness cX7_loudness 6 (some .int) 3 := ⟨wc_X7_loudness, wn_X7, by decide, by decide, by decide +kernel⟩
def wd_X7_loudness (cI cZ : ClassId) : va_W := []
def fm_X7_loudness (p0 : Int32) (p1 : Int32) (p2 : Int32) : Option (Int32) := if (p2 - p2 / 3 * 3) = 0 then (if p0 = 1 then (some ((p1 + 2))) else if p0 = 2 then (some ((2 * p1))) else if p0 = 3 then (some (((p1 + 1) / 2))) else if p0 = 4 then (if (p2 - p2 / 2 * 2) = 0 then (some ((p1 + 2))) else (some (0))) else if p0 = 5 then (if (2 * p1) ≤ 3 then (some (0)) else (some (((2 * p1) - 3)))) else (some (p1))) else (if p0 = 1 then (some ((p1 + 2))) else if p0 = 2 then (some (p1)) else if p0 = 3 then (some (((p1 + 1) / 2))) else if p0 = 4 then (if (p2 - p2 / 2 * 2) = 0 then (some ((p1 + 2))) else (some (0))) else if p0 = 5 then (if p1 ≤ 3 then (some (0)) else (some ((p1 - 3)))) else (some (p1)))
set_option maxHeartbeats 4000000 in
set_option maxRecDepth 100000 in
theorem c_X7_loudness (l : Launch) (D : va_G) (cI cZ : ClassId) (sz : Nat) (p0 : Int32) (p1 : Int32) (p2 : Int32) (out : (Int32)) (hm : fm_X7_loudness p0 p1 p2 = some out) : Met l yX7_loudness (Cond.code yX7_loudness cX7_loudness 6 (some .int) :: bg) { frames := 0, cells := 0, slots := 0, locals := 0 } (va_Pc [.int p0, .int p1, .int p2] (q_pre D cI cZ sz (wd_X7_loudness cI cZ))) (q_Qi D (wd_X7_loudness cI cZ) out (va_A (wd_X7_loudness cI cZ) sz)) 0 0 (va_A (wd_X7_loudness cI cZ) sz) := by
  refine q_met (fun A => q_Qi D (wd_X7_loudness cI cZ) out A) (by decide) (Nat.le_of_ble_eq_true rfl) ?_
  intro p e s m below meth c ls A hx hb hr hml hown hts hlocks _ hA hS hP hD hK hN hl
  have hown : s.vm.findClass RX7 = some m.cls := hown
  have hl : lv_has ls 6 [(0, .int p0), (1, .int p1), (2, .int p2)] := hl
  unfold fm_X7_loudness at hm
  refine q_gen hS hP ?_
  intro H locs hP hS
  refine lv_iload_n hx hb dX7_loudness_0 rfl (lv_at hl 1 rfl) ?_
  refine lv_istore_n (lv' := [(3, .int p1), (0, .int p0), (1, .int p1), (2, .int p2)]) hx hb dX7_loudness_1 rfl hl (by decide) rfl (fun ls hl => ?_)
  refine lv_iload_n hx hb dX7_loudness_2 rfl (lv_at hl 0 rfl) ?_
  refine lv_iconst (v := 2) hx hb dX7_loudness_3 (by decide) ?_
  refine lv_iadd hx hb dX7_loudness_4 ?_
  refine lv_istore (lv' := [(4, .int (p1 + 2)), (3, .int p1), (0, .int p0), (1, .int p1), (2, .int p2)]) hx hb dX7_loudness_5 hl (by decide) rfl (fun ls hl => ?_)
  refine lv_iload_n hx hb dX7_loudness_7 rfl (lv_at hl 4 rfl) ?_
  refine lv_iconst (v := 3) hx hb dX7_loudness_8 (by decide) ?_
  refine lv_irem hx hb dX7_loudness_9 (by decide) ?_
  refine lv_if_ne (tgt := 19) hx hb dX7_loudness_10 (by decide) (fun c_10 => ?_) (fun c_10 => ?_)
  · have hm := it_n c_10 hm
    refine lv_iload_n hx hb dX7_loudness_19 rfl (lv_at hl 1 rfl) ?_
    refine lv_istore (lv' := [(5, .int p1), (4, .int (p1 + 2)), (3, .int p1), (0, .int p0), (1, .int p1), (2, .int p2)]) hx hb dX7_loudness_20 hl (by decide) rfl (fun ls hl => ?_)
    refine lv_iload_n hx hb dX7_loudness_22 rfl (lv_at hl 3 rfl) ?_
    rcases Decidable.em (p0 = 1) with c_23_1 | c_23_1
    · have hm := it_s c_23_1 hm
      refine lv_tableIn (tgt := 56) hx hb dX7_loudness_23 (by rw [c_23_1]; decide) (by rw [c_23_1]; decide) (by rw [c_23_1]; rfl) (by decide) ?_
      refine lv_iload hx hb dX7_loudness_56 (lv_at hl 1 rfl) ?_
      have hm := Option.some.inj hm
      subst hm
      exact q_iret (v := (p1 + 2)) hx hb hr hlocks hP hS dX7_loudness_58
    have hm := it_n c_23_1 hm
    rcases Decidable.em (p0 = 2) with c_23_2 | c_23_2
    · have hm := it_s c_23_2 hm
      refine lv_tableIn (tgt := 59) hx hb dX7_loudness_23 (by rw [c_23_2]; decide) (by rw [c_23_2]; decide) (by rw [c_23_2]; rfl) (by decide) ?_
      refine lv_iload hx hb dX7_loudness_59 (lv_at hl 0 rfl) ?_
      have hm := Option.some.inj hm
      subst hm
      exact q_iret (v := p1) hx hb hr hlocks hP hS dX7_loudness_61
    have hm := it_n c_23_2 hm
    rcases Decidable.em (p0 = 3) with c_23_3 | c_23_3
    · have hm := it_s c_23_3 hm
      refine lv_tableIn (tgt := 62) hx hb dX7_loudness_23 (by rw [c_23_3]; decide) (by rw [c_23_3]; decide) (by rw [c_23_3]; rfl) (by decide) ?_
      refine lv_iload_n hx hb dX7_loudness_62 rfl (lv_at hl 2 rfl) ?_
      refine lv_iconst (v := 1) hx hb dX7_loudness_63 (by decide) ?_
      refine lv_iadd hx hb dX7_loudness_64 ?_
      refine lv_iconst (v := 2) hx hb dX7_loudness_65 (by decide) ?_
      refine lv_idiv hx hb dX7_loudness_66 (by decide) ?_
      have hm := Option.some.inj hm
      subst hm
      exact q_iret (v := ((p1 + 1) / 2)) hx hb hr hlocks hP hS dX7_loudness_67
    have hm := it_n c_23_3 hm
    rcases Decidable.em (p0 = 4) with c_23_4 | c_23_4
    · have hm := it_s c_23_4 hm
      refine lv_tableIn (tgt := 68) hx hb dX7_loudness_23 (by rw [c_23_4]; decide) (by rw [c_23_4]; decide) (by rw [c_23_4]; rfl) (by decide) ?_
      refine lv_iload_n hx hb dX7_loudness_68 rfl (lv_at hl 5 rfl) ?_
      refine lv_iconst (v := 2) hx hb dX7_loudness_69 (by decide) ?_
      refine lv_irem hx hb dX7_loudness_70 (by decide) ?_
      refine lv_if_ne (tgt := 79) hx hb dX7_loudness_71 (by decide) (fun c_71 => ?_) (fun c_71 => ?_)
      · have hm := it_n c_71 hm
        refine lv_iconst (v := 0) hx hb dX7_loudness_79 (by decide) ?_
        have hm := Option.some.inj hm
        subst hm
        exact q_iret (v := 0) hx hb hr hlocks hP hS dX7_loudness_80
      · have hm := it_s c_71 hm
        refine lv_iload hx hb dX7_loudness_74 (lv_at hl 1 rfl) ?_
        refine lv_goto (tgt := 80) hx hb dX7_loudness_76 (by decide) ?_
        have hm := Option.some.inj hm
        subst hm
        exact q_iret (v := (p1 + 2)) hx hb hr hlocks hP hS dX7_loudness_80
    have hm := it_n c_23_4 hm
    rcases Decidable.em (p0 = 5) with c_23_5 | c_23_5
    · have hm := it_s c_23_5 hm
      refine lv_tableIn (tgt := 81) hx hb dX7_loudness_23 (by rw [c_23_5]; decide) (by rw [c_23_5]; decide) (by rw [c_23_5]; rfl) (by decide) ?_
      refine lv_iload hx hb dX7_loudness_81 (lv_at hl 0 rfl) ?_
      refine lv_iconst (v := 3) hx hb dX7_loudness_83 (by decide) ?_
      refine lv_icmp_le (tgt := 94) hx hb dX7_loudness_84 (by decide) (fun c_84 => ?_) (fun c_84 => ?_)
      · have hm := it_s c_84 hm
        refine lv_iconst (v := 0) hx hb dX7_loudness_94 (by decide) ?_
        have hm := Option.some.inj hm
        subst hm
        exact q_iret (v := 0) hx hb hr hlocks hP hS dX7_loudness_95
      · have hm := it_n c_84 hm
        refine lv_iload hx hb dX7_loudness_87 (lv_at hl 0 rfl) ?_
        refine lv_iconst (v := 3) hx hb dX7_loudness_89 (by decide) ?_
        refine lv_isub hx hb dX7_loudness_90 ?_
        refine lv_goto (tgt := 95) hx hb dX7_loudness_91 (by decide) ?_
        have hm := Option.some.inj hm
        subst hm
        exact q_iret (v := (p1 - 3)) hx hb hr hlocks hP hS dX7_loudness_95
    have hm := it_n c_23_5 hm
    have ht_0 := lv_neT c_23_1 (show (1 : Int32).toInt = 1 by decide)
    have ht_1 := lv_neT c_23_2 (show (2 : Int32).toInt = 2 by decide)
    have ht_2 := lv_neT c_23_3 (show (3 : Int32).toInt = 3 by decide)
    have ht_3 := lv_neT c_23_4 (show (4 : Int32).toInt = 4 by decide)
    have ht_4 := lv_neT c_23_5 (show (5 : Int32).toInt = 5 by decide)
    refine lv_tableOut (tgt := 96) hx hb dX7_loudness_23 (by omega) (by decide) ?_
    refine lv_iload_n hx hb dX7_loudness_96 rfl (lv_at hl 2 rfl) ?_
    have hm := Option.some.inj hm
    subst hm
    exact q_iret (v := p1) hx hb hr hlocks hP hS dX7_loudness_97
  · have hm := it_s c_10 hm
    refine lv_iconst (v := 2) hx hb dX7_loudness_13 (by decide) ?_
    refine lv_iload_n hx hb dX7_loudness_14 rfl (lv_at hl 1 rfl) ?_
    refine lv_imul hx hb dX7_loudness_15 ?_
    refine lv_goto (tgt := 20) hx hb dX7_loudness_16 (by decide) ?_
    refine lv_istore (lv' := [(5, .int (2 * p1)), (4, .int (p1 + 2)), (3, .int p1), (0, .int p0), (1, .int p1), (2, .int p2)]) hx hb dX7_loudness_20 hl (by decide) rfl (fun ls hl => ?_)
    refine lv_iload_n hx hb dX7_loudness_22 rfl (lv_at hl 3 rfl) ?_
    rcases Decidable.em (p0 = 1) with c_23_1 | c_23_1
    · have hm := it_s c_23_1 hm
      refine lv_tableIn (tgt := 56) hx hb dX7_loudness_23 (by rw [c_23_1]; decide) (by rw [c_23_1]; decide) (by rw [c_23_1]; rfl) (by decide) ?_
      refine lv_iload hx hb dX7_loudness_56 (lv_at hl 1 rfl) ?_
      have hm := Option.some.inj hm
      subst hm
      exact q_iret (v := (p1 + 2)) hx hb hr hlocks hP hS dX7_loudness_58
    have hm := it_n c_23_1 hm
    rcases Decidable.em (p0 = 2) with c_23_2 | c_23_2
    · have hm := it_s c_23_2 hm
      refine lv_tableIn (tgt := 59) hx hb dX7_loudness_23 (by rw [c_23_2]; decide) (by rw [c_23_2]; decide) (by rw [c_23_2]; rfl) (by decide) ?_
      refine lv_iload hx hb dX7_loudness_59 (lv_at hl 0 rfl) ?_
      have hm := Option.some.inj hm
      subst hm
      exact q_iret (v := (2 * p1)) hx hb hr hlocks hP hS dX7_loudness_61
    have hm := it_n c_23_2 hm
    rcases Decidable.em (p0 = 3) with c_23_3 | c_23_3
    · have hm := it_s c_23_3 hm
      refine lv_tableIn (tgt := 62) hx hb dX7_loudness_23 (by rw [c_23_3]; decide) (by rw [c_23_3]; decide) (by rw [c_23_3]; rfl) (by decide) ?_
      refine lv_iload_n hx hb dX7_loudness_62 rfl (lv_at hl 2 rfl) ?_
      refine lv_iconst (v := 1) hx hb dX7_loudness_63 (by decide) ?_
      refine lv_iadd hx hb dX7_loudness_64 ?_
      refine lv_iconst (v := 2) hx hb dX7_loudness_65 (by decide) ?_
      refine lv_idiv hx hb dX7_loudness_66 (by decide) ?_
      have hm := Option.some.inj hm
      subst hm
      exact q_iret (v := ((p1 + 1) / 2)) hx hb hr hlocks hP hS dX7_loudness_67
    have hm := it_n c_23_3 hm
    rcases Decidable.em (p0 = 4) with c_23_4 | c_23_4
    · have hm := it_s c_23_4 hm
      refine lv_tableIn (tgt := 68) hx hb dX7_loudness_23 (by rw [c_23_4]; decide) (by rw [c_23_4]; decide) (by rw [c_23_4]; rfl) (by decide) ?_
      refine lv_iload_n hx hb dX7_loudness_68 rfl (lv_at hl 5 rfl) ?_
      refine lv_iconst (v := 2) hx hb dX7_loudness_69 (by decide) ?_
      refine lv_irem hx hb dX7_loudness_70 (by decide) ?_
      refine lv_if_ne (tgt := 79) hx hb dX7_loudness_71 (by decide) (fun c_71 => ?_) (fun c_71 => ?_)
      · have hm := it_n c_71 hm
        refine lv_iconst (v := 0) hx hb dX7_loudness_79 (by decide) ?_
        have hm := Option.some.inj hm
        subst hm
        exact q_iret (v := 0) hx hb hr hlocks hP hS dX7_loudness_80
      · have hm := it_s c_71 hm
        refine lv_iload hx hb dX7_loudness_74 (lv_at hl 1 rfl) ?_
        refine lv_goto (tgt := 80) hx hb dX7_loudness_76 (by decide) ?_
        have hm := Option.some.inj hm
        subst hm
        exact q_iret (v := (p1 + 2)) hx hb hr hlocks hP hS dX7_loudness_80
    have hm := it_n c_23_4 hm
    rcases Decidable.em (p0 = 5) with c_23_5 | c_23_5
    · have hm := it_s c_23_5 hm
      refine lv_tableIn (tgt := 81) hx hb dX7_loudness_23 (by rw [c_23_5]; decide) (by rw [c_23_5]; decide) (by rw [c_23_5]; rfl) (by decide) ?_
      refine lv_iload hx hb dX7_loudness_81 (lv_at hl 0 rfl) ?_
      refine lv_iconst (v := 3) hx hb dX7_loudness_83 (by decide) ?_
      refine lv_icmp_le (tgt := 94) hx hb dX7_loudness_84 (by decide) (fun c_84 => ?_) (fun c_84 => ?_)
      · have hm := it_s c_84 hm
        refine lv_iconst (v := 0) hx hb dX7_loudness_94 (by decide) ?_
        have hm := Option.some.inj hm
        subst hm
        exact q_iret (v := 0) hx hb hr hlocks hP hS dX7_loudness_95
      · have hm := it_n c_84 hm
        refine lv_iload hx hb dX7_loudness_87 (lv_at hl 0 rfl) ?_
        refine lv_iconst (v := 3) hx hb dX7_loudness_89 (by decide) ?_
        refine lv_isub hx hb dX7_loudness_90 ?_
        refine lv_goto (tgt := 95) hx hb dX7_loudness_91 (by decide) ?_
        have hm := Option.some.inj hm
        subst hm
        exact q_iret (v := ((2 * p1) - 3)) hx hb hr hlocks hP hS dX7_loudness_95
    have hm := it_n c_23_5 hm
    have ht_0 := lv_neT c_23_1 (show (1 : Int32).toInt = 1 by decide)
    have ht_1 := lv_neT c_23_2 (show (2 : Int32).toInt = 2 by decide)
    have ht_2 := lv_neT c_23_3 (show (3 : Int32).toInt = 3 by decide)
    have ht_3 := lv_neT c_23_4 (show (4 : Int32).toInt = 4 by decide)
    have ht_4 := lv_neT c_23_5 (show (5 : Int32).toInt = 5 by decide)
    refine lv_tableOut (tgt := 96) hx hb dX7_loudness_23 (by omega) (by decide) ?_
    refine lv_iload_n hx hb dX7_loudness_96 rfl (lv_at hl 2 rfl) ?_
    have hm := Option.some.inj hm
    subst hm
    exact q_iret (v := p1) hx hb hr hlocks hP hS dX7_loudness_97
theorem mb_X7_belief : q_mb yX7_belief cX7_belief 6 (some .int) 3 := ⟨wc_X7_belief, wn_X7, by decide, by decide, by decide +kernel⟩
def wd_X7_belief (cI cZ : ClassId) : va_W := []
def fm_X7_belief (p0 : Int32) (p1 : Int32) (p2 : Int32) : Option (Int32) := if p1 ≤ p2 then (if p1 < 1 then (if p0 = 1 then (some ((0 / 2))) else if p0 = 2 then (some (0)) else if p0 = 3 then (if 4 ≤ p1 then (some ((0 / 2))) else (some (0))) else if p0 = 4 then (some (0)) else if p0 = 5 then (some ((2 * 0))) else (some (0))) else (if p0 = 1 then (some ((0 / 2))) else if p0 = 2 then (some ((0 + 1))) else if p0 = 3 then (if 4 ≤ p1 then (some ((0 / 2))) else (some (0))) else if p0 = 4 then (some (0)) else if p0 = 5 then (some ((2 * (0 + 1)))) else (some (0)))) else (if p1 < 1 then (if p0 = 1 then (some (((p1 - p2) / 2))) else if p0 = 2 then (some ((p1 - p2))) else if p0 = 3 then (if 4 ≤ p1 then (some (((p1 - p2) / 2))) else (some (0))) else if p0 = 4 then (if 5 ≤ (p1 - p2) then (some (5)) else (some ((p1 - p2)))) else if p0 = 5 then (some ((2 * (p1 - p2)))) else (some ((p1 - p2)))) else (if p0 = 1 then (some (((p1 - p2) / 2))) else if p0 = 2 then (some (((p1 - p2) + 1))) else if p0 = 3 then (if 4 ≤ p1 then (some (((p1 - p2) / 2))) else (some (0))) else if p0 = 4 then (if 5 ≤ (p1 - p2) then (some (5)) else (some ((p1 - p2)))) else if p0 = 5 then (some ((2 * ((p1 - p2) + 1)))) else (some ((p1 - p2)))))
set_option maxHeartbeats 4000000 in
set_option maxRecDepth 100000 in
theorem c_X7_belief (l : Launch) (D : va_G) (cI cZ : ClassId) (sz : Nat) (p0 : Int32) (p1 : Int32) (p2 : Int32) (out : (Int32)) (hm : fm_X7_belief p0 p1 p2 = some out) : Met l yX7_belief (Cond.code yX7_belief cX7_belief 6 (some .int) :: bg) { frames := 0, cells := 0, slots := 0, locals := 0 } (va_Pc [.int p0, .int p1, .int p2] (q_pre D cI cZ sz (wd_X7_belief cI cZ))) (q_Qi D (wd_X7_belief cI cZ) out (va_A (wd_X7_belief cI cZ) sz)) 0 0 (va_A (wd_X7_belief cI cZ) sz) := by
  refine q_met (fun A => q_Qi D (wd_X7_belief cI cZ) out A) (by decide) (Nat.le_of_ble_eq_true rfl) ?_
  intro p e s m below meth c ls A hx hb hr hml hown hts hlocks _ hA hS hP hD hK hN hl
  have hown : s.vm.findClass RX7 = some m.cls := hown
  have hl : lv_has ls 6 [(0, .int p0), (1, .int p1), (2, .int p2)] := hl
  unfold fm_X7_belief at hm
  refine q_gen hS hP ?_
  intro H locs hP hS
  refine lv_iload_n hx hb dX7_belief_0 rfl (lv_at hl 1 rfl) ?_
  refine lv_iload_n hx hb dX7_belief_1 rfl (lv_at hl 2 rfl) ?_
  refine lv_icmp_le (tgt := 11) hx hb dX7_belief_2 (by decide) (fun c_2 => ?_) (fun c_2 => ?_)
  · have hm := it_s c_2 hm
    refine lv_iconst (v := 0) hx hb dX7_belief_11 (by decide) ?_
    refine lv_istore_n (lv' := [(3, .int 0), (0, .int p0), (1, .int p1), (2, .int p2)]) hx hb dX7_belief_12 rfl hl (by decide) rfl (fun ls hl => ?_)
    refine lv_iload_n hx hb dX7_belief_13 rfl (lv_at hl 0 rfl) ?_
    refine lv_iconst (v := 2) hx hb dX7_belief_14 (by decide) ?_
    refine lv_idiv hx hb dX7_belief_15 (by decide) ?_
    refine lv_istore (lv' := [(4, .int (0 / 2)), (3, .int 0), (0, .int p0), (1, .int p1), (2, .int p2)]) hx hb dX7_belief_16 hl (by decide) rfl (fun ls hl => ?_)
    refine lv_iload_n hx hb dX7_belief_18 rfl (lv_at hl 3 rfl) ?_
    refine lv_iconst (v := 1) hx hb dX7_belief_19 (by decide) ?_
    refine lv_icmp_lt (tgt := 29) hx hb dX7_belief_20 (by decide) (fun c_20 => ?_) (fun c_20 => ?_)
    · have hm := it_s c_20 hm
      refine lv_iload_n hx hb dX7_belief_29 rfl (lv_at hl 1 rfl) ?_
      refine lv_istore (lv' := [(5, .int 0), (4, .int (0 / 2)), (3, .int 0), (0, .int p0), (1, .int p1), (2, .int p2)]) hx hb dX7_belief_30 hl (by decide) rfl (fun ls hl => ?_)
      refine lv_iload_n hx hb dX7_belief_32 rfl (lv_at hl 3 rfl) ?_
      rcases Decidable.em (p0 = 1) with c_33_1 | c_33_1
      · have hm := it_s c_33_1 hm
        refine lv_tableIn (tgt := 68) hx hb dX7_belief_33 (by rw [c_33_1]; decide) (by rw [c_33_1]; decide) (by rw [c_33_1]; rfl) (by decide) ?_
        refine lv_iload hx hb dX7_belief_68 (lv_at hl 1 rfl) ?_
        have hm := Option.some.inj hm
        subst hm
        exact q_iret (v := (0 / 2)) hx hb hr hlocks hP hS dX7_belief_70
      have hm := it_n c_33_1 hm
      rcases Decidable.em (p0 = 2) with c_33_2 | c_33_2
      · have hm := it_s c_33_2 hm
        refine lv_tableIn (tgt := 71) hx hb dX7_belief_33 (by rw [c_33_2]; decide) (by rw [c_33_2]; decide) (by rw [c_33_2]; rfl) (by decide) ?_
        refine lv_iload hx hb dX7_belief_71 (lv_at hl 0 rfl) ?_
        have hm := Option.some.inj hm
        subst hm
        exact q_iret (v := 0) hx hb hr hlocks hP hS dX7_belief_73
      have hm := it_n c_33_2 hm
      rcases Decidable.em (p0 = 3) with c_33_3 | c_33_3
      · have hm := it_s c_33_3 hm
        refine lv_tableIn (tgt := 74) hx hb dX7_belief_33 (by rw [c_33_3]; decide) (by rw [c_33_3]; decide) (by rw [c_33_3]; rfl) (by decide) ?_
        refine lv_iload_n hx hb dX7_belief_74 rfl (lv_at hl 4 rfl) ?_
        refine lv_iconst (v := 4) hx hb dX7_belief_75 (by decide) ?_
        refine lv_icmp_ge (tgt := 83) hx hb dX7_belief_76 (by decide) (fun c_76 => ?_) (fun c_76 => ?_)
        · have hm := it_s c_76 hm
          refine lv_iload hx hb dX7_belief_83 (lv_at hl 1 rfl) ?_
          have hm := Option.some.inj hm
          subst hm
          exact q_iret (v := (0 / 2)) hx hb hr hlocks hP hS dX7_belief_85
        · have hm := it_n c_76 hm
          refine lv_iconst (v := 0) hx hb dX7_belief_79 (by decide) ?_
          refine lv_goto (tgt := 85) hx hb dX7_belief_80 (by decide) ?_
          have hm := Option.some.inj hm
          subst hm
          exact q_iret (v := 0) hx hb hr hlocks hP hS dX7_belief_85
      have hm := it_n c_33_3 hm
      rcases Decidable.em (p0 = 4) with c_33_4 | c_33_4
      · have hm := it_s c_33_4 hm
        refine lv_tableIn (tgt := 86) hx hb dX7_belief_33 (by rw [c_33_4]; decide) (by rw [c_33_4]; decide) (by rw [c_33_4]; rfl) (by decide) ?_
        refine lv_iload_n hx hb dX7_belief_86 rfl (lv_at hl 2 rfl) ?_
        refine lv_iconst (v := 5) hx hb dX7_belief_87 (by decide) ?_
        refine lv_icmp_ge (tgt := 95) hx hb dX7_belief_88 (by decide) (fun c => absurd c (by decide)) (fun _ => ?_)
        refine lv_iload_n hx hb dX7_belief_91 rfl (lv_at hl 2 rfl) ?_
        refine lv_goto (tgt := 96) hx hb dX7_belief_92 (by decide) ?_
        have hm := Option.some.inj hm
        subst hm
        exact q_iret (v := 0) hx hb hr hlocks hP hS dX7_belief_96
      have hm := it_n c_33_4 hm
      rcases Decidable.em (p0 = 5) with c_33_5 | c_33_5
      · have hm := it_s c_33_5 hm
        refine lv_tableIn (tgt := 97) hx hb dX7_belief_33 (by rw [c_33_5]; decide) (by rw [c_33_5]; decide) (by rw [c_33_5]; rfl) (by decide) ?_
        refine lv_iconst (v := 2) hx hb dX7_belief_97 (by decide) ?_
        refine lv_iload hx hb dX7_belief_98 (lv_at hl 0 rfl) ?_
        refine lv_imul hx hb dX7_belief_100 ?_
        have hm := Option.some.inj hm
        subst hm
        exact q_iret (v := (2 * 0)) hx hb hr hlocks hP hS dX7_belief_101
      have hm := it_n c_33_5 hm
      have ht_0 := lv_neT c_33_1 (show (1 : Int32).toInt = 1 by decide)
      have ht_1 := lv_neT c_33_2 (show (2 : Int32).toInt = 2 by decide)
      have ht_2 := lv_neT c_33_3 (show (3 : Int32).toInt = 3 by decide)
      have ht_3 := lv_neT c_33_4 (show (4 : Int32).toInt = 4 by decide)
      have ht_4 := lv_neT c_33_5 (show (5 : Int32).toInt = 5 by decide)
      refine lv_tableOut (tgt := 102) hx hb dX7_belief_33 (by omega) (by decide) ?_
      refine lv_iload_n hx hb dX7_belief_102 rfl (lv_at hl 2 rfl) ?_
      have hm := Option.some.inj hm
      subst hm
      exact q_iret (v := 0) hx hb hr hlocks hP hS dX7_belief_103
    · have hm := it_n c_20 hm
      refine lv_iload_n hx hb dX7_belief_23 rfl (lv_at hl 1 rfl) ?_
      refine lv_iconst (v := 1) hx hb dX7_belief_24 (by decide) ?_
      refine lv_iadd hx hb dX7_belief_25 ?_
      refine lv_goto (tgt := 30) hx hb dX7_belief_26 (by decide) ?_
      refine lv_istore (lv' := [(5, .int (0 + 1)), (4, .int (0 / 2)), (3, .int 0), (0, .int p0), (1, .int p1), (2, .int p2)]) hx hb dX7_belief_30 hl (by decide) rfl (fun ls hl => ?_)
      refine lv_iload_n hx hb dX7_belief_32 rfl (lv_at hl 3 rfl) ?_
      rcases Decidable.em (p0 = 1) with c_33_1 | c_33_1
      · have hm := it_s c_33_1 hm
        refine lv_tableIn (tgt := 68) hx hb dX7_belief_33 (by rw [c_33_1]; decide) (by rw [c_33_1]; decide) (by rw [c_33_1]; rfl) (by decide) ?_
        refine lv_iload hx hb dX7_belief_68 (lv_at hl 1 rfl) ?_
        have hm := Option.some.inj hm
        subst hm
        exact q_iret (v := (0 / 2)) hx hb hr hlocks hP hS dX7_belief_70
      have hm := it_n c_33_1 hm
      rcases Decidable.em (p0 = 2) with c_33_2 | c_33_2
      · have hm := it_s c_33_2 hm
        refine lv_tableIn (tgt := 71) hx hb dX7_belief_33 (by rw [c_33_2]; decide) (by rw [c_33_2]; decide) (by rw [c_33_2]; rfl) (by decide) ?_
        refine lv_iload hx hb dX7_belief_71 (lv_at hl 0 rfl) ?_
        have hm := Option.some.inj hm
        subst hm
        exact q_iret (v := (0 + 1)) hx hb hr hlocks hP hS dX7_belief_73
      have hm := it_n c_33_2 hm
      rcases Decidable.em (p0 = 3) with c_33_3 | c_33_3
      · have hm := it_s c_33_3 hm
        refine lv_tableIn (tgt := 74) hx hb dX7_belief_33 (by rw [c_33_3]; decide) (by rw [c_33_3]; decide) (by rw [c_33_3]; rfl) (by decide) ?_
        refine lv_iload_n hx hb dX7_belief_74 rfl (lv_at hl 4 rfl) ?_
        refine lv_iconst (v := 4) hx hb dX7_belief_75 (by decide) ?_
        refine lv_icmp_ge (tgt := 83) hx hb dX7_belief_76 (by decide) (fun c_76 => ?_) (fun c_76 => ?_)
        · have hm := it_s c_76 hm
          refine lv_iload hx hb dX7_belief_83 (lv_at hl 1 rfl) ?_
          have hm := Option.some.inj hm
          subst hm
          exact q_iret (v := (0 / 2)) hx hb hr hlocks hP hS dX7_belief_85
        · have hm := it_n c_76 hm
          refine lv_iconst (v := 0) hx hb dX7_belief_79 (by decide) ?_
          refine lv_goto (tgt := 85) hx hb dX7_belief_80 (by decide) ?_
          have hm := Option.some.inj hm
          subst hm
          exact q_iret (v := 0) hx hb hr hlocks hP hS dX7_belief_85
      have hm := it_n c_33_3 hm
      rcases Decidable.em (p0 = 4) with c_33_4 | c_33_4
      · have hm := it_s c_33_4 hm
        refine lv_tableIn (tgt := 86) hx hb dX7_belief_33 (by rw [c_33_4]; decide) (by rw [c_33_4]; decide) (by rw [c_33_4]; rfl) (by decide) ?_
        refine lv_iload_n hx hb dX7_belief_86 rfl (lv_at hl 2 rfl) ?_
        refine lv_iconst (v := 5) hx hb dX7_belief_87 (by decide) ?_
        refine lv_icmp_ge (tgt := 95) hx hb dX7_belief_88 (by decide) (fun c => absurd c (by decide)) (fun _ => ?_)
        refine lv_iload_n hx hb dX7_belief_91 rfl (lv_at hl 2 rfl) ?_
        refine lv_goto (tgt := 96) hx hb dX7_belief_92 (by decide) ?_
        have hm := Option.some.inj hm
        subst hm
        exact q_iret (v := 0) hx hb hr hlocks hP hS dX7_belief_96
      have hm := it_n c_33_4 hm
      rcases Decidable.em (p0 = 5) with c_33_5 | c_33_5
      · have hm := it_s c_33_5 hm
        refine lv_tableIn (tgt := 97) hx hb dX7_belief_33 (by rw [c_33_5]; decide) (by rw [c_33_5]; decide) (by rw [c_33_5]; rfl) (by decide) ?_
        refine lv_iconst (v := 2) hx hb dX7_belief_97 (by decide) ?_
        refine lv_iload hx hb dX7_belief_98 (lv_at hl 0 rfl) ?_
        refine lv_imul hx hb dX7_belief_100 ?_
        have hm := Option.some.inj hm
        subst hm
        exact q_iret (v := (2 * (0 + 1))) hx hb hr hlocks hP hS dX7_belief_101
      have hm := it_n c_33_5 hm
      have ht_0 := lv_neT c_33_1 (show (1 : Int32).toInt = 1 by decide)
      have ht_1 := lv_neT c_33_2 (show (2 : Int32).toInt = 2 by decide)
      have ht_2 := lv_neT c_33_3 (show (3 : Int32).toInt = 3 by decide)
      have ht_3 := lv_neT c_33_4 (show (4 : Int32).toInt = 4 by decide)
      have ht_4 := lv_neT c_33_5 (show (5 : Int32).toInt = 5 by decide)
      refine lv_tableOut (tgt := 102) hx hb dX7_belief_33 (by omega) (by decide) ?_
      refine lv_iload_n hx hb dX7_belief_102 rfl (lv_at hl 2 rfl) ?_
      have hm := Option.some.inj hm
      subst hm
      exact q_iret (v := 0) hx hb hr hlocks hP hS dX7_belief_103
  · have hm := it_n c_2 hm
    refine lv_iload_n hx hb dX7_belief_5 rfl (lv_at hl 1 rfl) ?_
    refine lv_iload_n hx hb dX7_belief_6 rfl (lv_at hl 2 rfl) ?_
    refine lv_isub hx hb dX7_belief_7 ?_
    refine lv_goto (tgt := 12) hx hb dX7_belief_8 (by decide) ?_
    refine lv_istore_n (lv' := [(3, .int (p1 - p2)), (0, .int p0), (1, .int p1), (2, .int p2)]) hx hb dX7_belief_12 rfl hl (by decide) rfl (fun ls hl => ?_)
    refine lv_iload_n hx hb dX7_belief_13 rfl (lv_at hl 0 rfl) ?_
    refine lv_iconst (v := 2) hx hb dX7_belief_14 (by decide) ?_
    refine lv_idiv hx hb dX7_belief_15 (by decide) ?_
    refine lv_istore (lv' := [(4, .int ((p1 - p2) / 2)), (3, .int (p1 - p2)), (0, .int p0), (1, .int p1), (2, .int p2)]) hx hb dX7_belief_16 hl (by decide) rfl (fun ls hl => ?_)
    refine lv_iload_n hx hb dX7_belief_18 rfl (lv_at hl 3 rfl) ?_
    refine lv_iconst (v := 1) hx hb dX7_belief_19 (by decide) ?_
    refine lv_icmp_lt (tgt := 29) hx hb dX7_belief_20 (by decide) (fun c_20 => ?_) (fun c_20 => ?_)
    · have hm := it_s c_20 hm
      refine lv_iload_n hx hb dX7_belief_29 rfl (lv_at hl 1 rfl) ?_
      refine lv_istore (lv' := [(5, .int (p1 - p2)), (4, .int ((p1 - p2) / 2)), (3, .int (p1 - p2)), (0, .int p0), (1, .int p1), (2, .int p2)]) hx hb dX7_belief_30 hl (by decide) rfl (fun ls hl => ?_)
      refine lv_iload_n hx hb dX7_belief_32 rfl (lv_at hl 3 rfl) ?_
      rcases Decidable.em (p0 = 1) with c_33_1 | c_33_1
      · have hm := it_s c_33_1 hm
        refine lv_tableIn (tgt := 68) hx hb dX7_belief_33 (by rw [c_33_1]; decide) (by rw [c_33_1]; decide) (by rw [c_33_1]; rfl) (by decide) ?_
        refine lv_iload hx hb dX7_belief_68 (lv_at hl 1 rfl) ?_
        have hm := Option.some.inj hm
        subst hm
        exact q_iret (v := ((p1 - p2) / 2)) hx hb hr hlocks hP hS dX7_belief_70
      have hm := it_n c_33_1 hm
      rcases Decidable.em (p0 = 2) with c_33_2 | c_33_2
      · have hm := it_s c_33_2 hm
        refine lv_tableIn (tgt := 71) hx hb dX7_belief_33 (by rw [c_33_2]; decide) (by rw [c_33_2]; decide) (by rw [c_33_2]; rfl) (by decide) ?_
        refine lv_iload hx hb dX7_belief_71 (lv_at hl 0 rfl) ?_
        have hm := Option.some.inj hm
        subst hm
        exact q_iret (v := (p1 - p2)) hx hb hr hlocks hP hS dX7_belief_73
      have hm := it_n c_33_2 hm
      rcases Decidable.em (p0 = 3) with c_33_3 | c_33_3
      · have hm := it_s c_33_3 hm
        refine lv_tableIn (tgt := 74) hx hb dX7_belief_33 (by rw [c_33_3]; decide) (by rw [c_33_3]; decide) (by rw [c_33_3]; rfl) (by decide) ?_
        refine lv_iload_n hx hb dX7_belief_74 rfl (lv_at hl 4 rfl) ?_
        refine lv_iconst (v := 4) hx hb dX7_belief_75 (by decide) ?_
        refine lv_icmp_ge (tgt := 83) hx hb dX7_belief_76 (by decide) (fun c_76 => ?_) (fun c_76 => ?_)
        · have hm := it_s c_76 hm
          refine lv_iload hx hb dX7_belief_83 (lv_at hl 1 rfl) ?_
          have hm := Option.some.inj hm
          subst hm
          exact q_iret (v := ((p1 - p2) / 2)) hx hb hr hlocks hP hS dX7_belief_85
        · have hm := it_n c_76 hm
          refine lv_iconst (v := 0) hx hb dX7_belief_79 (by decide) ?_
          refine lv_goto (tgt := 85) hx hb dX7_belief_80 (by decide) ?_
          have hm := Option.some.inj hm
          subst hm
          exact q_iret (v := 0) hx hb hr hlocks hP hS dX7_belief_85
      have hm := it_n c_33_3 hm
      rcases Decidable.em (p0 = 4) with c_33_4 | c_33_4
      · have hm := it_s c_33_4 hm
        refine lv_tableIn (tgt := 86) hx hb dX7_belief_33 (by rw [c_33_4]; decide) (by rw [c_33_4]; decide) (by rw [c_33_4]; rfl) (by decide) ?_
        refine lv_iload_n hx hb dX7_belief_86 rfl (lv_at hl 2 rfl) ?_
        refine lv_iconst (v := 5) hx hb dX7_belief_87 (by decide) ?_
        refine lv_icmp_ge (tgt := 95) hx hb dX7_belief_88 (by decide) (fun c_88 => ?_) (fun c_88 => ?_)
        · have hm := it_s c_88 hm
          refine lv_iconst (v := 5) hx hb dX7_belief_95 (by decide) ?_
          have hm := Option.some.inj hm
          subst hm
          exact q_iret (v := 5) hx hb hr hlocks hP hS dX7_belief_96
        · have hm := it_n c_88 hm
          refine lv_iload_n hx hb dX7_belief_91 rfl (lv_at hl 2 rfl) ?_
          refine lv_goto (tgt := 96) hx hb dX7_belief_92 (by decide) ?_
          have hm := Option.some.inj hm
          subst hm
          exact q_iret (v := (p1 - p2)) hx hb hr hlocks hP hS dX7_belief_96
      have hm := it_n c_33_4 hm
      rcases Decidable.em (p0 = 5) with c_33_5 | c_33_5
      · have hm := it_s c_33_5 hm
        refine lv_tableIn (tgt := 97) hx hb dX7_belief_33 (by rw [c_33_5]; decide) (by rw [c_33_5]; decide) (by rw [c_33_5]; rfl) (by decide) ?_
        refine lv_iconst (v := 2) hx hb dX7_belief_97 (by decide) ?_
        refine lv_iload hx hb dX7_belief_98 (lv_at hl 0 rfl) ?_
        refine lv_imul hx hb dX7_belief_100 ?_
        have hm := Option.some.inj hm
        subst hm
        exact q_iret (v := (2 * (p1 - p2))) hx hb hr hlocks hP hS dX7_belief_101
      have hm := it_n c_33_5 hm
      have ht_0 := lv_neT c_33_1 (show (1 : Int32).toInt = 1 by decide)
      have ht_1 := lv_neT c_33_2 (show (2 : Int32).toInt = 2 by decide)
      have ht_2 := lv_neT c_33_3 (show (3 : Int32).toInt = 3 by decide)
      have ht_3 := lv_neT c_33_4 (show (4 : Int32).toInt = 4 by decide)
      have ht_4 := lv_neT c_33_5 (show (5 : Int32).toInt = 5 by decide)
      refine lv_tableOut (tgt := 102) hx hb dX7_belief_33 (by omega) (by decide) ?_
      refine lv_iload_n hx hb dX7_belief_102 rfl (lv_at hl 2 rfl) ?_
      have hm := Option.some.inj hm
      subst hm
      exact q_iret (v := (p1 - p2)) hx hb hr hlocks hP hS dX7_belief_103
    · have hm := it_n c_20 hm
      refine lv_iload_n hx hb dX7_belief_23 rfl (lv_at hl 1 rfl) ?_
      refine lv_iconst (v := 1) hx hb dX7_belief_24 (by decide) ?_
      refine lv_iadd hx hb dX7_belief_25 ?_
      refine lv_goto (tgt := 30) hx hb dX7_belief_26 (by decide) ?_
      refine lv_istore (lv' := [(5, .int ((p1 - p2) + 1)), (4, .int ((p1 - p2) / 2)), (3, .int (p1 - p2)), (0, .int p0), (1, .int p1), (2, .int p2)]) hx hb dX7_belief_30 hl (by decide) rfl (fun ls hl => ?_)
      refine lv_iload_n hx hb dX7_belief_32 rfl (lv_at hl 3 rfl) ?_
      rcases Decidable.em (p0 = 1) with c_33_1 | c_33_1
      · have hm := it_s c_33_1 hm
        refine lv_tableIn (tgt := 68) hx hb dX7_belief_33 (by rw [c_33_1]; decide) (by rw [c_33_1]; decide) (by rw [c_33_1]; rfl) (by decide) ?_
        refine lv_iload hx hb dX7_belief_68 (lv_at hl 1 rfl) ?_
        have hm := Option.some.inj hm
        subst hm
        exact q_iret (v := ((p1 - p2) / 2)) hx hb hr hlocks hP hS dX7_belief_70
      have hm := it_n c_33_1 hm
      rcases Decidable.em (p0 = 2) with c_33_2 | c_33_2
      · have hm := it_s c_33_2 hm
        refine lv_tableIn (tgt := 71) hx hb dX7_belief_33 (by rw [c_33_2]; decide) (by rw [c_33_2]; decide) (by rw [c_33_2]; rfl) (by decide) ?_
        refine lv_iload hx hb dX7_belief_71 (lv_at hl 0 rfl) ?_
        have hm := Option.some.inj hm
        subst hm
        exact q_iret (v := ((p1 - p2) + 1)) hx hb hr hlocks hP hS dX7_belief_73
      have hm := it_n c_33_2 hm
      rcases Decidable.em (p0 = 3) with c_33_3 | c_33_3
      · have hm := it_s c_33_3 hm
        refine lv_tableIn (tgt := 74) hx hb dX7_belief_33 (by rw [c_33_3]; decide) (by rw [c_33_3]; decide) (by rw [c_33_3]; rfl) (by decide) ?_
        refine lv_iload_n hx hb dX7_belief_74 rfl (lv_at hl 4 rfl) ?_
        refine lv_iconst (v := 4) hx hb dX7_belief_75 (by decide) ?_
        refine lv_icmp_ge (tgt := 83) hx hb dX7_belief_76 (by decide) (fun c_76 => ?_) (fun c_76 => ?_)
        · have hm := it_s c_76 hm
          refine lv_iload hx hb dX7_belief_83 (lv_at hl 1 rfl) ?_
          have hm := Option.some.inj hm
          subst hm
          exact q_iret (v := ((p1 - p2) / 2)) hx hb hr hlocks hP hS dX7_belief_85
        · have hm := it_n c_76 hm
          refine lv_iconst (v := 0) hx hb dX7_belief_79 (by decide) ?_
          refine lv_goto (tgt := 85) hx hb dX7_belief_80 (by decide) ?_
          have hm := Option.some.inj hm
          subst hm
          exact q_iret (v := 0) hx hb hr hlocks hP hS dX7_belief_85
      have hm := it_n c_33_3 hm
      rcases Decidable.em (p0 = 4) with c_33_4 | c_33_4
      · have hm := it_s c_33_4 hm
        refine lv_tableIn (tgt := 86) hx hb dX7_belief_33 (by rw [c_33_4]; decide) (by rw [c_33_4]; decide) (by rw [c_33_4]; rfl) (by decide) ?_
        refine lv_iload_n hx hb dX7_belief_86 rfl (lv_at hl 2 rfl) ?_
        refine lv_iconst (v := 5) hx hb dX7_belief_87 (by decide) ?_
        refine lv_icmp_ge (tgt := 95) hx hb dX7_belief_88 (by decide) (fun c_88 => ?_) (fun c_88 => ?_)
        · have hm := it_s c_88 hm
          refine lv_iconst (v := 5) hx hb dX7_belief_95 (by decide) ?_
          have hm := Option.some.inj hm
          subst hm
          exact q_iret (v := 5) hx hb hr hlocks hP hS dX7_belief_96
        · have hm := it_n c_88 hm
          refine lv_iload_n hx hb dX7_belief_91 rfl (lv_at hl 2 rfl) ?_
          refine lv_goto (tgt := 96) hx hb dX7_belief_92 (by decide) ?_
          have hm := Option.some.inj hm
          subst hm
          exact q_iret (v := (p1 - p2)) hx hb hr hlocks hP hS dX7_belief_96
      have hm := it_n c_33_4 hm
      rcases Decidable.em (p0 = 5) with c_33_5 | c_33_5
      · have hm := it_s c_33_5 hm
        refine lv_tableIn (tgt := 97) hx hb dX7_belief_33 (by rw [c_33_5]; decide) (by rw [c_33_5]; decide) (by rw [c_33_5]; rfl) (by decide) ?_
        refine lv_iconst (v := 2) hx hb dX7_belief_97 (by decide) ?_
        refine lv_iload hx hb dX7_belief_98 (lv_at hl 0 rfl) ?_
        refine lv_imul hx hb dX7_belief_100 ?_
        have hm := Option.some.inj hm
        subst hm
        exact q_iret (v := (2 * ((p1 - p2) + 1))) hx hb hr hlocks hP hS dX7_belief_101
      have hm := it_n c_33_5 hm
      have ht_0 := lv_neT c_33_1 (show (1 : Int32).toInt = 1 by decide)
      have ht_1 := lv_neT c_33_2 (show (2 : Int32).toInt = 2 by decide)
      have ht_2 := lv_neT c_33_3 (show (3 : Int32).toInt = 3 by decide)
      have ht_3 := lv_neT c_33_4 (show (4 : Int32).toInt = 4 by decide)
      have ht_4 := lv_neT c_33_5 (show (5 : Int32).toInt = 5 by decide)
      refine lv_tableOut (tgt := 102) hx hb dX7_belief_33 (by omega) (by decide) ?_
      refine lv_iload_n hx hb dX7_belief_102 rfl (lv_at hl 2 rfl) ?_
      have hm := Option.some.inj hm
      subst hm
      exact q_iret (v := (p1 - p2)) hx hb hr hlocks hP hS dX7_belief_103
theorem mb_X7_put : q_mb yX7_put cX7_put 3 none 3 := ⟨wc_X7_put, wn_X7, by decide, by decide, by decide +kernel⟩
def wd_X7_put (cI cZ : ClassId) (A0 : Nat) (n0 : Nat) (f0 : Nat → Int32) : va_W := [(A0, .inl (cI, n0, .inl f0))]
def fm_X7_put (n0 : Nat) (p1 : Int32) (p2 : Int32) (f0 : Nat → Int32) : Option ((Nat → Int32)) := if p1 < 0 then (some (f0)) else (if (Int32.ofNat n0) ≤ p1 then (some (f0)) else (gd p1 n0 (some ((upd f0 (Int32.toNatClampNeg p1) p2)))))
set_option maxHeartbeats 4000000 in
set_option maxRecDepth 100000 in
theorem c_X7_put (l : Launch) (D : va_G) (cI cZ : ClassId) (sz : Nat) (A0 : Nat) (n0 : Nat) (f0 : Nat → Int32) (p1 : Int32) (p2 : Int32) (out : ((Nat → Int32))) (hm : fm_X7_put n0 p1 p2 f0 = some out) : Met l yX7_put (Cond.code yX7_put cX7_put 3 none :: bg) { frames := 0, cells := 0, slots := 0, locals := 0 } (va_Pc [.ref A0, .int p1, .int p2] (q_pre D cI cZ sz (wd_X7_put cI cZ A0 n0 f0))) (q_Qv D (wd_X7_put cI cZ A0 n0 out) (va_A (wd_X7_put cI cZ A0 n0 f0) sz)) 0 0 (va_A (wd_X7_put cI cZ A0 n0 f0) sz) := by
  refine q_met (fun A => q_Qv D (wd_X7_put cI cZ A0 n0 out) A) (by decide) (Nat.le_of_ble_eq_true rfl) ?_
  intro p e s m below meth c ls A hx hb hr hml hown hts hlocks _ hA hS hP hD hK hN hl
  have hown : s.vm.findClass RX7 = some m.cls := hown
  have hl : lv_has ls 3 [(0, .ref A0), (1, .int p1), (2, .int p2)] := hl
  unfold fm_X7_put at hm
  refine q_gen hS hP ?_
  intro H locs hP hS
  refine lv_iload_n hx hb dX7_put_0 rfl (lv_at hl 1 rfl) ?_
  refine lv_if_lt (tgt := 14) hx hb dX7_put_1 (by decide) (fun c_1 => ?_) (fun c_1 => ?_)
  · have hm := it_s c_1 hm
    have hm := Option.some.inj hm
    subst hm
    exact q_vret hx hb hr hlocks hP hS dX7_put_14
  · have hm := it_n c_1 hm
    refine lv_iload_n hx hb dX7_put_4 rfl (lv_at hl 1 rfl) ?_
    refine lv_aload_n hx hb dX7_put_5 rfl (lv_at hl 0 rfl) ?_
    refine va_alen (v := (Int32.ofNat n0)) hx hb hK hP 0 0 rfl rfl rfl dX7_put_6 ?_
    refine lv_icmp_ge (tgt := 14) hx hb dX7_put_7 (by decide) (fun c_7 => ?_) (fun c_7 => ?_)
    · have hm := it_s c_7 hm
      have hm := Option.some.inj hm
      subst hm
      exact q_vret hx hb hr hlocks hP hS dX7_put_14
    · have hm := it_n c_7 hm
      refine lv_aload_n hx hb dX7_put_10 rfl (lv_at hl 0 rfl) ?_
      refine lv_iload_n hx hb dX7_put_11 rfl (lv_at hl 1 rfl) ?_
      refine lv_iload_n hx hb dX7_put_12 rfl (lv_at hl 2 rfl) ?_
      obtain ⟨hi_13, hm⟩ := gd_s hm
      refine q_iast (j := (Int32.toNatClampNeg p1)) hx hb hK hP hD hS 0 rfl hi_13 rfl dX7_put_13 (fun H locs hP hD hS => ?_)
      have hP : va_P D vwCl (wd_X7_put cI cZ A0 n0 (upd f0 (Int32.toNatClampNeg p1) p2)) H := hP
      have hD : va_D A (wd_X7_put cI cZ A0 n0 (upd f0 (Int32.toNatClampNeg p1) p2)) := hD
      have hm := Option.some.inj hm
      subst hm
      exact q_vret hx hb hr hlocks hP hS dX7_put_14
theorem mb_X3_write : q_mb yX3_write cX3_write 6 none 3 := ⟨wc_X3_write, wn_X3, by decide, by decide, by decide +kernel⟩
theorem mv_X3_write : q_mv yX3_write 3 := ⟨wi_X3_write, ws_X3_write, _, rfl, rfl⟩
def wd_X3_write (cI cZ : ClassId) (AT AT_c : Nat) (wT : Int32) (nT_c : Nat) (vT_n : Int32) (fT_c : Nat → Int32) : va_W := [(AT, .inr (3, [.int wT, .ref AT_c, .int vT_n])), (AT_c, .inl (cI, nT_c, .inl fT_c))]
def fm_X3_write (wT : Int32) (nT_c : Nat) (p1 : Int32) (p2 : Int32) (p3 : Int32) (vT_n : Int32) (fT_c : Nat → Int32) : Option ((Nat → Int32)) := if p1 < 0 then (some (fT_c)) else (if vT_n ≤ p1 then (some (fT_c)) else (if p2 < 0 then (some (fT_c)) else (if wT ≤ p2 then (some (fT_c)) else (if ((p1 * wT) + p2) < 0 then (some (fT_c)) else (if (Int32.ofNat nT_c) ≤ ((p1 * wT) + p2) then (some (fT_c)) else (gd ((p1 * wT) + p2) nT_c (some ((upd fT_c (Int32.toNatClampNeg ((p1 * wT) + p2)) p3)))))))))
set_option maxHeartbeats 4000000 in
set_option maxRecDepth 100000 in
theorem c_X3_write (l : Launch) (D : va_G) (cI cZ : ClassId) (sz : Nat) (AT AT_c : Nat) (wT : Int32) (nT_c : Nat) (vT_n : Int32) (fT_c : Nat → Int32) (p1 : Int32) (p2 : Int32) (p3 : Int32) (out : ((Nat → Int32))) (hm : fm_X3_write wT nT_c p1 p2 p3 vT_n fT_c = some out) : Met l yX3_write (Cond.code yX3_write cX3_write 6 none :: bg) { frames := 0, cells := 0, slots := 0, locals := 0 } (va_Pc [.ref AT, .int p1, .int p2, .int p3] (q_pre D cI cZ sz (wd_X3_write cI cZ AT AT_c wT nT_c vT_n fT_c))) (q_Qv D (wd_X3_write cI cZ AT AT_c wT nT_c vT_n out) (va_A (wd_X3_write cI cZ AT AT_c wT nT_c vT_n fT_c) sz)) 0 0 (va_A (wd_X3_write cI cZ AT AT_c wT nT_c vT_n fT_c) sz) := by
  refine q_met (fun A => q_Qv D (wd_X3_write cI cZ AT AT_c wT nT_c vT_n out) A) (by decide) (Nat.le_of_ble_eq_true rfl) ?_
  intro p e s m below meth c ls A hx hb hr hml hown hts hlocks _ hA hS hP hD hK hN hl
  have hown : s.vm.findClass RX3 = some m.cls := hown
  have hl : lv_has ls 6 [(0, .ref AT), (1, .int p1), (2, .int p2), (3, .int p3)] := hl
  unfold fm_X3_write at hm
  refine q_gen hS hP ?_
  intro H locs hP hS
  refine lv_iload_n hx hb dX3_write_0 rfl (lv_at hl 1 rfl) ?_
  refine lv_aload_n hx hb dX3_write_1 rfl (lv_at hl 0 rfl) ?_
  refine gf_X3_7 (v := .int wT) hx hb hts hown hK hN hP 0 rfl rfl dX3_write_2 ?_
  refine lv_imul hx hb dX3_write_5 ?_
  refine lv_iload_n hx hb dX3_write_6 rfl (lv_at hl 2 rfl) ?_
  refine lv_iadd hx hb dX3_write_7 ?_
  refine lv_istore (lv' := [(4, .int ((p1 * wT) + p2)), (0, .ref AT), (1, .int p1), (2, .int p2), (3, .int p3)]) hx hb dX3_write_8 hl (by decide) rfl (fun ls hl => ?_)
  refine lv_iload_n hx hb dX3_write_10 rfl (lv_at hl 2 rfl) ?_
  refine lv_if_lt (tgt := 38) hx hb dX3_write_11 (by decide) (fun c_11 => ?_) (fun c_11 => ?_)
  · have hm := it_s c_11 hm
    refine lv_iconst (v := 0) hx hb dX3_write_38 (by decide) ?_
    refine lv_istore (lv' := [(5, .int 0), (4, .int ((p1 * wT) + p2)), (0, .ref AT), (1, .int p1), (2, .int p2), (3, .int p3)]) hx hb dX3_write_39 hl (by decide) rfl (fun ls hl => ?_)
    refine lv_iload hx hb dX3_write_41 (lv_at hl 0 rfl) ?_
    refine lv_if_eq (tgt := 69) hx hb dX3_write_43 (by decide) (fun _ => ?_) (fun c => absurd c (by decide))
    have hm := Option.some.inj hm
    subst hm
    exact q_vret hx hb hr hlocks hP hS dX3_write_69
  · have hm := it_n c_11 hm
    refine lv_iload_n hx hb dX3_write_14 rfl (lv_at hl 2 rfl) ?_
    refine lv_aload_n hx hb dX3_write_15 rfl (lv_at hl 1 rfl) ?_
    refine gf_X3_17 (v := .int vT_n) hx hb hts hown hK hN hP 0 rfl rfl dX3_write_16 ?_
    refine lv_icmp_ge (tgt := 38) hx hb dX3_write_19 (by decide) (fun c_19 => ?_) (fun c_19 => ?_)
    · have hm := it_s c_19 hm
      refine lv_iconst (v := 0) hx hb dX3_write_38 (by decide) ?_
      refine lv_istore (lv' := [(5, .int 0), (4, .int ((p1 * wT) + p2)), (0, .ref AT), (1, .int p1), (2, .int p2), (3, .int p3)]) hx hb dX3_write_39 hl (by decide) rfl (fun ls hl => ?_)
      refine lv_iload hx hb dX3_write_41 (lv_at hl 0 rfl) ?_
      refine lv_if_eq (tgt := 69) hx hb dX3_write_43 (by decide) (fun _ => ?_) (fun c => absurd c (by decide))
      have hm := Option.some.inj hm
      subst hm
      exact q_vret hx hb hr hlocks hP hS dX3_write_69
    · have hm := it_n c_19 hm
      refine lv_iload_n hx hb dX3_write_22 rfl (lv_at hl 3 rfl) ?_
      refine lv_if_lt (tgt := 38) hx hb dX3_write_23 (by decide) (fun c_23 => ?_) (fun c_23 => ?_)
      · have hm := it_s c_23 hm
        refine lv_iconst (v := 0) hx hb dX3_write_38 (by decide) ?_
        refine lv_istore (lv' := [(5, .int 0), (4, .int ((p1 * wT) + p2)), (0, .ref AT), (1, .int p1), (2, .int p2), (3, .int p3)]) hx hb dX3_write_39 hl (by decide) rfl (fun ls hl => ?_)
        refine lv_iload hx hb dX3_write_41 (lv_at hl 0 rfl) ?_
        refine lv_if_eq (tgt := 69) hx hb dX3_write_43 (by decide) (fun _ => ?_) (fun c => absurd c (by decide))
        have hm := Option.some.inj hm
        subst hm
        exact q_vret hx hb hr hlocks hP hS dX3_write_69
      · have hm := it_n c_23 hm
        refine lv_iload_n hx hb dX3_write_26 rfl (lv_at hl 3 rfl) ?_
        refine lv_aload_n hx hb dX3_write_27 rfl (lv_at hl 1 rfl) ?_
        refine gf_X3_7 (v := .int wT) hx hb hts hown hK hN hP 0 rfl rfl dX3_write_28 ?_
        refine lv_icmp_ge (tgt := 38) hx hb dX3_write_31 (by decide) (fun c_31 => ?_) (fun c_31 => ?_)
        · have hm := it_s c_31 hm
          refine lv_iconst (v := 0) hx hb dX3_write_38 (by decide) ?_
          refine lv_istore (lv' := [(5, .int 0), (4, .int ((p1 * wT) + p2)), (0, .ref AT), (1, .int p1), (2, .int p2), (3, .int p3)]) hx hb dX3_write_39 hl (by decide) rfl (fun ls hl => ?_)
          refine lv_iload hx hb dX3_write_41 (lv_at hl 0 rfl) ?_
          refine lv_if_eq (tgt := 69) hx hb dX3_write_43 (by decide) (fun _ => ?_) (fun c => absurd c (by decide))
          have hm := Option.some.inj hm
          subst hm
          exact q_vret hx hb hr hlocks hP hS dX3_write_69
        · have hm := it_n c_31 hm
          refine lv_iconst (v := 1) hx hb dX3_write_34 (by decide) ?_
          refine lv_goto (tgt := 39) hx hb dX3_write_35 (by decide) ?_
          refine lv_istore (lv' := [(5, .int 1), (4, .int ((p1 * wT) + p2)), (0, .ref AT), (1, .int p1), (2, .int p2), (3, .int p3)]) hx hb dX3_write_39 hl (by decide) rfl (fun ls hl => ?_)
          refine lv_iload hx hb dX3_write_41 (lv_at hl 0 rfl) ?_
          refine lv_if_eq (tgt := 69) hx hb dX3_write_43 (by decide) (fun c => absurd c (by decide)) (fun _ => ?_)
          refine lv_iload hx hb dX3_write_46 (lv_at hl 1 rfl) ?_
          refine lv_if_lt (tgt := 69) hx hb dX3_write_48 (by decide) (fun c_48 => ?_) (fun c_48 => ?_)
          · have hm := it_s c_48 hm
            have hm := Option.some.inj hm
            subst hm
            exact q_vret hx hb hr hlocks hP hS dX3_write_69
          · have hm := it_n c_48 hm
            refine lv_iload hx hb dX3_write_51 (lv_at hl 1 rfl) ?_
            refine lv_aload_n hx hb dX3_write_53 rfl (lv_at hl 2 rfl) ?_
            refine gf_X3_13 (v := .ref AT_c) hx hb hts hown hK hN hP 0 rfl rfl dX3_write_54 ?_
            refine va_alen (v := (Int32.ofNat nT_c)) hx hb hK hP 1 0 rfl rfl rfl dX3_write_57 ?_
            refine lv_icmp_ge (tgt := 69) hx hb dX3_write_58 (by decide) (fun c_58 => ?_) (fun c_58 => ?_)
            · have hm := it_s c_58 hm
              have hm := Option.some.inj hm
              subst hm
              exact q_vret hx hb hr hlocks hP hS dX3_write_69
            · have hm := it_n c_58 hm
              refine lv_aload_n hx hb dX3_write_61 rfl (lv_at hl 2 rfl) ?_
              refine gf_X3_13 (v := .ref AT_c) hx hb hts hown hK hN hP 0 rfl rfl dX3_write_62 ?_
              refine lv_iload hx hb dX3_write_65 (lv_at hl 1 rfl) ?_
              refine lv_iload_n hx hb dX3_write_67 rfl (lv_at hl 5 rfl) ?_
              obtain ⟨hi_68, hm⟩ := gd_s hm
              refine q_iast (j := (Int32.toNatClampNeg ((p1 * wT) + p2))) hx hb hK hP hD hS 1 rfl hi_68 rfl dX3_write_68 (fun H locs hP hD hS => ?_)
              have hP : va_P D vwCl (wd_X3_write cI cZ AT AT_c wT nT_c vT_n (upd fT_c (Int32.toNatClampNeg ((p1 * wT) + p2)) p3)) H := hP
              have hD : va_D A (wd_X3_write cI cZ AT AT_c wT nT_c vT_n (upd fT_c (Int32.toNatClampNeg ((p1 * wT) + p2)) p3)) := hD
              have hm := Option.some.inj hm
              subst hm
              exact q_vret hx hb hr hlocks hP hS dX3_write_69
theorem pf_X3_17 {p : Program} {l : Launch} {e : Env} {R : Room} {s : State} {m : MethodId} {args : Array Value} {below : List Frame} {meth : Method} {c : Code} {H : Heap} {locs : List Loc} {cells slots : Nat} {Q : State → Prop} {pc : Nat} {ls : Array Slot} {cc : ByteArray} {D : va_G} {cI cZ : ClassId} {ws : va_W} {A : Nat → Prop} {a : Nat} {rest fs : List Value} {x : Int32} (hx : p.tables.exec = Jvm.exec) (hb : c.code = cc) (hts : ∀ w ∈ bg, w.before args s = true) (hown : s.vm.findClass RX3 = some m.cls) (hK : va_K D vwCl (q_tys cI cZ) s) (hN : q_N s) (hP : va_P D vwCl ws H) (hD : va_D A ws) (hS : va_S A s.heap H locs) (q0 : Nat) (he : ws[q0]? = some (a, .inr (3, fs))) (hdg : decode cc pc = .ok (.putfield 17, 3)) (kk : ∀ (H1 : Heap) (locs1 : List Loc), va_P D vwCl (ws.set q0 (a, .inr (3, fs.set 2 (.int x)))) H1 → va_D A (ws.set q0 (a, .inr (3, fs.set 2 (.int x)))) → va_S A s.heap H1 locs1 → W p l e R s m args below meth c H1 locs1 cells slots Q (F0 m (pc + 3) ls rest)) (hl : 2 < fs.length := by exact Nat.le_of_ble_eq_true rfl) : W p l e R s m args below meth c H locs cells slots Q (F0 m pc ls (.int x :: .ref a :: rest)) :=
  va_put (C := RX3) (T := TX3) (N := 3) (ty := .int) hx hb hts wu_X3 tyX3 tyX3_ok nmX3 hown hK hP hD hS q0 he rfl 2 (by decide) (hts _ wf_X3_17) (fun _ h9 => h9) rfl (by decide +kernel) rfl rfl hl hdg kk
theorem mb_X3_takeFrom : q_mb yX3_takeFrom cX3_takeFrom 3 none 1 := ⟨wc_X3_takeFrom, wn_X3, by decide, by decide, by decide +kernel⟩
theorem mv_X3_takeFrom : q_mv yX3_takeFrom 3 := ⟨wi_X3_takeFrom, ws_X3_takeFrom, _, rfl, rfl⟩
def wd_X3_takeFrom (cI cZ : ClassId) (AT A1 AT_c A1_c : Nat) (wT : Int32) (w1 : Int32) (n1_c : Nat) (nT_c : Nat) (vT_n : Int32) (v1_n : Int32) (f1_c : Nat → Int32) (fT_c : Nat → Int32) : va_W := [(AT, .inr (3, [.int wT, .ref AT_c, .int vT_n])), (A1, .inr (3, [.int w1, .ref A1_c, .int v1_n])), (A1_c, .inl (cI, n1_c, .inl f1_c)), (AT_c, .inl (cI, nT_c, .inl fT_c))]
def fL_X3_takeFrom_10 (wT : Int32) (n1_c : Nat) (nT_c : Nat) (v1_n : Int32) (f1_c : Nat → Int32) : Nat → Int32 → Int32 → (Nat → Int32) → Option (Int32 × (Nat → Int32))
  | 0, _, _, _ => none
  | fu + 1, x2, vT_n, fT_c => if (vT_n * wT) ≤ x2 then (some (vT_n, fT_c)) else (Option.bind (fm_X7_at n1_c x2 f1_c) (fun r_33 => Option.bind (fm_X7_put nT_c x2 r_33 fT_c) (fun r_36 => fL_X3_takeFrom_10 wT n1_c nT_c v1_n f1_c fu (x2 + 1) vT_n r_36)))
def fm_X3_takeFrom (wT : Int32) (n1_c : Nat) (nT_c : Nat) (vT_n : Int32) (v1_n : Int32) (f1_c : Nat → Int32) (fT_c : Nat → Int32) : Option (Int32 × (Nat → Int32)) := fL_X3_takeFrom_10 wT n1_c nT_c v1_n f1_c FU 0 v1_n fT_c
set_option maxHeartbeats 4000000 in
set_option maxRecDepth 100000 in
theorem c_X3_takeFrom (l : Launch) (D : va_G) (cI cZ : ClassId) (sz : Nat) (AT A1 AT_c A1_c : Nat) (wT : Int32) (w1 : Int32) (n1_c : Nat) (nT_c : Nat) (vT_n : Int32) (v1_n : Int32) (f1_c : Nat → Int32) (fT_c : Nat → Int32) (out : (Int32 × (Nat → Int32))) (hm : fm_X3_takeFrom wT n1_c nT_c vT_n v1_n f1_c fT_c = some out) : Met l yX3_takeFrom (Cond.code yX3_takeFrom cX3_takeFrom 3 none :: bg) { frames := 1, cells := 0, slots := 0, locals := 22 } (va_Pc [.ref AT, .ref A1] (q_pre D cI cZ sz (wd_X3_takeFrom cI cZ AT A1 AT_c A1_c wT w1 n1_c nT_c vT_n v1_n f1_c fT_c))) (q_Qv D (wd_X3_takeFrom cI cZ AT A1 AT_c A1_c wT w1 n1_c nT_c out.1 v1_n f1_c out.2) (va_A (wd_X3_takeFrom cI cZ AT A1 AT_c A1_c wT w1 n1_c nT_c vT_n v1_n f1_c fT_c) sz)) 0 0 (va_A (wd_X3_takeFrom cI cZ AT A1 AT_c A1_c wT w1 n1_c nT_c vT_n v1_n f1_c fT_c) sz) := by
  refine q_met (fun A => q_Qv D (wd_X3_takeFrom cI cZ AT A1 AT_c A1_c wT w1 n1_c nT_c out.1 v1_n f1_c out.2) A) (by decide) (Nat.le_of_ble_eq_true rfl) ?_
  intro p e s m below meth c ls A hx hb hr hml hown hts hlocks _ hA hS hP hD hK hN hl
  have hown : s.vm.findClass RX3 = some m.cls := hown
  have hl : lv_has ls 3 [(0, .ref AT), (1, .ref A1)] := hl
  have hL_10 : ∀ (fu_10 : Nat) (x2 : Int32) (vT_n : Int32) (fT_c : Nat → Int32) (H : Heap) (locs : List Loc) (ls : Array Slot), fL_X3_takeFrom_10 wT n1_c nT_c v1_n f1_c fu_10 x2 vT_n fT_c = some out → va_P D vwCl (wd_X3_takeFrom cI cZ AT A1 AT_c A1_c wT w1 n1_c nT_c vT_n v1_n f1_c fT_c) H → va_D A (wd_X3_takeFrom cI cZ AT A1 AT_c A1_c wT w1 n1_c nT_c vT_n v1_n f1_c fT_c) → va_S A s.heap H locs → lv_has ls 3 [(2, .int x2), (0, .ref AT), (1, .ref A1)] → W p l e { frames := 1, cells := 0, slots := 0, locals := 22 } s m ([.ref AT, .ref A1] : List Value).toArray below meth c H locs 0 0 (MQ below (q_Qv D (wd_X3_takeFrom cI cZ AT A1 AT_c A1_c wT w1 n1_c nT_c out.1 v1_n f1_c out.2) A) ([.ref AT, .ref A1] : List Value).toArray s 0 0 A) (F0 m 10 ls []) := by
    intro fu_10
    induction fu_10 with
    | zero => intro x2 vT_n fT_c H locs ls hm hP hD hS hl; exact absurd (show (none : Option (Int32 × (Nat → Int32))) = some out from hm) (fun h => nomatch h)
    | succ fu_10 ih_10 =>
      intro x2 vT_n fT_c H locs ls hm hP hD hS hl
      rw [fL_X3_takeFrom_10] at hm
      refine lv_iload_n hx hb dX3_takeFrom_10 rfl (lv_at hl 0 rfl) ?_
      refine lv_aload_n hx hb dX3_takeFrom_11 rfl (lv_at hl 1 rfl) ?_
      refine gf_X3_17 (v := .int vT_n) hx hb hts hown hK hN hP 0 rfl rfl dX3_takeFrom_12 ?_
      refine lv_aload_n hx hb dX3_takeFrom_15 rfl (lv_at hl 1 rfl) ?_
      refine gf_X3_7 (v := .int wT) hx hb hts hown hK hN hP 0 rfl rfl dX3_takeFrom_16 ?_
      refine lv_imul hx hb dX3_takeFrom_19 ?_
      refine lv_icmp_ge (tgt := 45) hx hb dX3_takeFrom_20 (by decide) (fun c_20 => ?_) (fun c_20 => ?_)
      · have hm := it_s c_20 hm
        have hm := Option.some.inj hm
        subst hm
        exact q_vret hx hb hr hlocks hP hS dX3_takeFrom_45
      · have hm := it_n c_20 hm
        refine lv_aload_n hx hb dX3_takeFrom_23 rfl (lv_at hl 1 rfl) ?_
        refine gf_X3_13 (v := .ref AT_c) hx hb hts hown hK hN hP 0 rfl rfl dX3_takeFrom_24 ?_
        refine lv_iload_n hx hb dX3_takeFrom_27 rfl (lv_at hl 0 rfl) ?_
        refine lv_aload_n hx hb dX3_takeFrom_28 rfl (lv_at hl 2 rfl) ?_
        refine gf_X3_13 (v := .ref A1_c) hx hb hts hown hK hN hP 1 rfl rfl dX3_takeFrom_29 ?_
        refine lv_iload_n hx hb dX3_takeFrom_32 rfl (lv_at hl 0 rfl) ?_
        obtain ⟨r_33, hc_33, hm⟩ := ob_s hm
        refine q_ci (q_rn (rest := [.int x2, .ref AT_c]) ⟨hx, hb, hml, hown, hts⟩ hK hN hP hD (c_X7_at l D cI cZ H.size A1_c n1_c f1_c x2 r_33 hc_33) mb_X7_at wt_X7_at (nl_X3_28 hN) [2] rfl rfl (Nat.le_of_ble_eq_true rfl) (Nat.le_of_ble_eq_true rfl) rfl hl.1 rfl (Nat.le_of_ble_eq_true rfl) ⟨Nat.le_refl 0, Nat.le_refl 0⟩ dX3_takeFrom_33) hP hD hS hA [2] rfl rfl (fun H locs hP hD hS => ?_)
        have hP : va_P D vwCl (wd_X3_takeFrom cI cZ AT A1 AT_c A1_c wT w1 n1_c nT_c vT_n v1_n f1_c fT_c) H := hP
        have hD : va_D A (wd_X3_takeFrom cI cZ AT A1 AT_c A1_c wT w1 n1_c nT_c vT_n v1_n f1_c fT_c) := hD
        obtain ⟨r_36, hc_36, hm⟩ := ob_s hm
        refine q_cv (q_rn (rest := []) ⟨hx, hb, hml, hown, hts⟩ hK hN hP hD (c_X7_put l D cI cZ H.size AT_c nT_c fT_c x2 r_33 r_36 hc_36) mb_X7_put wt_X7_put (nl_X3_34 hN) [3] rfl rfl (Nat.le_of_ble_eq_true rfl) (Nat.le_of_ble_eq_true rfl) rfl hl.1 rfl (Nat.le_of_ble_eq_true rfl) ⟨Nat.le_refl 0, Nat.le_refl 0⟩ dX3_takeFrom_36) hP hD hS hA [3] rfl rfl (fun H locs hP hD hS => ?_)
        have hP : va_P D vwCl (wd_X3_takeFrom cI cZ AT A1 AT_c A1_c wT w1 n1_c nT_c vT_n v1_n f1_c r_36) H := hP
        have hD : va_D A (wd_X3_takeFrom cI cZ AT A1 AT_c A1_c wT w1 n1_c nT_c vT_n v1_n f1_c r_36) := hD
        refine lv_iinc (v := (x2 + 1)) (lv' := [(2, .int (x2 + 1)), (0, .ref AT), (1, .ref A1)]) hx hb dX3_takeFrom_39 hl (k := 0) rfl rfl (by decide) rfl (fun ls hl => ?_)
        refine lv_goto (tgt := 10) hx hb dX3_takeFrom_42 (by decide) ?_
        exact ih_10 (x2 + 1) vT_n r_36 H locs ls hm hP hD hS (lv_sub hl [0, 1, 2] rfl)
  unfold fm_X3_takeFrom at hm
  refine q_gen hS hP ?_
  intro H locs hP hS
  refine lv_aload_n hx hb dX3_takeFrom_0 rfl (lv_at hl 0 rfl) ?_
  refine lv_aload_n hx hb dX3_takeFrom_1 rfl (lv_at hl 1 rfl) ?_
  refine gf_X3_17 (v := .int v1_n) hx hb hts hown hK hN hP 1 rfl rfl dX3_takeFrom_2 ?_
  refine pf_X3_17 hx hb hts hown hK hN hP hD hS 0 rfl dX3_takeFrom_5 (fun H locs hP hD hS => ?_)
  have hP : va_P D vwCl (wd_X3_takeFrom cI cZ AT A1 AT_c A1_c wT w1 n1_c nT_c v1_n v1_n f1_c fT_c) H := hP
  have hD : va_D A (wd_X3_takeFrom cI cZ AT A1 AT_c A1_c wT w1 n1_c nT_c v1_n v1_n f1_c fT_c) := hD
  refine lv_iconst (v := 0) hx hb dX3_takeFrom_8 (by decide) ?_
  refine lv_istore_n (lv' := [(2, .int 0), (0, .ref AT), (1, .ref A1)]) hx hb dX3_takeFrom_9 rfl hl (by decide) rfl (fun ls hl => ?_)
  exact hL_10 FU 0 v1_n fT_c H locs ls hm hP hD hS (lv_sub hl [0, 1, 2] rfl)
theorem mb_X3_isFull : q_mb yX3_isFull cX3_isFull 1 (some .boolean) 0 := ⟨wc_X3_isFull, wn_X3, by decide, by decide, by decide +kernel⟩
theorem mv_X3_isFull : q_mv yX3_isFull 3 := ⟨wi_X3_isFull, ws_X3_isFull, _, rfl, rfl⟩
def wd_X3_isFull (cI cZ : ClassId) (AT AT_c : Nat) (wT : Int32) (nT_c : Nat) (vT_n : Int32) (fT_c : Nat → Int32) : va_W := [(AT, .inr (3, [.int wT, .ref AT_c, .int vT_n])), (AT_c, .inl (cI, nT_c, .inl fT_c))]
def fm_X3_isFull (wT : Int32) (nT_c : Nat) (vT_n : Int32) : Option (Int32) := if ((vT_n + 1) * wT) ≤ (Int32.ofNat nT_c) then (some (0)) else (some (1))
set_option maxHeartbeats 4000000 in
set_option maxRecDepth 100000 in
theorem c_X3_isFull (l : Launch) (D : va_G) (cI cZ : ClassId) (sz : Nat) (AT AT_c : Nat) (wT : Int32) (nT_c : Nat) (vT_n : Int32) (fT_c : Nat → Int32) (out : (Int32)) (hm : fm_X3_isFull wT nT_c vT_n = some out) : Met l yX3_isFull (Cond.code yX3_isFull cX3_isFull 1 (some .boolean) :: bg) { frames := 0, cells := 0, slots := 0, locals := 0 } (va_Pc [.ref AT] (q_pre D cI cZ sz (wd_X3_isFull cI cZ AT AT_c wT nT_c vT_n fT_c))) (q_Qi D (wd_X3_isFull cI cZ AT AT_c wT nT_c vT_n fT_c) out (va_A (wd_X3_isFull cI cZ AT AT_c wT nT_c vT_n fT_c) sz)) 0 0 (va_A (wd_X3_isFull cI cZ AT AT_c wT nT_c vT_n fT_c) sz) := by
  refine q_met (fun A => q_Qi D (wd_X3_isFull cI cZ AT AT_c wT nT_c vT_n fT_c) out A) (by decide) (Nat.le_of_ble_eq_true rfl) ?_
  intro p e s m below meth c ls A hx hb hr hml hown hts hlocks _ hA hS hP hD hK hN hl
  have hown : s.vm.findClass RX3 = some m.cls := hown
  have hl : lv_has ls 1 [(0, .ref AT)] := hl
  unfold fm_X3_isFull at hm
  refine q_gen hS hP ?_
  intro H locs hP hS
  refine lv_aload_n hx hb dX3_isFull_0 rfl (lv_at hl 0 rfl) ?_
  refine gf_X3_17 (v := .int vT_n) hx hb hts hown hK hN hP 0 rfl rfl dX3_isFull_1 ?_
  refine lv_iconst (v := 1) hx hb dX3_isFull_4 (by decide) ?_
  refine lv_iadd hx hb dX3_isFull_5 ?_
  refine lv_aload_n hx hb dX3_isFull_6 rfl (lv_at hl 0 rfl) ?_
  refine gf_X3_7 (v := .int wT) hx hb hts hown hK hN hP 0 rfl rfl dX3_isFull_7 ?_
  refine lv_imul hx hb dX3_isFull_10 ?_
  refine lv_aload_n hx hb dX3_isFull_11 rfl (lv_at hl 0 rfl) ?_
  refine gf_X3_13 (v := .ref AT_c) hx hb hts hown hK hN hP 0 rfl rfl dX3_isFull_12 ?_
  refine va_alen (v := (Int32.ofNat nT_c)) hx hb hK hP 1 0 rfl rfl rfl dX3_isFull_15 ?_
  refine lv_icmp_le (tgt := 23) hx hb dX3_isFull_16 (by decide) (fun c_16 => ?_) (fun c_16 => ?_)
  · have hm := it_s c_16 hm
    refine lv_iconst (v := 0) hx hb dX3_isFull_23 (by decide) ?_
    have hm := Option.some.inj hm
    subst hm
    exact q_zret (v := 0) hx hb hr hlocks rfl hP hS dX3_isFull_24
  · have hm := it_n c_16 hm
    refine lv_iconst (v := 1) hx hb dX3_isFull_19 (by decide) ?_
    refine lv_goto (tgt := 24) hx hb dX3_isFull_20 (by decide) ?_
    have hm := Option.some.inj hm
    subst hm
    exact q_zret (v := 1) hx hb hr hlocks rfl hP hS dX3_isFull_24
theorem mb_X3_empty : q_mb yX3_empty cX3_empty 1 none 0 := ⟨wc_X3_empty, wn_X3, by decide, by decide, by decide +kernel⟩
theorem mv_X3_empty : q_mv yX3_empty 3 := ⟨wi_X3_empty, ws_X3_empty, _, rfl, rfl⟩
def wd_X3_empty (cI cZ : ClassId) (AT AT_c : Nat) (wT : Int32) (vT_n : Int32) : va_W := [(AT, .inr (3, [.int wT, .ref AT_c, .int vT_n]))]
def fm_X3_empty (vT_n : Int32) : Option (Int32) := some (0)
set_option maxHeartbeats 4000000 in
set_option maxRecDepth 100000 in
theorem c_X3_empty (l : Launch) (D : va_G) (cI cZ : ClassId) (sz : Nat) (AT AT_c : Nat) (wT : Int32) (vT_n : Int32) (out : (Int32)) (hm : fm_X3_empty vT_n = some out) : Met l yX3_empty (Cond.code yX3_empty cX3_empty 1 none :: bg) { frames := 0, cells := 0, slots := 0, locals := 0 } (va_Pc [.ref AT] (q_pre D cI cZ sz (wd_X3_empty cI cZ AT AT_c wT vT_n))) (q_Qv D (wd_X3_empty cI cZ AT AT_c wT out) (va_A (wd_X3_empty cI cZ AT AT_c wT vT_n) sz)) 0 0 (va_A (wd_X3_empty cI cZ AT AT_c wT vT_n) sz) := by
  refine q_met (fun A => q_Qv D (wd_X3_empty cI cZ AT AT_c wT out) A) (by decide) (Nat.le_of_ble_eq_true rfl) ?_
  intro p e s m below meth c ls A hx hb hr hml hown hts hlocks _ hA hS hP hD hK hN hl
  have hown : s.vm.findClass RX3 = some m.cls := hown
  have hl : lv_has ls 1 [(0, .ref AT)] := hl
  unfold fm_X3_empty at hm
  refine q_gen hS hP ?_
  intro H locs hP hS
  refine lv_aload_n hx hb dX3_empty_0 rfl (lv_at hl 0 rfl) ?_
  refine lv_iconst (v := 0) hx hb dX3_empty_1 (by decide) ?_
  refine pf_X3_17 hx hb hts hown hK hN hP hD hS 0 rfl dX3_empty_2 (fun H locs hP hD hS => ?_)
  have hP : va_P D vwCl (wd_X3_empty cI cZ AT AT_c wT 0) H := hP
  have hD : va_D A (wd_X3_empty cI cZ AT AT_c wT 0) := hD
  have hm := Option.some.inj hm
  subst hm
  exact q_vret hx hb hr hlocks hP hS dX3_empty_5
theorem mb_X3_add : q_mb yX3_add cX3_add 5 none 4 := ⟨wc_X3_add, wn_X3, by decide, by decide, by decide +kernel⟩
theorem mv_X3_add : q_mv yX3_add 3 := ⟨wi_X3_add, ws_X3_add, _, rfl, rfl⟩
def wd_X3_add (cI cZ : ClassId) (AT AT_c : Nat) (wT : Int32) (nT_c : Nat) (vT_n : Int32) (fT_c : Nat → Int32) : va_W := [(AT, .inr (3, [.int wT, .ref AT_c, .int vT_n])), (AT_c, .inl (cI, nT_c, .inl fT_c))]
def fm_X3_add (wT : Int32) (nT_c : Nat) (p1 : Int32) (p2 : Int32) (p3 : Int32) (p4 : Int32) (vT_n : Int32) (fT_c : Nat → Int32) : Option (Int32 × (Nat → Int32)) := Option.bind (fm_X3_isFull wT nT_c vT_n) (fun r_1 => if r_1 = 0 then (Option.bind (fm_X3_write wT nT_c ((vT_n + 1) - 1) 0 p1 (vT_n + 1) fT_c) (fun r_26 => Option.bind (fm_X3_write wT nT_c ((vT_n + 1) - 1) 1 p2 (vT_n + 1) r_26) (fun r_38 => Option.bind (fm_X3_write wT nT_c ((vT_n + 1) - 1) 2 p3 (vT_n + 1) r_38) (fun r_50 => Option.bind (fm_X3_write wT nT_c ((vT_n + 1) - 1) 3 p4 (vT_n + 1) r_50) (fun r_63 => some ((vT_n + 1), r_63)))))) else (some (vT_n, fT_c)))
set_option maxHeartbeats 4000000 in
set_option maxRecDepth 100000 in
theorem c_X3_add (l : Launch) (D : va_G) (cI cZ : ClassId) (sz : Nat) (AT AT_c : Nat) (wT : Int32) (nT_c : Nat) (vT_n : Int32) (fT_c : Nat → Int32) (p1 : Int32) (p2 : Int32) (p3 : Int32) (p4 : Int32) (out : (Int32 × (Nat → Int32))) (hm : fm_X3_add wT nT_c p1 p2 p3 p4 vT_n fT_c = some out) : Met l yX3_add (Cond.code yX3_add cX3_add 5 none :: bg) { frames := 1, cells := 0, slots := 0, locals := 25 } (va_Pc [.ref AT, .int p1, .int p2, .int p3, .int p4] (q_pre D cI cZ sz (wd_X3_add cI cZ AT AT_c wT nT_c vT_n fT_c))) (q_Qv D (wd_X3_add cI cZ AT AT_c wT nT_c out.1 out.2) (va_A (wd_X3_add cI cZ AT AT_c wT nT_c vT_n fT_c) sz)) 0 0 (va_A (wd_X3_add cI cZ AT AT_c wT nT_c vT_n fT_c) sz) := by
  refine q_met (fun A => q_Qv D (wd_X3_add cI cZ AT AT_c wT nT_c out.1 out.2) A) (by decide) (Nat.le_of_ble_eq_true rfl) ?_
  intro p e s m below meth c ls A hx hb hr hml hown hts hlocks _ hA hS hP hD hK hN hl
  have hown : s.vm.findClass RX3 = some m.cls := hown
  have hl : lv_has ls 5 [(0, .ref AT), (1, .int p1), (2, .int p2), (3, .int p3), (4, .int p4)] := hl
  unfold fm_X3_add at hm
  refine q_gen hS hP ?_
  intro H locs hP hS
  refine lv_aload_n hx hb dX3_add_0 rfl (lv_at hl 0 rfl) ?_
  obtain ⟨r_1, hc_1, hm⟩ := ob_s hm
  refine q_ci (q_rv (rest := []) ⟨hx, hb, hml, hown, hts⟩ hK hN hP hD (c_X3_isFull l D cI cZ H.size AT AT_c wT nT_c vT_n fT_c r_1 hc_1) mb_X3_isFull mv_X3_isFull wl_X3_20 [0, 1] rfl rfl rfl (Nat.le_of_ble_eq_true rfl) (Nat.le_of_ble_eq_true rfl) rfl hl.1 rfl (Nat.le_of_ble_eq_true rfl) ⟨Nat.le_refl 0, Nat.le_refl 0⟩ dX3_add_1) hP hD hS hA [0, 1] rfl rfl (fun H locs hP hD hS => ?_)
  have hP : va_P D vwCl (wd_X3_add cI cZ AT AT_c wT nT_c vT_n fT_c) H := hP
  have hD : va_D A (wd_X3_add cI cZ AT AT_c wT nT_c vT_n fT_c) := hD
  refine lv_if_ne (tgt := 66) hx hb dX3_add_4 (by decide) (fun c_4 => ?_) (fun c_4 => ?_)
  · have hm := it_n c_4 hm
    have hm := Option.some.inj hm
    subst hm
    exact q_vret hx hb hr hlocks hP hS dX3_add_66
  · have hm := it_s c_4 hm
    refine lv_aload_n hx hb dX3_add_7 rfl (lv_at hl 0 rfl) ?_
    refine lv_dup hx hb dX3_add_8 rfl ?_
    refine gf_X3_17 (v := .int vT_n) hx hb hts hown hK hN hP 0 rfl rfl dX3_add_9 ?_
    refine lv_iconst (v := 1) hx hb dX3_add_12 (by decide) ?_
    refine lv_iadd hx hb dX3_add_13 ?_
    refine pf_X3_17 hx hb hts hown hK hN hP hD hS 0 rfl dX3_add_14 (fun H locs hP hD hS => ?_)
    have hP : va_P D vwCl (wd_X3_add cI cZ AT AT_c wT nT_c (vT_n + 1) fT_c) H := hP
    have hD : va_D A (wd_X3_add cI cZ AT AT_c wT nT_c (vT_n + 1) fT_c) := hD
    refine lv_aload_n hx hb dX3_add_17 rfl (lv_at hl 0 rfl) ?_
    refine lv_aload_n hx hb dX3_add_18 rfl (lv_at hl 0 rfl) ?_
    refine gf_X3_17 (v := .int (vT_n + 1)) hx hb hts hown hK hN hP 0 rfl rfl dX3_add_19 ?_
    refine lv_iconst (v := 1) hx hb dX3_add_22 (by decide) ?_
    refine lv_isub hx hb dX3_add_23 ?_
    refine lv_iconst (v := 0) hx hb dX3_add_24 (by decide) ?_
    refine lv_iload_n hx hb dX3_add_25 rfl (lv_at hl 1 rfl) ?_
    obtain ⟨r_26, hc_26, hm⟩ := ob_s hm
    refine q_cv (q_rv (rest := []) ⟨hx, hb, hml, hown, hts⟩ hK hN hP hD (c_X3_write l D cI cZ H.size AT AT_c wT nT_c (vT_n + 1) fT_c ((vT_n + 1) - 1) 0 p1 r_26 hc_26) mb_X3_write mv_X3_write wl_X3_24 [0, 1] rfl rfl rfl (Nat.le_of_ble_eq_true rfl) (Nat.le_of_ble_eq_true rfl) rfl hl.1 rfl (Nat.le_of_ble_eq_true rfl) ⟨Nat.le_refl 0, Nat.le_refl 0⟩ dX3_add_26) hP hD hS hA [0, 1] rfl rfl (fun H locs hP hD hS => ?_)
    have hP : va_P D vwCl (wd_X3_add cI cZ AT AT_c wT nT_c (vT_n + 1) r_26) H := hP
    have hD : va_D A (wd_X3_add cI cZ AT AT_c wT nT_c (vT_n + 1) r_26) := hD
    refine lv_aload_n hx hb dX3_add_29 rfl (lv_at hl 0 rfl) ?_
    refine lv_aload_n hx hb dX3_add_30 rfl (lv_at hl 0 rfl) ?_
    refine gf_X3_17 (v := .int (vT_n + 1)) hx hb hts hown hK hN hP 0 rfl rfl dX3_add_31 ?_
    refine lv_iconst (v := 1) hx hb dX3_add_34 (by decide) ?_
    refine lv_isub hx hb dX3_add_35 ?_
    refine lv_iconst (v := 1) hx hb dX3_add_36 (by decide) ?_
    refine lv_iload_n hx hb dX3_add_37 rfl (lv_at hl 2 rfl) ?_
    obtain ⟨r_38, hc_38, hm⟩ := ob_s hm
    refine q_cv (q_rv (rest := []) ⟨hx, hb, hml, hown, hts⟩ hK hN hP hD (c_X3_write l D cI cZ H.size AT AT_c wT nT_c (vT_n + 1) r_26 ((vT_n + 1) - 1) 1 p2 r_38 hc_38) mb_X3_write mv_X3_write wl_X3_24 [0, 1] rfl rfl rfl (Nat.le_of_ble_eq_true rfl) (Nat.le_of_ble_eq_true rfl) rfl hl.1 rfl (Nat.le_of_ble_eq_true rfl) ⟨Nat.le_refl 0, Nat.le_refl 0⟩ dX3_add_38) hP hD hS hA [0, 1] rfl rfl (fun H locs hP hD hS => ?_)
    have hP : va_P D vwCl (wd_X3_add cI cZ AT AT_c wT nT_c (vT_n + 1) r_38) H := hP
    have hD : va_D A (wd_X3_add cI cZ AT AT_c wT nT_c (vT_n + 1) r_38) := hD
    refine lv_aload_n hx hb dX3_add_41 rfl (lv_at hl 0 rfl) ?_
    refine lv_aload_n hx hb dX3_add_42 rfl (lv_at hl 0 rfl) ?_
    refine gf_X3_17 (v := .int (vT_n + 1)) hx hb hts hown hK hN hP 0 rfl rfl dX3_add_43 ?_
    refine lv_iconst (v := 1) hx hb dX3_add_46 (by decide) ?_
    refine lv_isub hx hb dX3_add_47 ?_
    refine lv_iconst (v := 2) hx hb dX3_add_48 (by decide) ?_
    refine lv_iload_n hx hb dX3_add_49 rfl (lv_at hl 3 rfl) ?_
    obtain ⟨r_50, hc_50, hm⟩ := ob_s hm
    refine q_cv (q_rv (rest := []) ⟨hx, hb, hml, hown, hts⟩ hK hN hP hD (c_X3_write l D cI cZ H.size AT AT_c wT nT_c (vT_n + 1) r_38 ((vT_n + 1) - 1) 2 p3 r_50 hc_50) mb_X3_write mv_X3_write wl_X3_24 [0, 1] rfl rfl rfl (Nat.le_of_ble_eq_true rfl) (Nat.le_of_ble_eq_true rfl) rfl hl.1 rfl (Nat.le_of_ble_eq_true rfl) ⟨Nat.le_refl 0, Nat.le_refl 0⟩ dX3_add_50) hP hD hS hA [0, 1] rfl rfl (fun H locs hP hD hS => ?_)
    have hP : va_P D vwCl (wd_X3_add cI cZ AT AT_c wT nT_c (vT_n + 1) r_50) H := hP
    have hD : va_D A (wd_X3_add cI cZ AT AT_c wT nT_c (vT_n + 1) r_50) := hD
    refine lv_aload_n hx hb dX3_add_53 rfl (lv_at hl 0 rfl) ?_
    refine lv_aload_n hx hb dX3_add_54 rfl (lv_at hl 0 rfl) ?_
    refine gf_X3_17 (v := .int (vT_n + 1)) hx hb hts hown hK hN hP 0 rfl rfl dX3_add_55 ?_
    refine lv_iconst (v := 1) hx hb dX3_add_58 (by decide) ?_
    refine lv_isub hx hb dX3_add_59 ?_
    refine lv_iconst (v := 3) hx hb dX3_add_60 (by decide) ?_
    refine lv_iload hx hb dX3_add_61 (lv_at hl 4 rfl) ?_
    obtain ⟨r_63, hc_63, hm⟩ := ob_s hm
    refine q_cv (q_rv (rest := []) ⟨hx, hb, hml, hown, hts⟩ hK hN hP hD (c_X3_write l D cI cZ H.size AT AT_c wT nT_c (vT_n + 1) r_50 ((vT_n + 1) - 1) 3 p4 r_63 hc_63) mb_X3_write mv_X3_write wl_X3_24 [0, 1] rfl rfl rfl (Nat.le_of_ble_eq_true rfl) (Nat.le_of_ble_eq_true rfl) rfl hl.1 rfl (Nat.le_of_ble_eq_true rfl) ⟨Nat.le_refl 0, Nat.le_refl 0⟩ dX3_add_63) hP hD hS hA [0, 1] rfl rfl (fun H locs hP hD hS => ?_)
    have hP : va_P D vwCl (wd_X3_add cI cZ AT AT_c wT nT_c (vT_n + 1) r_63) H := hP
    have hD : va_D A (wd_X3_add cI cZ AT AT_c wT nT_c (vT_n + 1) r_63) := hD
    have hm := Option.some.inj hm
    subst hm
    exact q_vret hx hb hr hlocks hP hS dX3_add_66
theorem mb_X3_dropLast : q_mb yX3_dropLast cX3_dropLast 1 none 0 := ⟨wc_X3_dropLast, wn_X3, by decide, by decide, by decide +kernel⟩
theorem mv_X3_dropLast : q_mv yX3_dropLast 3 := ⟨wi_X3_dropLast, ws_X3_dropLast, _, rfl, rfl⟩
def wd_X3_dropLast (cI cZ : ClassId) (AT AT_c : Nat) (wT : Int32) (vT_n : Int32) : va_W := [(AT, .inr (3, [.int wT, .ref AT_c, .int vT_n]))]
def fm_X3_dropLast (vT_n : Int32) : Option (Int32) := if vT_n ≤ 0 then (some (vT_n)) else (some ((vT_n - 1)))
set_option maxHeartbeats 4000000 in
set_option maxRecDepth 100000 in
theorem c_X3_dropLast (l : Launch) (D : va_G) (cI cZ : ClassId) (sz : Nat) (AT AT_c : Nat) (wT : Int32) (vT_n : Int32) (out : (Int32)) (hm : fm_X3_dropLast vT_n = some out) : Met l yX3_dropLast (Cond.code yX3_dropLast cX3_dropLast 1 none :: bg) { frames := 0, cells := 0, slots := 0, locals := 0 } (va_Pc [.ref AT] (q_pre D cI cZ sz (wd_X3_dropLast cI cZ AT AT_c wT vT_n))) (q_Qv D (wd_X3_dropLast cI cZ AT AT_c wT out) (va_A (wd_X3_dropLast cI cZ AT AT_c wT vT_n) sz)) 0 0 (va_A (wd_X3_dropLast cI cZ AT AT_c wT vT_n) sz) := by
  refine q_met (fun A => q_Qv D (wd_X3_dropLast cI cZ AT AT_c wT out) A) (by decide) (Nat.le_of_ble_eq_true rfl) ?_
  intro p e s m below meth c ls A hx hb hr hml hown hts hlocks _ hA hS hP hD hK hN hl
  have hown : s.vm.findClass RX3 = some m.cls := hown
  have hl : lv_has ls 1 [(0, .ref AT)] := hl
  unfold fm_X3_dropLast at hm
  refine q_gen hS hP ?_
  intro H locs hP hS
  refine lv_aload_n hx hb dX3_dropLast_0 rfl (lv_at hl 0 rfl) ?_
  refine gf_X3_17 (v := .int vT_n) hx hb hts hown hK hN hP 0 rfl rfl dX3_dropLast_1 ?_
  refine lv_if_le (tgt := 17) hx hb dX3_dropLast_4 (by decide) (fun c_4 => ?_) (fun c_4 => ?_)
  · have hm := it_s c_4 hm
    have hm := Option.some.inj hm
    subst hm
    exact q_vret hx hb hr hlocks hP hS dX3_dropLast_17
  · have hm := it_n c_4 hm
    refine lv_aload_n hx hb dX3_dropLast_7 rfl (lv_at hl 0 rfl) ?_
    refine lv_dup hx hb dX3_dropLast_8 rfl ?_
    refine gf_X3_17 (v := .int vT_n) hx hb hts hown hK hN hP 0 rfl rfl dX3_dropLast_9 ?_
    refine lv_iconst (v := 1) hx hb dX3_dropLast_12 (by decide) ?_
    refine lv_isub hx hb dX3_dropLast_13 ?_
    refine pf_X3_17 hx hb hts hown hK hN hP hD hS 0 rfl dX3_dropLast_14 (fun H locs hP hD hS => ?_)
    have hP : va_P D vwCl (wd_X3_dropLast cI cZ AT AT_c wT (vT_n - 1)) H := hP
    have hD : va_D A (wd_X3_dropLast cI cZ AT AT_c wT (vT_n - 1)) := hD
    have hm := Option.some.inj hm
    subst hm
    exact q_vret hx hb hr hlocks hP hS dX3_dropLast_17
theorem mb_X3_dropFirst : q_mb yX3_dropFirst cX3_dropFirst 2 none 0 := ⟨wc_X3_dropFirst, wn_X3, by decide, by decide, by decide +kernel⟩
theorem mv_X3_dropFirst : q_mv yX3_dropFirst 3 := ⟨wi_X3_dropFirst, ws_X3_dropFirst, _, rfl, rfl⟩
def wd_X3_dropFirst (cI cZ : ClassId) (AT AT_c : Nat) (wT : Int32) (nT_c : Nat) (vT_n : Int32) (fT_c : Nat → Int32) : va_W := [(AT, .inr (3, [.int wT, .ref AT_c, .int vT_n])), (AT_c, .inl (cI, nT_c, .inl fT_c))]
def fL_X3_dropFirst_5 (wT : Int32) (nT_c : Nat) : Nat → Int32 → Int32 → (Nat → Int32) → Option (Int32 × (Nat → Int32))
  | 0, _, _, _ => none
  | fu + 1, x1, vT_n, fT_c => if (vT_n * wT) ≤ x1 then (Option.bind (fm_X3_dropLast vT_n) (fun r_46 => some (r_46, fT_c))) else (Option.bind (fm_X7_at nT_c x1 fT_c) (fun r_33 => Option.bind (fm_X7_put nT_c (x1 - wT) r_33 fT_c) (fun r_36 => fL_X3_dropFirst_5 wT nT_c fu (x1 + 1) vT_n r_36)))
def fm_X3_dropFirst (wT : Int32) (nT_c : Nat) (vT_n : Int32) (fT_c : Nat → Int32) : Option (Int32 × (Nat → Int32)) := fL_X3_dropFirst_5 wT nT_c FU wT vT_n fT_c
set_option maxHeartbeats 4000000 in
set_option maxRecDepth 100000 in
theorem c_X3_dropFirst (l : Launch) (D : va_G) (cI cZ : ClassId) (sz : Nat) (AT AT_c : Nat) (wT : Int32) (nT_c : Nat) (vT_n : Int32) (fT_c : Nat → Int32) (out : (Int32 × (Nat → Int32))) (hm : fm_X3_dropFirst wT nT_c vT_n fT_c = some out) : Met l yX3_dropFirst (Cond.code yX3_dropFirst cX3_dropFirst 2 none :: bg) { frames := 1, cells := 0, slots := 0, locals := 22 } (va_Pc [.ref AT] (q_pre D cI cZ sz (wd_X3_dropFirst cI cZ AT AT_c wT nT_c vT_n fT_c))) (q_Qv D (wd_X3_dropFirst cI cZ AT AT_c wT nT_c out.1 out.2) (va_A (wd_X3_dropFirst cI cZ AT AT_c wT nT_c vT_n fT_c) sz)) 0 0 (va_A (wd_X3_dropFirst cI cZ AT AT_c wT nT_c vT_n fT_c) sz) := by
  refine q_met (fun A => q_Qv D (wd_X3_dropFirst cI cZ AT AT_c wT nT_c out.1 out.2) A) (by decide) (Nat.le_of_ble_eq_true rfl) ?_
  intro p e s m below meth c ls A hx hb hr hml hown hts hlocks _ hA hS hP hD hK hN hl
  have hown : s.vm.findClass RX3 = some m.cls := hown
  have hl : lv_has ls 2 [(0, .ref AT)] := hl
  have hL_5 : ∀ (fu_5 : Nat) (x1 : Int32) (vT_n : Int32) (fT_c : Nat → Int32) (H : Heap) (locs : List Loc) (ls : Array Slot), fL_X3_dropFirst_5 wT nT_c fu_5 x1 vT_n fT_c = some out → va_P D vwCl (wd_X3_dropFirst cI cZ AT AT_c wT nT_c vT_n fT_c) H → va_D A (wd_X3_dropFirst cI cZ AT AT_c wT nT_c vT_n fT_c) → va_S A s.heap H locs → lv_has ls 2 [(1, .int x1), (0, .ref AT)] → W p l e { frames := 1, cells := 0, slots := 0, locals := 22 } s m ([.ref AT] : List Value).toArray below meth c H locs 0 0 (MQ below (q_Qv D (wd_X3_dropFirst cI cZ AT AT_c wT nT_c out.1 out.2) A) ([.ref AT] : List Value).toArray s 0 0 A) (F0 m 5 ls []) := by
    intro fu_5
    induction fu_5 with
    | zero => intro x1 vT_n fT_c H locs ls hm hP hD hS hl; exact absurd (show (none : Option (Int32 × (Nat → Int32))) = some out from hm) (fun h => nomatch h)
    | succ fu_5 ih_5 =>
      intro x1 vT_n fT_c H locs ls hm hP hD hS hl
      rw [fL_X3_dropFirst_5] at hm
      refine lv_iload_n hx hb dX3_dropFirst_5 rfl (lv_at hl 0 rfl) ?_
      refine lv_aload_n hx hb dX3_dropFirst_6 rfl (lv_at hl 1 rfl) ?_
      refine gf_X3_17 (v := .int vT_n) hx hb hts hown hK hN hP 0 rfl rfl dX3_dropFirst_7 ?_
      refine lv_aload_n hx hb dX3_dropFirst_10 rfl (lv_at hl 1 rfl) ?_
      refine gf_X3_7 (v := .int wT) hx hb hts hown hK hN hP 0 rfl rfl dX3_dropFirst_11 ?_
      refine lv_imul hx hb dX3_dropFirst_14 ?_
      refine lv_icmp_ge (tgt := 45) hx hb dX3_dropFirst_15 (by decide) (fun c_15 => ?_) (fun c_15 => ?_)
      · have hm := it_s c_15 hm
        refine lv_aload_n hx hb dX3_dropFirst_45 rfl (lv_at hl 1 rfl) ?_
        obtain ⟨r_46, hc_46, hm⟩ := ob_s hm
        refine q_cv (q_rv (rest := []) ⟨hx, hb, hml, hown, hts⟩ hK hN hP hD (c_X3_dropLast l D cI cZ H.size AT AT_c wT vT_n r_46 hc_46) mb_X3_dropLast mv_X3_dropLast wl_X3_38 [0] rfl rfl rfl (Nat.le_of_ble_eq_true rfl) (Nat.le_of_ble_eq_true rfl) rfl hl.1 rfl (Nat.le_of_ble_eq_true rfl) ⟨Nat.le_refl 0, Nat.le_refl 0⟩ dX3_dropFirst_46) hP hD hS hA [0] rfl rfl (fun H locs hP hD hS => ?_)
        have hP : va_P D vwCl (wd_X3_dropFirst cI cZ AT AT_c wT nT_c r_46 fT_c) H := hP
        have hD : va_D A (wd_X3_dropFirst cI cZ AT AT_c wT nT_c r_46 fT_c) := hD
        have hm := Option.some.inj hm
        subst hm
        exact q_vret hx hb hr hlocks hP hS dX3_dropFirst_49
      · have hm := it_n c_15 hm
        refine lv_aload_n hx hb dX3_dropFirst_18 rfl (lv_at hl 1 rfl) ?_
        refine gf_X3_13 (v := .ref AT_c) hx hb hts hown hK hN hP 0 rfl rfl dX3_dropFirst_19 ?_
        refine lv_iload_n hx hb dX3_dropFirst_22 rfl (lv_at hl 0 rfl) ?_
        refine lv_aload_n hx hb dX3_dropFirst_23 rfl (lv_at hl 1 rfl) ?_
        refine gf_X3_7 (v := .int wT) hx hb hts hown hK hN hP 0 rfl rfl dX3_dropFirst_24 ?_
        refine lv_isub hx hb dX3_dropFirst_27 ?_
        refine lv_aload_n hx hb dX3_dropFirst_28 rfl (lv_at hl 1 rfl) ?_
        refine gf_X3_13 (v := .ref AT_c) hx hb hts hown hK hN hP 0 rfl rfl dX3_dropFirst_29 ?_
        refine lv_iload_n hx hb dX3_dropFirst_32 rfl (lv_at hl 0 rfl) ?_
        obtain ⟨r_33, hc_33, hm⟩ := ob_s hm
        refine q_ci (q_rn (rest := [.int (x1 - wT), .ref AT_c]) ⟨hx, hb, hml, hown, hts⟩ hK hN hP hD (c_X7_at l D cI cZ H.size AT_c nT_c fT_c x1 r_33 hc_33) mb_X7_at wt_X7_at (nl_X3_28 hN) [1] rfl rfl (Nat.le_of_ble_eq_true rfl) (Nat.le_of_ble_eq_true rfl) rfl hl.1 rfl (Nat.le_of_ble_eq_true rfl) ⟨Nat.le_refl 0, Nat.le_refl 0⟩ dX3_dropFirst_33) hP hD hS hA [1] rfl rfl (fun H locs hP hD hS => ?_)
        have hP : va_P D vwCl (wd_X3_dropFirst cI cZ AT AT_c wT nT_c vT_n fT_c) H := hP
        have hD : va_D A (wd_X3_dropFirst cI cZ AT AT_c wT nT_c vT_n fT_c) := hD
        obtain ⟨r_36, hc_36, hm⟩ := ob_s hm
        refine q_cv (q_rn (rest := []) ⟨hx, hb, hml, hown, hts⟩ hK hN hP hD (c_X7_put l D cI cZ H.size AT_c nT_c fT_c (x1 - wT) r_33 r_36 hc_36) mb_X7_put wt_X7_put (nl_X3_34 hN) [1] rfl rfl (Nat.le_of_ble_eq_true rfl) (Nat.le_of_ble_eq_true rfl) rfl hl.1 rfl (Nat.le_of_ble_eq_true rfl) ⟨Nat.le_refl 0, Nat.le_refl 0⟩ dX3_dropFirst_36) hP hD hS hA [1] rfl rfl (fun H locs hP hD hS => ?_)
        have hP : va_P D vwCl (wd_X3_dropFirst cI cZ AT AT_c wT nT_c vT_n r_36) H := hP
        have hD : va_D A (wd_X3_dropFirst cI cZ AT AT_c wT nT_c vT_n r_36) := hD
        refine lv_iinc (v := (x1 + 1)) (lv' := [(1, .int (x1 + 1)), (0, .ref AT)]) hx hb dX3_dropFirst_39 hl (k := 0) rfl rfl (by decide) rfl (fun ls hl => ?_)
        refine lv_goto (tgt := 5) hx hb dX3_dropFirst_42 (by decide) ?_
        exact ih_5 (x1 + 1) vT_n r_36 H locs ls hm hP hD hS (lv_sub hl [0, 1] rfl)
  unfold fm_X3_dropFirst at hm
  refine q_gen hS hP ?_
  intro H locs hP hS
  refine lv_aload_n hx hb dX3_dropFirst_0 rfl (lv_at hl 0 rfl) ?_
  refine gf_X3_7 (v := .int wT) hx hb hts hown hK hN hP 0 rfl rfl dX3_dropFirst_1 ?_
  refine lv_istore_n (lv' := [(1, .int wT), (0, .ref AT)]) hx hb dX3_dropFirst_4 rfl hl (by decide) rfl (fun ls hl => ?_)
  exact hL_5 FU wT vT_n fT_c H locs ls hm hP hD hS (lv_sub hl [0, 1] rfl)
theorem mb_X3_mixedInto : q_mb yX3_mixedInto cX3_mixedInto 6 (some .long) 1 := ⟨wc_X3_mixedInto, wn_X3, by decide, by decide, by decide +kernel⟩
theorem mv_X3_mixedInto : q_mv yX3_mixedInto 3 := ⟨wi_X3_mixedInto, ws_X3_mixedInto, _, rfl, rfl⟩
def wd_X3_mixedInto (cI cZ : ClassId) (AT AT_c : Nat) (wT : Int32) (nT_c : Nat) (vT_n : Int32) (fT_c : Nat → Int32) : va_W := [(AT, .inr (3, [.int wT, .ref AT_c, .int vT_n])), (AT_c, .inl (cI, nT_c, .inl fT_c))]
def fL_X3_mixedInto_5 (wT : Int32) (nT_c : Nat) (p1 : Int64) (vT_n : Int32) (fT_c : Nat → Int32) : Nat → Int32 → Int64 → Option (Int64)
  | 0, _, _ => none
  | fu + 1, x5, x3 => if (vT_n * wT) ≤ x5 then (some (x3)) else (Option.bind (fm_X7_at nT_c x5 fT_c) (fun r_30 => fL_X3_mixedInto_5 wT nT_c p1 vT_n fT_c fu (x5 + 1) ((31 * x3) + (Int32.toInt64 r_30))))
def fm_X3_mixedInto (wT : Int32) (nT_c : Nat) (p1 : Int64) (vT_n : Int32) (fT_c : Nat → Int32) : Option (Int64) := fL_X3_mixedInto_5 wT nT_c p1 vT_n fT_c FU 0 p1
set_option maxHeartbeats 4000000 in
set_option maxRecDepth 100000 in
theorem c_X3_mixedInto (l : Launch) (D : va_G) (cI cZ : ClassId) (sz : Nat) (AT AT_c : Nat) (wT : Int32) (nT_c : Nat) (vT_n : Int32) (fT_c : Nat → Int32) (p1 : Int64) (out : (Int64)) (hm : fm_X3_mixedInto wT nT_c p1 vT_n fT_c = some out) : Met l yX3_mixedInto (Cond.code yX3_mixedInto cX3_mixedInto 6 (some .long) :: bg) { frames := 1, cells := 0, slots := 0, locals := 21 } (va_Pc [.ref AT, .long p1] (q_pre D cI cZ sz (wd_X3_mixedInto cI cZ AT AT_c wT nT_c vT_n fT_c))) (q_Ql D (wd_X3_mixedInto cI cZ AT AT_c wT nT_c vT_n fT_c) out (va_A (wd_X3_mixedInto cI cZ AT AT_c wT nT_c vT_n fT_c) sz)) 0 0 (va_A (wd_X3_mixedInto cI cZ AT AT_c wT nT_c vT_n fT_c) sz) := by
  refine q_met (fun A => q_Ql D (wd_X3_mixedInto cI cZ AT AT_c wT nT_c vT_n fT_c) out A) (by decide) (Nat.le_of_ble_eq_true rfl) ?_
  intro p e s m below meth c ls A hx hb hr hml hown hts hlocks _ hA hS hP hD hK hN hl
  have hown : s.vm.findClass RX3 = some m.cls := hown
  have hl : lv_has ls 6 [(0, .ref AT), (1, .long p1)] := hl
  have hL_5 : ∀ (fu_5 : Nat) (x5 : Int32) (x3 : Int64) (H : Heap) (locs : List Loc) (ls : Array Slot), fL_X3_mixedInto_5 wT nT_c p1 vT_n fT_c fu_5 x5 x3 = some out → va_P D vwCl (wd_X3_mixedInto cI cZ AT AT_c wT nT_c vT_n fT_c) H → va_D A (wd_X3_mixedInto cI cZ AT AT_c wT nT_c vT_n fT_c) → va_S A s.heap H locs → lv_has ls 6 [(5, .int x5), (3, .long x3), (0, .ref AT)] → W p l e { frames := 1, cells := 0, slots := 0, locals := 21 } s m ([.ref AT, .long p1] : List Value).toArray below meth c H locs 0 0 (MQ below (q_Ql D (wd_X3_mixedInto cI cZ AT AT_c wT nT_c vT_n fT_c) out A) ([.ref AT, .long p1] : List Value).toArray s 0 0 A) (F0 m 5 ls []) := by
    intro fu_5
    induction fu_5 with
    | zero => intro x5 x3 H locs ls hm hP hD hS hl; exact absurd (show (none : Option (Int64)) = some out from hm) (fun h => nomatch h)
    | succ fu_5 ih_5 =>
      intro x5 x3 H locs ls hm hP hD hS hl
      rw [fL_X3_mixedInto_5] at hm
      refine lv_iload hx hb dX3_mixedInto_5 (lv_at hl 0 rfl) ?_
      refine lv_aload_n hx hb dX3_mixedInto_7 rfl (lv_at hl 2 rfl) ?_
      refine gf_X3_17 (v := .int vT_n) hx hb hts hown hK hN hP 0 rfl rfl dX3_mixedInto_8 ?_
      refine lv_aload_n hx hb dX3_mixedInto_11 rfl (lv_at hl 2 rfl) ?_
      refine gf_X3_7 (v := .int wT) hx hb hts hown hK hN hP 0 rfl rfl dX3_mixedInto_12 ?_
      refine lv_imul hx hb dX3_mixedInto_15 ?_
      refine lv_icmp_ge (tgt := 42) hx hb dX3_mixedInto_16 (by decide) (fun c_16 => ?_) (fun c_16 => ?_)
      · have hm := it_s c_16 hm
        refine lv_lload_n hx hb dX3_mixedInto_42 rfl (lv_at hl 1 rfl) ?_
        have hm := Option.some.inj hm
        subst hm
        exact q_lret (v := x3) hx hb hr hlocks hP hS dX3_mixedInto_43
      · have hm := it_n c_16 hm
        refine lv_ldc2 (v := 31) hx hb hown (hts _ wv_X3_41) dX3_mixedInto_19 ?_
        refine lv_lload_n hx hb dX3_mixedInto_22 rfl (lv_at hl 1 rfl) ?_
        refine lv_lmul hx hb dX3_mixedInto_23 ?_
        refine lv_aload_n hx hb dX3_mixedInto_24 rfl (lv_at hl 2 rfl) ?_
        refine gf_X3_13 (v := .ref AT_c) hx hb hts hown hK hN hP 0 rfl rfl dX3_mixedInto_25 ?_
        refine lv_iload hx hb dX3_mixedInto_28 (lv_at hl 0 rfl) ?_
        obtain ⟨r_30, hc_30, hm⟩ := ob_s hm
        refine q_ci (q_rn (rest := [.long (31 * x3)]) ⟨hx, hb, hml, hown, hts⟩ hK hN hP hD (c_X7_at l D cI cZ H.size AT_c nT_c fT_c x5 r_30 hc_30) mb_X7_at wt_X7_at (nl_X3_28 hN) [1] rfl rfl (Nat.le_of_ble_eq_true rfl) (Nat.le_of_ble_eq_true rfl) rfl hl.1 rfl (Nat.le_of_ble_eq_true rfl) ⟨Nat.le_refl 0, Nat.le_refl 0⟩ dX3_mixedInto_30) hP hD hS hA [1] rfl rfl (fun H locs hP hD hS => ?_)
        have hP : va_P D vwCl (wd_X3_mixedInto cI cZ AT AT_c wT nT_c vT_n fT_c) H := hP
        have hD : va_D A (wd_X3_mixedInto cI cZ AT AT_c wT nT_c vT_n fT_c) := hD
        refine lv_i2l (v := (Int32.toInt64 r_30)) hx hb dX3_mixedInto_33 rfl ?_
        refine lv_ladd hx hb dX3_mixedInto_34 ?_
        refine lv_lstore_n (lv' := [(3, .long ((31 * x3) + (Int32.toInt64 r_30))), (5, .int x5), (0, .ref AT)]) hx hb dX3_mixedInto_35 rfl hl (by decide) rfl (fun ls hl => ?_)
        refine lv_iinc (v := (x5 + 1)) (lv' := [(5, .int (x5 + 1)), (3, .long ((31 * x3) + (Int32.toInt64 r_30))), (0, .ref AT)]) hx hb dX3_mixedInto_36 hl (k := 1) rfl rfl (by decide) rfl (fun ls hl => ?_)
        refine lv_goto (tgt := 5) hx hb dX3_mixedInto_39 (by decide) ?_
        exact ih_5 (x5 + 1) ((31 * x3) + (Int32.toInt64 r_30)) H locs ls hm hP hD hS (lv_sub hl [0, 1, 2] rfl)
  unfold fm_X3_mixedInto at hm
  refine q_gen hS hP ?_
  intro H locs hP hS
  refine lv_lload_n hx hb dX3_mixedInto_0 rfl (lv_at hl 1 rfl) ?_
  refine lv_lstore_n (lv' := [(3, .long p1), (0, .ref AT), (1, .long p1)]) hx hb dX3_mixedInto_1 rfl hl (by decide) rfl (fun ls hl => ?_)
  refine lv_iconst (v := 0) hx hb dX3_mixedInto_2 (by decide) ?_
  refine lv_istore (lv' := [(5, .int 0), (3, .long p1), (0, .ref AT), (1, .long p1)]) hx hb dX3_mixedInto_3 hl (by decide) rfl (fun ls hl => ?_)
  exact hL_5 FU 0 p1 H locs ls hm hP hD hS (lv_sub hl [0, 1, 2] rfl)
theorem mb_X7_within : q_mb yX7_within cX7_within 3 (some .boolean) 3 := ⟨wc_X7_within, wn_X7, by decide, by decide, by decide +kernel⟩
def wd_X7_within (cI cZ : ClassId) : va_W := []
def fm_X7_within (p0 : Int32) (p1 : Int32) (p2 : Int32) : Option (Int32) := if p0 < p1 then (some (0)) else (if p2 < p0 then (some (0)) else (some (1)))
set_option maxHeartbeats 4000000 in
set_option maxRecDepth 100000 in
theorem c_X7_within (l : Launch) (D : va_G) (cI cZ : ClassId) (sz : Nat) (p0 : Int32) (p1 : Int32) (p2 : Int32) (out : (Int32)) (hm : fm_X7_within p0 p1 p2 = some out) : Met l yX7_within (Cond.code yX7_within cX7_within 3 (some .boolean) :: bg) { frames := 0, cells := 0, slots := 0, locals := 0 } (va_Pc [.int p0, .int p1, .int p2] (q_pre D cI cZ sz (wd_X7_within cI cZ))) (q_Qi D (wd_X7_within cI cZ) out (va_A (wd_X7_within cI cZ) sz)) 0 0 (va_A (wd_X7_within cI cZ) sz) := by
  refine q_met (fun A => q_Qi D (wd_X7_within cI cZ) out A) (by decide) (Nat.le_of_ble_eq_true rfl) ?_
  intro p e s m below meth c ls A hx hb hr hml hown hts hlocks _ hA hS hP hD hK hN hl
  have hown : s.vm.findClass RX7 = some m.cls := hown
  have hl : lv_has ls 3 [(0, .int p0), (1, .int p1), (2, .int p2)] := hl
  unfold fm_X7_within at hm
  refine q_gen hS hP ?_
  intro H locs hP hS
  refine lv_iload_n hx hb dX7_within_0 rfl (lv_at hl 0 rfl) ?_
  refine lv_iload_n hx hb dX7_within_1 rfl (lv_at hl 1 rfl) ?_
  refine lv_icmp_lt (tgt := 14) hx hb dX7_within_2 (by decide) (fun c_2 => ?_) (fun c_2 => ?_)
  · have hm := it_s c_2 hm
    refine lv_iconst (v := 0) hx hb dX7_within_14 (by decide) ?_
    have hm := Option.some.inj hm
    subst hm
    exact q_zret (v := 0) hx hb hr hlocks rfl hP hS dX7_within_15
  · have hm := it_n c_2 hm
    refine lv_iload_n hx hb dX7_within_5 rfl (lv_at hl 0 rfl) ?_
    refine lv_iload_n hx hb dX7_within_6 rfl (lv_at hl 2 rfl) ?_
    refine lv_icmp_gt (tgt := 14) hx hb dX7_within_7 (by decide) (fun c_7 => ?_) (fun c_7 => ?_)
    · have hm := it_s c_7 hm
      refine lv_iconst (v := 0) hx hb dX7_within_14 (by decide) ?_
      have hm := Option.some.inj hm
      subst hm
      exact q_zret (v := 0) hx hb hr hlocks rfl hP hS dX7_within_15
    · have hm := it_n c_7 hm
      refine lv_iconst (v := 1) hx hb dX7_within_10 (by decide) ?_
      refine lv_goto (tgt := 15) hx hb dX7_within_11 (by decide) ?_
      have hm := Option.some.inj hm
      subst hm
      exact q_zret (v := 1) hx hb hr hlocks rfl hP hS dX7_within_15
theorem mb_X7_isPillow : q_mb yX7_isPillow cX7_isPillow 1 (some .boolean) 1 := ⟨wc_X7_isPillow, wn_X7, by decide, by decide, by decide +kernel⟩
def wd_X7_isPillow (cI cZ : ClassId) : va_W := []
def fm_X7_isPillow (p0 : Int32) : Option (Int32) := if p0 < 0 then (some (0)) else (if 6 ≤ p0 then (some (0)) else (some (1)))
set_option maxHeartbeats 4000000 in
set_option maxRecDepth 100000 in
theorem c_X7_isPillow (l : Launch) (D : va_G) (cI cZ : ClassId) (sz : Nat) (p0 : Int32) (out : (Int32)) (hm : fm_X7_isPillow p0 = some out) : Met l yX7_isPillow (Cond.code yX7_isPillow cX7_isPillow 1 (some .boolean) :: bg) { frames := 0, cells := 0, slots := 0, locals := 0 } (va_Pc [.int p0] (q_pre D cI cZ sz (wd_X7_isPillow cI cZ))) (q_Qi D (wd_X7_isPillow cI cZ) out (va_A (wd_X7_isPillow cI cZ) sz)) 0 0 (va_A (wd_X7_isPillow cI cZ) sz) := by
  refine q_met (fun A => q_Qi D (wd_X7_isPillow cI cZ) out A) (by decide) (Nat.le_of_ble_eq_true rfl) ?_
  intro p e s m below meth c ls A hx hb hr hml hown hts hlocks _ hA hS hP hD hK hN hl
  have hown : s.vm.findClass RX7 = some m.cls := hown
  have hl : lv_has ls 1 [(0, .int p0)] := hl
  unfold fm_X7_isPillow at hm
  refine q_gen hS hP ?_
  intro H locs hP hS
  refine lv_iload_n hx hb dX7_isPillow_0 rfl (lv_at hl 0 rfl) ?_
  refine lv_if_lt (tgt := 14) hx hb dX7_isPillow_1 (by decide) (fun c_1 => ?_) (fun c_1 => ?_)
  · have hm := it_s c_1 hm
    refine lv_iconst (v := 0) hx hb dX7_isPillow_14 (by decide) ?_
    have hm := Option.some.inj hm
    subst hm
    exact q_zret (v := 0) hx hb hr hlocks rfl hP hS dX7_isPillow_15
  · have hm := it_n c_1 hm
    refine lv_iload_n hx hb dX7_isPillow_4 rfl (lv_at hl 0 rfl) ?_
    refine lv_bipush (v := 6) hx hb dX7_isPillow_5 (by decide) ?_
    refine lv_icmp_ge (tgt := 14) hx hb dX7_isPillow_7 (by decide) (fun c_7 => ?_) (fun c_7 => ?_)
    · have hm := it_s c_7 hm
      refine lv_iconst (v := 0) hx hb dX7_isPillow_14 (by decide) ?_
      have hm := Option.some.inj hm
      subst hm
      exact q_zret (v := 0) hx hb hr hlocks rfl hP hS dX7_isPillow_15
    · have hm := it_n c_7 hm
      refine lv_iconst (v := 1) hx hb dX7_isPillow_10 (by decide) ?_
      refine lv_goto (tgt := 15) hx hb dX7_isPillow_11 (by decide) ?_
      have hm := Option.some.inj hm
      subst hm
      exact q_zret (v := 1) hx hb hr hlocks rfl hP hS dX7_isPillow_15
