set_option maxHeartbeats 40000000 in
set_option maxRecDepth 100000 in
theorem law_case_0 {p : Program} {l : Launch} {e : Env} {s : State} {m : MethodId} {below : List Frame} {meth : Method} {c : Code} {b L : Nat} {xs : Nat → Int32} {A : Nat → Prop} (hst : l.stackTraces = false) (hx : p.tables.exec = Jvm.exec) (hb : c.code = cL_law) (hr : meth.sig.returnType = ret) (hml : c.maxLocals = 7) (hown : s.vm.findClass RL = some m.cls) (hG : ∀ w ∈ lw_G, w.before #[Value.ref b] s = true) (hL : L ≤ 3072) (hX : va_X b L xs s s.heap) (hbl : b < s.heap.size) (hlocks : meth.locks = false) (hAe : A = fun q : Nat => s.heap.size ≤ q) {adK adV : Nat → Nat} (hE : ev adK adV A s s.heap) {dC : Nat → ClassId} {dI : Nat → Nat → Nat} (n : Nat) (ih : LawHead p l e s m below meth c b L A dC dI n 3072 0 23) : LawHead p l e s m below meth c b L A dC dI (n + 1) 3066 6 116 := by
  intros cc ss i h0 h1 h2 h3 h4 h5 h6 h7 h8 h9 h10 h11 h12 h13 h14 h15 h16 h17 h18 h19 h20 h21 h22 h23 h24 h25 h26 h27 h28 h29 h30 h31 h32 h33 h34 h35 h36 h37 h38 h39 h40 h41 h42 h43 h44 h45 h46 h47 h48 h49 h50 h51 h52 h53 y0 y1 y2 y3 y4 y5 y6 y7 y8 y9 y10 y11 y12 y13 y14 y15 y16 y17 y18 y19 y20 y21 y22 y23 y24 y25 y26 y27 y28 y29 y30 y31 y32 y33 y34 y35 y36 y37 y38 x0 x1 x2 x3 x4 x5 x6 x7 x8 x9 x10 x11 x12 x13 x14 x15 x16 x17 x18 x19 x20 x21 x22 x23 x24 x25 x26 x27 x28 x29 x30 x31 x32 x33 x34 x35 x36 x37 x38 x39 x40 x41 x42 x43 x44 x45 x46 x47 x48 x49 x50 x51 x52 x53 x54 x55 x56 x57 x58 x59 x60 x61 x62 x63 x64 x65 x66 x67 x68 x69 x70 x71 x72 x73 x74 x75 x76 x77 x78 x79 x80 x81 x82 x83 x84 x85 x86 x87 x88 x89 x90 x91 x92 x93 x94 x95 x96 x97 x98 x99 x100 x101 x102 x103 x104 x105 x106 z0 z1 f0 f1 f2 f3 f4 f5 f6 f7 f8 f9 f10 f11 f12 f13 f14 f15 f16 f17 f18 f19 f20 f21 f22 f23 f24 f25 f26 f27 f28 f29 f30 f31 g0 g1 g2 g3 g4 g5 g6 H locs ls hcc hss hi hiL hm ix0 ix17 ix18 ix23 ix24 ix25 ix26 ix27 ix28 ix29 ix33 ix34 ix35 ix36 ix37 ix38 ix43 ix44 ix48 ix49 ix51 ix55 ix60 ix61 ix62 ix68 ix71 ix88 ix89 ix90 ix91 ix92 ix98 ix99 ix103 ix104 ix105 ix106 if1 if2 if7 if8 if13 if14 if15 kf8_0 kf8_1 kf8_2 kf8_3 kf8_4 kf8_5 kf8_6 kf8_7 kf8_8 kf8_9 kf8_10 kf8_11 kf8_12 kf8_13 kf8_14 kf8_15 kf8_16 kf8_17 kf8_18 kf8_19 kf8_20 kf8_21 kf8_22 kf8_23 kf8_24 kf8_25 kf8_26 kf8_27 kf8_28 kf8_29 kf8_30 kf8_31 kf8_32 kf8_33 kf8_34 hK hP hD hS hl
  have hA : ∀ q : Nat, s.heap.size ≤ q → A q := fun q h => by rw [hAe]; exact h
  have hbA : ¬ A b := by rw [hAe]; exact Nat.not_le.mpr hbl
  refine lv_aload_n hx hb dL_law_116 rfl (lv_at hl 3 rfl) ?_
  refine lv_aload_n hx hb dL_law_117 rfl (lv_at hl 4 rfl) ?_
  refine lv_iload hx hb dL_law_118 (lv_at hl 0 rfl) ?_
  refine lv_iconst (v := 1) hx hb dL_law_120 (by decide) ?_
  refine lv_iadd hx hb dL_law_121 ?_
  refine lv_topi (fun v1001 ev1001 => ?_)
  have iv1001 : iv v1001 1 3067 := iv_eq ev1001 (iv_add hi (by decide : iv 1 1 1) (by decide) (by decide))
  have tv1001 : v1001.toInt = i.toInt + 1 := iv_addT ev1001 hi (by decide) (by decide) (by decide)
  refine va_sld hx hb hX hbl hbA hS (vp_in_iff.mpr ⟨by omega, by omega⟩ : vp_in v1001 L) dL_law_122 ?_
  refine lv_topi (fun v1002 ev1002 => ?_)
  refine lv_aload_n hx hb dL_law_123 rfl (lv_at hl 4 rfl) ?_
  refine lv_iload hx hb dL_law_124 (lv_at hl 0 rfl) ?_
  refine lv_iconst (v := 2) hx hb dL_law_126 (by decide) ?_
  refine lv_iadd hx hb dL_law_127 ?_
  refine lv_topi (fun v1003 ev1003 => ?_)
  have iv1003 : iv v1003 2 3068 := iv_eq ev1003 (iv_add hi (by decide : iv 2 2 2) (by decide) (by decide))
  have tv1003 : v1003.toInt = i.toInt + 2 := iv_addT ev1003 hi (by decide) (by decide) (by decide)
  refine va_sld hx hb hX hbl hbA hS (vp_in_iff.mpr ⟨by omega, by omega⟩ : vp_in v1003 L) dL_law_128 ?_
  refine lv_topi (fun v1004 ev1004 => ?_)
  refine lv_aload_n hx hb dL_law_129 rfl (lv_at hl 4 rfl) ?_
  refine lv_iload hx hb dL_law_130 (lv_at hl 0 rfl) ?_
  refine lv_iconst (v := 3) hx hb dL_law_132 (by decide) ?_
  refine lv_iadd hx hb dL_law_133 ?_
  refine lv_topi (fun v1005 ev1005 => ?_)
  have iv1005 : iv v1005 3 3069 := iv_eq ev1005 (iv_add hi (by decide : iv 3 3 3) (by decide) (by decide))
  have tv1005 : v1005.toInt = i.toInt + 3 := iv_addT ev1005 hi (by decide) (by decide) (by decide)
  refine va_sld hx hb hX hbl hbA hS (vp_in_iff.mpr ⟨by omega, by omega⟩ : vp_in v1005 L) dL_law_134 ?_
  refine lv_topi (fun v1006 ev1006 => ?_)
  refine lv_aload_n hx hb dL_law_135 rfl (lv_at hl 4 rfl) ?_
  refine lv_iload hx hb dL_law_136 (lv_at hl 0 rfl) ?_
  refine lv_iconst (v := 4) hx hb dL_law_138 (by decide) ?_
  refine lv_iadd hx hb dL_law_139 ?_
  refine lv_topi (fun v1007 ev1007 => ?_)
  have iv1007 : iv v1007 4 3070 := iv_eq ev1007 (iv_add hi (by decide : iv 4 4 4) (by decide) (by decide))
  have tv1007 : v1007.toInt = i.toInt + 4 := iv_addT ev1007 hi (by decide) (by decide) (by decide)
  refine va_sld hx hb hX hbl hbA hS (vp_in_iff.mpr ⟨by omega, by omega⟩ : vp_in v1007 L) dL_law_140 ?_
  refine lv_topi (fun v1008 ev1008 => ?_)
  refine lv_aload_n hx hb dL_law_141 rfl (lv_at hl 4 rfl) ?_
  refine lv_iload hx hb dL_law_142 (lv_at hl 0 rfl) ?_
  refine lv_iconst (v := 5) hx hb dL_law_144 (by decide) ?_
  refine lv_iadd hx hb dL_law_145 ?_
  refine lv_topi (fun v1009 ev1009 => ?_)
  have iv1009 : iv v1009 5 3071 := iv_eq ev1009 (iv_add hi (by decide : iv 5 5 5) (by decide) (by decide))
  have tv1009 : v1009.toInt = i.toInt + 5 := iv_addT ev1009 hi (by decide) (by decide) (by decide)
  refine va_sld hx hb hX hbl hbA hS (vp_in_iff.mpr ⟨by omega, by omega⟩ : vp_in v1009 L) dL_law_146 ?_
  refine lv_topi (fun v1010 ev1010 => ?_)
  obtain ⟨hPc, hDc, hFc⟩ := nv_sub3 (wc := [(h0, .inr (11, [.ref h3, .ref h4, .ref h5, .ref h6, .ref h7, .int x0, .int x1])), (h3, .inl (y1, 2600, .inl f0))]) hP hD hS hA [0, 3] (by decide) rfl
  have hKc := hK.sub (tys' := [(y1, .int)]) [1] rfl
  refine va_calli (va_runV (As := [.int v1002, .int v1004, .int v1006, .int v1008, .int v1010]) (rest := []) ⟨hx, hb, hml, hown, hG⟩ (cX11_feed_1 l dC dI h0 h3 h4 h5 h6 h7 y1 H.size v1002 v1004 v1006 v1008 v1010 x0 x1 f0 ix0) (cwV 5 hG (gV wd_417 wd_418 wd_419 wd_1 wd_420) rfl rfl rfl (by decide +kernel) ⟨Nat.le_of_ble_eq_true rfl, Nat.le_of_ble_eq_true rfl⟩) ⟨fun a U g mk q => by obtain ⟨q0, q1, qP, qK, qD⟩ := q; exact ⟨q0, q1, qP, va_K.moved (u := U) (U := U.calling g mk a) (Vm.Alike.refl U.vm) qK, qD⟩, va_recv hKc hPc (ci := 11) (q0 := 0) rfl rfl, fun U hU hW => ⟨rfl, by rw [hU], by rw [hU]; exact hPc, va_K.moved hW.alike hKc, hDc.weaken (fun _ _ _ _ => trivial)⟩⟩ rfl rfl hl.1 rfl (lv_room (Nat.le_of_ble_eq_true rfl)) dL_law_147 ⟨(show cc + 0 + 0 ≤ 601024 by omega), (show ss + 0 + 0 ≤ 7293034 by omega)⟩) hS (fun q _ h => hFc q h) hFc (fun r1011 u1012 t H1 locs ht hvm hw hB hz1 hk1 hS => ?_)
  obtain ⟨u1012_0, u1012_1⟩ := u1012
  have hw : iv r1011 (-1) 2600 ∧ iv u1012_0 20 2600 ∧ ((x0.toInt ≤ 2580 ∧ r1011.toInt = x0.toInt + 20 ∧ u1012_0.toInt = x0.toInt + 20) ∨ (2581 ≤ x0.toInt ∧ r1011.toInt = -1 ∧ u1012_0.toInt = x0.toInt)) ∧ True := hw
  obtain ⟨ir1011, iu1012_0, op1013, -⟩ := hw
  obtain ⟨hP1, hK1, hD1⟩ := hB
  rw [ht] at hP1
  have hK1 := va_K.moved hvm.symm hK1
  obtain ⟨hP, hD⟩ := nv_join (wf := [(h1, .inr (12, .int x2 :: .ref h8 :: .ref h9 :: .int x3 :: .int x4 :: .int x5 :: .int x6 :: .int x7 :: .int x8 :: .int x9 :: .int x10 :: .int x11 :: [.int x12, .int x13, .int x14, .int x15, .int x16, .int x17, .ref h10, .ref h11, .ref h12, .ref h13, .int x18, .int x19, .int x20, .int x21, .int x22, .int x23, .int x24, .int x25, .ref h14, .int x26, .int x27, .int x28, .int x29, .ref h15, .ref h16, .int x30, .int x31, .long z0, .int x32, .int x33, .ref h17, .ref h18, .ref h19, .ref h20, .ref h21, .int x34, .int x35, .int x36, .int x37, .int x38, .int x39, .int x40, .int x41, .int x42, .ref h22, .ref h23, .int x43, .int x44, .int x45, .int x46, .int x47, .int x48, .int x49, .int x50, .ref h24, .int x51, .int x52, .int x53, .int x54, .int x55])), (h2, .inl (y0, 1, .inr (.inl g0))), (h4, .inr (1, [.ref h25, .ref h26, .ref h27, .ref h28])), (h5, .inr (2, [.ref h29, .ref h30, .ref h4, .int x56, .int x57, .int x58, .int x59, .int x60])), (h6, .inr (0, [.ref h31, .ref h32, .ref h33, .ref h34, .ref h35, .ref h36, .ref h37, .int x61, .int x62, .int x63, .int x64, .int x65, .int x66, .int x67, .int x68, .int x69, .int x70])), (h7, .inr (8, [.ref h38, .ref h4, .int x71, .int x72, .int x73])), (h8, .inl (y2, 65536, .inl f1)), (h9, .inl (y3, 16, .inl f2)), (h10, .inl (y4, 3, .inl f3)), (h11, .inl (y5, 3, .inl f4)), (h12, .inl (y6, 40, .inl f5)), (h13, .inl (y7, 40, .inl f6)), (h14, .inl (y8, 2600, .inl f7)), (h15, .inl (y9, 35, .inr (.inl g1))), (h16, .inl (y10, 35, .inl f8)), (h17, .inl (y11, 60, .inr (.inl g2))), (h18, .inl (y12, 60, .inl f9)), (h19, .inl (y13, 60, .inl f10)), (h20, .inl (y14, 60, .inl f11)), (h21, .inl (y15, 60, .inl f12)), (h22, .inl (y16, 5200, .inl f13)), (h23, .inl (y17, 5200, .inl f14)), (h24, .inl (y18, 100, .inl f15)), (h25, .inl (y19, 32768, .inl f16)), (h26, .inr (7, [.int x74, .int x75, .int x76, .int x77, .int x78])), (h27, .inr (5, [.int x79, .int x80, .int x81, .int x82, .int x83, .int x84])), (h28, .inr (9, [.ref h39, .ref h40, .int x85, .int x86, .int x87, .int x88])), (h29, .inl (y20, 16, .inl f17)), (h30, .inr (3, [.ref h41, .ref h42, .int x89])), (h31, .inr (10, [.ref h43, .ref h44, .ref h45, .ref h46, .ref h47, .ref h3, .int x90, .int x91, .int x92, .int x93, .int x94, .long z1])), (h32, .inr (6, [.int x95, .int x96, .int x97, .int x98, .int x99])), (h33, .inr (6, [.int x100, .int x101, .int x102, .int x103, .int x104])), (h34, .inl (y21, 2600, .inl f18)), (h35, .inl (y22, 2600, .inl f19)), (h36, .inr (4, [.ref h48, .ref h49, .ref h50, .int x105])), (h37, .inr (4, [.ref h51, .ref h52, .ref h53, .int x106])), (h38, .inl (y23, 64, .inl f20)), (h39, .inl (y24, 3, .inl f21)), (h40, .inl (y25, 3, .inl f22)), (h41, .inl (y26, 40, .inl f23)), (h42, .inl (y27, 40, .inl f24)), (h43, .inl (y28, 2501, .inl f25)), (h44, .inl (y29, 2501, .inl f26)), (h45, .inl (y30, 2501, .inl f27)), (h46, .inl (y31, 2501, .inr (.inl g3))), (h47, .inl (y32, 35, .inr (.inl g4))), (h48, .inl (y33, 60, .inr (.inl g5))), (h49, .inl (y34, 60, .inl f28)), (h50, .inl (y35, 60, .inl f29)), (h51, .inl (y36, 60, .inr (.inl g6))), (h52, .inl (y37, 60, .inl f30)), (h53, .inl (y38, 60, .inl f31)), (h0, .inr (11, [.ref h3, .ref h4, .ref h5, .ref h6, .ref h7, .int u1012_0, .int x1])), (h3, .inl (y1, 2600, .inl u1012_1))]) hP hD [0, 3] [1, 2, 4, 5, 6, 7, 8, 9, 10, 11, 12, 13, 14, 15, 16, 17, 18, 19, 20, 21, 22, 23, 24, 25, 26, 27, 28, 29, 30, 31, 32, 33, 34, 35, 36, 37, 38, 39, 40, 41, 42, 43, 44, 45, 46, 47, 48, 49, 50, 51, 52, 53] rfl rfl (by decide) (by decide) hk1 hFc hP1 hD1 rfl
  have hK := (hK.sub (tys' := [(y0, .long), (y2, .byte), (y3, .int), (y4, .int), (y5, .int), (y6, .int), (y7, .int), (y8, .byte), (y9, .long), (y10, .int), (y11, .long), (y12, .int), (y13, .int), (y14, .int), (y15, .int), (y16, .int), (y17, .byte), (y18, .byte), (y19, .int), (y20, .int), (y21, .int), (y22, .int), (y23, .int), (y24, .int), (y25, .int), (y26, .int), (y27, .int), (y28, .int), (y29, .int), (y30, .int), (y31, .long), (y32, .long), (y33, .long), (y34, .int), (y35, .int), (y36, .long), (y37, .int), (y38, .int)]) [0, 2, 3, 4, 5, 6, 7, 8, 9, 10, 11, 12, 13, 14, 15, 16, 17, 18, 19, 20, 21, 22, 23, 24, 25, 26, 27, 28, 29, 30, 31, 32, 33, 34, 35, 36, 37, 38] rfl).app hK1
  generalize H1 = H at hP hS ⊢
  have hK : va_K (dC, dI) vwCl [(y0, .long), (y2, .byte), (y3, .int), (y4, .int), (y5, .int), (y6, .int), (y7, .int), (y8, .byte), (y9, .long), (y10, .int), (y11, .long), (y12, .int), (y13, .int), (y14, .int), (y15, .int), (y16, .int), (y17, .byte), (y18, .byte), (y19, .int), (y20, .int), (y21, .int), (y22, .int), (y23, .int), (y24, .int), (y25, .int), (y26, .int), (y27, .int), (y28, .int), (y29, .int), (y30, .int), (y31, .long), (y32, .long), (y33, .long), (y34, .int), (y35, .int), (y36, .long), (y37, .int), (y38, .int), (y1, .int)] s := hK
  refine lv_pop hx hb dL_law_150 rfl ?_
  refine lv_aload_n hx hb dL_law_151 rfl (lv_at hl 2 rfl) ?_
  refine lv_aload_n hx hb dL_law_152 rfl (lv_at hl 4 rfl) ?_
  refine lv_iload hx hb dL_law_153 (lv_at hl 0 rfl) ?_
  refine lv_iconst (v := 1) hx hb dL_law_155 (by decide) ?_
  refine lv_iadd hx hb dL_law_156 ?_
  refine lv_topi (fun v1014 ev1014 => ?_)
  have iv1014 : iv v1014 1 3067 := iv_eq ev1014 (iv_add hi (by decide : iv 1 1 1) (by decide) (by decide))
  have tv1014 : v1014.toInt = i.toInt + 1 := iv_addT ev1014 hi (by decide) (by decide) (by decide)
  refine va_sld hx hb hX hbl hbA hS (vp_in_iff.mpr ⟨by omega, by omega⟩ : vp_in v1014 L) dL_law_157 ?_
  refine lv_val (y := v1002) (by rw [ev1002, show v1014 = v1001 from Int32.toInt_inj.mp (by omega)]) ?_
  refine lv_aload_n hx hb dL_law_158 rfl (lv_at hl 4 rfl) ?_
  refine lv_iload hx hb dL_law_159 (lv_at hl 0 rfl) ?_
  refine lv_iconst (v := 2) hx hb dL_law_161 (by decide) ?_
  refine lv_iadd hx hb dL_law_162 ?_
  refine lv_topi (fun v1015 ev1015 => ?_)
  have iv1015 : iv v1015 2 3068 := iv_eq ev1015 (iv_add hi (by decide : iv 2 2 2) (by decide) (by decide))
  have tv1015 : v1015.toInt = i.toInt + 2 := iv_addT ev1015 hi (by decide) (by decide) (by decide)
  refine va_sld hx hb hX hbl hbA hS (vp_in_iff.mpr ⟨by omega, by omega⟩ : vp_in v1015 L) dL_law_163 ?_
  refine lv_val (y := v1004) (by rw [ev1004, show v1015 = v1003 from Int32.toInt_inj.mp (by omega)]) ?_
  refine lv_aload_n hx hb dL_law_164 rfl (lv_at hl 4 rfl) ?_
  refine lv_iload hx hb dL_law_165 (lv_at hl 0 rfl) ?_
  refine lv_iconst (v := 3) hx hb dL_law_167 (by decide) ?_
  refine lv_iadd hx hb dL_law_168 ?_
  refine lv_topi (fun v1016 ev1016 => ?_)
  have iv1016 : iv v1016 3 3069 := iv_eq ev1016 (iv_add hi (by decide : iv 3 3 3) (by decide) (by decide))
  have tv1016 : v1016.toInt = i.toInt + 3 := iv_addT ev1016 hi (by decide) (by decide) (by decide)
  refine va_sld hx hb hX hbl hbA hS (vp_in_iff.mpr ⟨by omega, by omega⟩ : vp_in v1016 L) dL_law_169 ?_
  refine lv_val (y := v1006) (by rw [ev1006, show v1016 = v1005 from Int32.toInt_inj.mp (by omega)]) ?_
  refine lv_aload_n hx hb dL_law_170 rfl (lv_at hl 4 rfl) ?_
  refine lv_iload hx hb dL_law_171 (lv_at hl 0 rfl) ?_
  refine lv_iconst (v := 4) hx hb dL_law_173 (by decide) ?_
  refine lv_iadd hx hb dL_law_174 ?_
  refine lv_topi (fun v1017 ev1017 => ?_)
  have iv1017 : iv v1017 4 3070 := iv_eq ev1017 (iv_add hi (by decide : iv 4 4 4) (by decide) (by decide))
  have tv1017 : v1017.toInt = i.toInt + 4 := iv_addT ev1017 hi (by decide) (by decide) (by decide)
  refine va_sld hx hb hX hbl hbA hS (vp_in_iff.mpr ⟨by omega, by omega⟩ : vp_in v1017 L) dL_law_175 ?_
  refine lv_val (y := v1008) (by rw [ev1008, show v1017 = v1007 from Int32.toInt_inj.mp (by omega)]) ?_
  refine lv_aload_n hx hb dL_law_176 rfl (lv_at hl 4 rfl) ?_
  refine lv_iload hx hb dL_law_177 (lv_at hl 0 rfl) ?_
  refine lv_iconst (v := 5) hx hb dL_law_179 (by decide) ?_
  refine lv_iadd hx hb dL_law_180 ?_
  refine lv_topi (fun v1018 ev1018 => ?_)
  have iv1018 : iv v1018 5 3071 := iv_eq ev1018 (iv_add hi (by decide : iv 5 5 5) (by decide) (by decide))
  have tv1018 : v1018.toInt = i.toInt + 5 := iv_addT ev1018 hi (by decide) (by decide) (by decide)
  refine va_sld hx hb hX hbl hbA hS (vp_in_iff.mpr ⟨by omega, by omega⟩ : vp_in v1018 L) dL_law_181 ?_
  refine lv_val (y := v1010) (by rw [ev1010, show v1018 = v1009 from Int32.toInt_inj.mp (by omega)]) ?_
  obtain ⟨hPc, hDc, hFc⟩ := nv_sub3 (wc := [(h1, .inr (12, .int x2 :: .ref h8 :: .ref h9 :: .int x3 :: .int x4 :: .int x5 :: .int x6 :: .int x7 :: .int x8 :: .int x9 :: .int x10 :: .int x11 :: [.int x12, .int x13, .int x14, .int x15, .int x16, .int x17, .ref h10, .ref h11, .ref h12, .ref h13, .int x18, .int x19, .int x20, .int x21, .int x22, .int x23, .int x24, .int x25, .ref h14, .int x26, .int x27, .int x28, .int x29, .ref h15, .ref h16, .int x30, .int x31, .long z0, .int x32, .int x33, .ref h17, .ref h18, .ref h19, .ref h20, .ref h21, .int x34, .int x35, .int x36, .int x37, .int x38, .int x39, .int x40, .int x41, .int x42, .ref h22, .ref h23, .int x43, .int x44, .int x45, .int x46, .int x47, .int x48, .int x49, .int x50, .ref h24, .int x51, .int x52, .int x53, .int x54, .int x55])), (h14, .inl (y8, 2600, .inl f7))]) hP hD hS hA [0, 12] (by decide) rfl
  have hKc := hK.sub (tys' := [(y8, .byte)]) [7] rfl
  refine va_calli (va_runV (As := [.int v1002, .int v1004, .int v1006, .int v1008, .int v1010]) (rest := []) ⟨hx, hb, hml, hown, hG⟩ (cX12_feed_1 l dC dI h1 h8 h9 h10 h11 h12 h13 h14 h15 h16 h17 h18 h19 h20 h21 h22 h23 h24 y8 H.size v1002 v1004 v1006 v1008 v1010 x2 x3 x4 x5 x6 x7 x8 x9 x10 x11 x12 x13 x14 x15 x16 x17 x18 x19 x20 x21 x22 x23 x24 x25 x26 x27 x28 x29 x30 x31 x32 x33 x34 x35 x36 x37 x38 x39 x40 x41 x42 x43 x44 x45 x46 x47 x48 x49 x50 x51 x52 x53 x54 x55 z0 f7 ix17 ix18 ix23 ix24 ix25 ix26 ix27 ix28 ix29 ix33 ix34 ix35 ix36 ix37 ix38 ix43 ix44 ix48 ix49 ix51 ix55 if7) (cwV 5 hG (gV wd_1691 wd_1692 wd_1693 wd_17 wd_1694) rfl rfl rfl (by decide +kernel) ⟨Nat.le_of_ble_eq_true rfl, Nat.le_of_ble_eq_true rfl⟩) ⟨fun a U g mk q => by obtain ⟨q0, q1, qP, qK, qD⟩ := q; exact ⟨q0, q1, qP, va_K.moved (u := U) (U := U.calling g mk a) (Vm.Alike.refl U.vm) qK, qD⟩, va_recv hKc hPc (ci := 12) (q0 := 0) rfl rfl, fun U hU hW => ⟨rfl, by rw [hU], by rw [hU]; exact hPc, va_K.moved hW.alike hKc, hDc.weaken (fun _ _ _ _ => trivial)⟩⟩ rfl rfl hl.1 rfl (lv_room (Nat.le_of_ble_eq_true rfl)) dL_law_182 ⟨(show cc + 0 + 0 ≤ 601024 by omega), (show ss + 0 + 0 ≤ 7293034 by omega)⟩) hS (fun q _ h => hFc q h) hFc (fun r1019 u1020 t H1 locs ht hvm hw hB hz1 hk1 hS => ?_)
  obtain ⟨u1020_0, u1020_1⟩ := u1020
  have hw : iv r1019 (-1) 2600 ∧ iv u1020_0 20 2600 ∧ (∀ j, iv (u1020_1 j) (-128) 127) ∧ ((x26.toInt ≤ 2580 ∧ r1019.toInt = x26.toInt + 20 ∧ u1020_0.toInt = x26.toInt + 20) ∨ (2581 ≤ x26.toInt ∧ r1019.toInt = -1 ∧ u1020_0.toInt = x26.toInt)) ∧ True := hw
  obtain ⟨ir1019, iu1020_0, iu1020_1, op1021, -⟩ := hw
  obtain ⟨hP1, hK1, hD1⟩ := hB
  rw [ht] at hP1
  have hK1 := va_K.moved hvm.symm hK1
  obtain ⟨hP, hD⟩ := nv_join (wf := [(h2, .inl (y0, 1, .inr (.inl g0))), (h4, .inr (1, [.ref h25, .ref h26, .ref h27, .ref h28])), (h5, .inr (2, [.ref h29, .ref h30, .ref h4, .int x56, .int x57, .int x58, .int x59, .int x60])), (h6, .inr (0, [.ref h31, .ref h32, .ref h33, .ref h34, .ref h35, .ref h36, .ref h37, .int x61, .int x62, .int x63, .int x64, .int x65, .int x66, .int x67, .int x68, .int x69, .int x70])), (h7, .inr (8, [.ref h38, .ref h4, .int x71, .int x72, .int x73])), (h8, .inl (y2, 65536, .inl f1)), (h9, .inl (y3, 16, .inl f2)), (h10, .inl (y4, 3, .inl f3)), (h11, .inl (y5, 3, .inl f4)), (h12, .inl (y6, 40, .inl f5)), (h13, .inl (y7, 40, .inl f6)), (h15, .inl (y9, 35, .inr (.inl g1))), (h16, .inl (y10, 35, .inl f8)), (h17, .inl (y11, 60, .inr (.inl g2))), (h18, .inl (y12, 60, .inl f9)), (h19, .inl (y13, 60, .inl f10)), (h20, .inl (y14, 60, .inl f11)), (h21, .inl (y15, 60, .inl f12)), (h22, .inl (y16, 5200, .inl f13)), (h23, .inl (y17, 5200, .inl f14)), (h24, .inl (y18, 100, .inl f15)), (h25, .inl (y19, 32768, .inl f16)), (h26, .inr (7, [.int x74, .int x75, .int x76, .int x77, .int x78])), (h27, .inr (5, [.int x79, .int x80, .int x81, .int x82, .int x83, .int x84])), (h28, .inr (9, [.ref h39, .ref h40, .int x85, .int x86, .int x87, .int x88])), (h29, .inl (y20, 16, .inl f17)), (h30, .inr (3, [.ref h41, .ref h42, .int x89])), (h31, .inr (10, [.ref h43, .ref h44, .ref h45, .ref h46, .ref h47, .ref h3, .int x90, .int x91, .int x92, .int x93, .int x94, .long z1])), (h32, .inr (6, [.int x95, .int x96, .int x97, .int x98, .int x99])), (h33, .inr (6, [.int x100, .int x101, .int x102, .int x103, .int x104])), (h34, .inl (y21, 2600, .inl f18)), (h35, .inl (y22, 2600, .inl f19)), (h36, .inr (4, [.ref h48, .ref h49, .ref h50, .int x105])), (h37, .inr (4, [.ref h51, .ref h52, .ref h53, .int x106])), (h38, .inl (y23, 64, .inl f20)), (h39, .inl (y24, 3, .inl f21)), (h40, .inl (y25, 3, .inl f22)), (h41, .inl (y26, 40, .inl f23)), (h42, .inl (y27, 40, .inl f24)), (h43, .inl (y28, 2501, .inl f25)), (h44, .inl (y29, 2501, .inl f26)), (h45, .inl (y30, 2501, .inl f27)), (h46, .inl (y31, 2501, .inr (.inl g3))), (h47, .inl (y32, 35, .inr (.inl g4))), (h48, .inl (y33, 60, .inr (.inl g5))), (h49, .inl (y34, 60, .inl f28)), (h50, .inl (y35, 60, .inl f29)), (h51, .inl (y36, 60, .inr (.inl g6))), (h52, .inl (y37, 60, .inl f30)), (h53, .inl (y38, 60, .inl f31)), (h0, .inr (11, [.ref h3, .ref h4, .ref h5, .ref h6, .ref h7, .int u1012_0, .int x1])), (h3, .inl (y1, 2600, .inl u1012_1)), (h1, .inr (12, .int 0 :: .ref h8 :: .ref h9 :: .int x3 :: .int x4 :: .int x5 :: .int x6 :: .int x7 :: .int x8 :: .int x9 :: .int x10 :: .int x11 :: [.int x12, .int x13, .int x14, .int x15, .int x16, .int x17, .ref h10, .ref h11, .ref h12, .ref h13, .int x18, .int x19, .int x20, .int x21, .int x22, .int x23, .int x24, .int x25, .ref h14, .int u1020_0, .int x27, .int x28, .int x29, .ref h15, .ref h16, .int x30, .int x31, .long z0, .int x32, .int x33, .ref h17, .ref h18, .ref h19, .ref h20, .ref h21, .int x34, .int x35, .int x36, .int x37, .int x38, .int x39, .int x40, .int x41, .int x42, .ref h22, .ref h23, .int x43, .int x44, .int x45, .int x46, .int x47, .int x48, .int x49, .int x50, .ref h24, .int x51, .int x52, .int x53, .int x54, .int x55])), (h14, .inl (y8, 2600, .inl u1020_1))]) hP hD [0, 12] [1, 2, 3, 4, 5, 6, 7, 8, 9, 10, 11, 13, 14, 15, 16, 17, 18, 19, 20, 21, 22, 23, 24, 25, 26, 27, 28, 29, 30, 31, 32, 33, 34, 35, 36, 37, 38, 39, 40, 41, 42, 43, 44, 45, 46, 47, 48, 49, 50, 51, 52, 53] rfl rfl (by decide) (by decide) hk1 hFc hP1 hD1 rfl
  have hK := (hK.sub (tys' := [(y0, .long), (y2, .byte), (y3, .int), (y4, .int), (y5, .int), (y6, .int), (y7, .int), (y9, .long), (y10, .int), (y11, .long), (y12, .int), (y13, .int), (y14, .int), (y15, .int), (y16, .int), (y17, .byte), (y18, .byte), (y19, .int), (y20, .int), (y21, .int), (y22, .int), (y23, .int), (y24, .int), (y25, .int), (y26, .int), (y27, .int), (y28, .int), (y29, .int), (y30, .int), (y31, .long), (y32, .long), (y33, .long), (y34, .int), (y35, .int), (y36, .long), (y37, .int), (y38, .int), (y1, .int)]) [0, 1, 2, 3, 4, 5, 6, 8, 9, 10, 11, 12, 13, 14, 15, 16, 17, 18, 19, 20, 21, 22, 23, 24, 25, 26, 27, 28, 29, 30, 31, 32, 33, 34, 35, 36, 37, 38] rfl).app hK1
  generalize H1 = H at hP hS ⊢
  have hK : va_K (dC, dI) vwCl [(y0, .long), (y2, .byte), (y3, .int), (y4, .int), (y5, .int), (y6, .int), (y7, .int), (y9, .long), (y10, .int), (y11, .long), (y12, .int), (y13, .int), (y14, .int), (y15, .int), (y16, .int), (y17, .byte), (y18, .byte), (y19, .int), (y20, .int), (y21, .int), (y22, .int), (y23, .int), (y24, .int), (y25, .int), (y26, .int), (y27, .int), (y28, .int), (y29, .int), (y30, .int), (y31, .long), (y32, .long), (y33, .long), (y34, .int), (y35, .int), (y36, .long), (y37, .int), (y38, .int), (y1, .int), (y8, .byte)] s := hK
  refine lv_pop hx hb dL_law_185 rfl ?_
  refine lv_goto (tgt := 602) hx hb dL_law_186 (by decide) ?_
  obtain ⟨v1022, ev1022⟩ : ∃ y : Int32, y = i + Int32.ofInt 6 := ⟨_, rfl⟩
  have iv1022 : iv v1022 6 3072 := iv_eq ev1022 (iv_add hi (by decide : iv (Int32.ofInt 6) 6 6) (by decide) (by decide))
  have tv1022 : v1022.toInt = i.toInt + 6 := iv_addT ev1022 hi (by decide) (by decide) (by decide)
  refine lv_iinc (v := v1022) (lv' := [(4, .int v1022), (3, .ref h2), (2, .ref h1), (1, .ref h0), (0, .ref b)]) hx hb dL_law_602 hl (k := 0) rfl ev1022.symm (by decide) rfl (fun ls hl => ?_)
  refine lv_goto (tgt := 23) hx hb dL_law_605 (by decide) ?_
  exact ih (cc + 0) (ss + 0) v1022 h0 h1 h2 h3 h4 h5 h6 h7 h8 h9 h10 h11 h12 h13 h14 h15 h16 h17 h18 h19 h20 h21 h22 h23 h24 h25 h26 h27 h28 h29 h30 h31 h32 h33 h34 h35 h36 h37 h38 h39 h40 h41 h42 h43 h44 h45 h46 h47 h48 h49 h50 h51 h52 h53 y0 y1 y2 y3 y4 y5 y6 y7 y8 y9 y10 y11 y12 y13 y14 y15 y16 y17 y18 y19 y20 y21 y22 y23 y24 y25 y26 y27 y28 y29 y30 y31 y32 y33 y34 y35 y36 y37 y38 u1012_0 x1 0 x3 x4 x5 x6 x7 x8 x9 x10 x11 x12 x13 x14 x15 x16 x17 x18 x19 x20 x21 x22 x23 x24 x25 u1020_0 x27 x28 x29 x30 x31 x32 x33 x34 x35 x36 x37 x38 x39 x40 x41 x42 x43 x44 x45 x46 x47 x48 x49 x50 x51 x52 x53 x54 x55 x56 x57 x58 x59 x60 x61 x62 x63 x64 x65 x66 x67 x68 x69 x70 x71 x72 x73 x74 x75 x76 x77 x78 x79 x80 x81 x82 x83 x84 x85 x86 x87 x88 x89 x90 x91 x92 x93 x94 x95 x96 x97 x98 x99 x100 x101 x102 x103 x104 x105 x106 z0 z1 u1012_1 f1 f2 f3 f4 f5 f6 u1020_1 f8 f9 f10 f11 f12 f13 f14 f15 f16 f17 f18 f19 f20 f21 f22 f23 f24 f25 f26 f27 f28 f29 f30 f31 g0 g1 g2 g3 g4 g5 g6 _ _ ls (by omega) (by omega) ⟨by omega, by omega⟩ (by omega) (by omega) (iv_w iu1012_0 (by decide) (by decide)) ix17 ix18 ix23 ix24 ix25 (iv_w iu1020_0 (by decide) (by decide)) ix27 ix28 ix29 ix33 ix34 ix35 ix36 ix37 ix38 ix43 ix44 ix48 ix49 ix51 ix55 ix60 ix61 ix62 ix68 ix71 ix88 ix89 ix90 ix91 ix92 ix98 ix99 ix103 ix104 ix105 ix106 if1 if2 iu1020_1 if8 if13 if14 if15 kf8_0 kf8_1 kf8_2 kf8_3 kf8_4 kf8_5 kf8_6 kf8_7 kf8_8 kf8_9 kf8_10 kf8_11 kf8_12 kf8_13 kf8_14 kf8_15 kf8_16 kf8_17 kf8_18 kf8_19 kf8_20 kf8_21 kf8_22 kf8_23 kf8_24 kf8_25 kf8_26 kf8_27 kf8_28 kf8_29 kf8_30 kf8_31 kf8_32 kf8_33 kf8_34 (hK.sub (tys' := _) [0, 37, 1, 2, 3, 4, 5, 6, 38, 7, 8, 9, 10, 11, 12, 13, 14, 15, 16, 17, 18, 19, 20, 21, 22, 23, 24, 25, 26, 27, 28, 29, 30, 31, 32, 33, 34, 35, 36] rfl) (hP.sub (ws' := _) [50, 52, 0, 51, 1, 2, 3, 4, 5, 6, 7, 8, 9, 10, 53, 11, 12, 13, 14, 15, 16, 17, 18, 19, 20, 21, 22, 23, 24, 25, 26, 27, 28, 29, 30, 31, 32, 33, 34, 35, 36, 37, 38, 39, 40, 41, 42, 43, 44, 45, 46, 47, 48, 49] rfl) (hD.sub (ws' := _) [50, 52, 0, 51, 1, 2, 3, 4, 5, 6, 7, 8, 9, 10, 53, 11, 12, 13, 14, 15, 16, 17, 18, 19, 20, 21, 22, 23, 24, 25, 26, 27, 28, 29, 30, 31, 32, 33, 34, 35, 36, 37, 38, 39, 40, 41, 42, 43, 44, 45, 46, 47, 48, 49] (by decide) rfl) hS hl
