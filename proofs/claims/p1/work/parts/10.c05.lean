set_option maxHeartbeats 4000000 in
set_option maxRecDepth 100000 in
theorem cX2_step_1 (l : Launch) (dC : Nat → ClassId) (dI : Nat → Nat → Nat) (h0 h1 h2 h3 h4 h5 h6 h7 h8 h9 : Nat) (y0 : ClassId) (sz : Nat) : Met l yX2_step (Cond.code yX2_step cX2_step 4 (some .boolean) :: lw_G) ({ frames := 3, cells := 0, slots := 0, locals := 64 }) (va_Pc [.ref h0] (fun U => U.heap.size = sz ∧ va_P (dC, dI) vwCl [(h0, .inr (2, [.ref h1, .ref h2, .ref h3, .int 0, .int 0, .int 0, .int 0, .int 0])), (h3, .inr (1, [.ref h4, .ref h5, .ref h6, .ref h7])), (h2, .inr (3, [.ref h8, .ref h9, .int 0])), (h1, .inl (y0, 16, .inl (fun _ => 0))), (h5, .inr (7, [.int 0, .int 0, .int 0, .int 0, .int 0]))] U.heap ∧ va_K (dC, dI) vwCl [(y0, .int)] U ∧ va_D (fun _ => True) [(h0, .inr (2, [.ref h1, .ref h2, .ref h3, .int 0, .int 0, .int 0, .int 0, .int 0])), (h3, .inr (1, [.ref h4, .ref h5, .ref h6, .ref h7])), (h2, .inr (3, [.ref h8, .ref h9, .int 0])), (h1, .inl (y0, 16, .inl (fun _ => 0))), (h5, .inr (7, [.int 0, .int 0, .int 0, .int 0, .int 0]))])) (va_Qi (fun (r : Int32) (u : Unit) => r = 0 ∧ True) (fun (u : Unit) (t : State) => va_P (dC, dI) vwCl [(h0, .inr (2, [.ref h1, .ref h2, .ref h3, .int 0, .int 0, .int 0, .int 0, .int 0])), (h3, .inr (1, [.ref h4, .ref h5, .ref h6, .ref h7])), (h2, .inr (3, [.ref h8, .ref h9, .int 0])), (h1, .inl (y0, 16, .inl (fun _ => 0))), (h5, .inr (7, [.int 0, .int 0, .int 0, .int 0, .int 0]))] t.heap ∧ va_K (dC, dI) vwCl [(y0, .int)] t ∧ va_D (va_A [(h0, .inr (2, [.ref h1, .ref h2, .ref h3, .int 0, .int 0, .int 0, .int 0, .int 0])), (h3, .inr (1, [.ref h4, .ref h5, .ref h6, .ref h7])), (h2, .inr (3, [.ref h8, .ref h9, .int 0])), (h1, .inl (y0, 16, .inl (fun _ => 0))), (h5, .inr (7, [.int 0, .int 0, .int 0, .int 0, .int 0]))] sz) [(h0, .inr (2, [.ref h1, .ref h2, .ref h3, .int 0, .int 0, .int 0, .int 0, .int 0])), (h3, .inr (1, [.ref h4, .ref h5, .ref h6, .ref h7])), (h2, .inr (3, [.ref h8, .ref h9, .int 0])), (h1, .inl (y0, 16, .inl (fun _ => 0))), (h5, .inr (7, [.int 0, .int 0, .int 0, .int 0, .int 0]))]) (va_A [(h0, .inr (2, [.ref h1, .ref h2, .ref h3, .int 0, .int 0, .int 0, .int 0, .int 0])), (h3, .inr (1, [.ref h4, .ref h5, .ref h6, .ref h7])), (h2, .inr (3, [.ref h8, .ref h9, .int 0])), (h1, .inl (y0, 16, .inl (fun _ => 0))), (h5, .inr (7, [.int 0, .int 0, .int 0, .int 0, .int 0]))] sz)) 0 0 (va_A [(h0, .inr (2, [.ref h1, .ref h2, .ref h3, .int 0, .int 0, .int 0, .int 0, .int 0])), (h3, .inr (1, [.ref h4, .ref h5, .ref h6, .ref h7])), (h2, .inr (3, [.ref h8, .ref h9, .int 0])), (h1, .inl (y0, 16, .inl (fun _ => 0))), (h5, .inr (7, [.int 0, .int 0, .int 0, .int 0, .int 0]))] sz) := by
  refine Met.ofW (cc := cX2_step) (maxL := 4) (ret := (some .boolean)) (by decide) rfl ?_
  intro p e s m args below meth c s₁ B hml hv
  obtain ⟨rfl, hsz, hP, hK, hD0⟩ := hv
  have hx := B.exec
  have hb := B.bytes
  have hr := B.returns
  have hts0 := atoms_spec (ws := Cond.code yX2_step cX2_step 4 (some .boolean) :: lw_G) B.pre
  have hG : ∀ w ∈ lw_G, w.before _ s = true := fun w h => hts0 w (List.mem_cons_of_mem _ h)
  have hown : s.vm.findClass RX2 = some m.cls := findClass_of_methodNamed B.named
  have hlocks := B.notSynchronized
  subst hsz
  have hD := hD0.self (sz := s.heap.size)
  generalize hAe : va_A [(h0, .inr (2, [.ref h1, .ref h2, .ref h3, .int 0, .int 0, .int 0, .int 0, .int 0])), (h3, .inr (1, [.ref h4, .ref h5, .ref h6, .ref h7])), (h2, .inr (3, [.ref h8, .ref h9, .int 0])), (h1, .inl (y0, 16, .inl (fun _ => 0))), (h5, .inr (7, [.int 0, .int 0, .int 0, .int 0, .int 0]))] s.heap.size = A at hD ⊢
  have hA : ∀ q : Nat, s.heap.size ≤ q → A q := fun q h => by rw [← hAe]; exact Or.inr h
  have hS : va_S A s.heap s.heap [] := va_S.rf
  have hP : va_P (dC, dI) vwCl [(h0, .inr (2, [.ref h1, .ref h2, .ref h3, .int 0, .int 0, .int 0, .int 0, .int 0])), (h3, .inr (1, [.ref h4, .ref h5, .ref h6, .ref h7])), (h2, .inr (3, [.ref h8, .ref h9, .int 0])), (h1, .inl (y0, 16, .inl (fun _ => 0))), (h5, .inr (7, [.int 0, .int 0, .int 0, .int 0, .int 0]))] s.heap := hP
  have hl := lv_entry ([.ref h0]) (n := 4) (Nat.le_of_ble_eq_true rfl)
  rw [lg_entry_eq]
  generalize (lg_sl ([.ref h0]) ++ List.replicate (4 - (lg_sl ([.ref h0])).length) Slot.unset).toArray = ls at hl ⊢
  have hl : lv_has ls 4 [(0, .ref h0)] := hl
  refine lv_aload_n hx hb dX2_step_0 rfl (lv_at hl 0 rfl) ?_
  refine va_get (D := (dC, dI)) (ci := 2) (v := .ref h2) (C := RX2) (T := TX2) (N := 8) hx hb hG inGX2 hown hK hP 0 rfl rfl 1 (by decide) (hG _ wd_150) (fun _ h9 => h9) rfl dX2_step_1 ?_
  refine lv_aload_n hx hb dX2_step_4 rfl (lv_at hl 0 rfl) ?_
  refine va_get (D := (dC, dI)) (ci := 2) (v := .int 0) (C := RX2) (T := TX2) (N := 8) hx hb hG inGX2 hown hK hP 0 rfl rfl 3 (by decide) (hG _ wd_152) (fun _ h9 => h9) rfl dX2_step_5 ?_
  refine lv_aload_n hx hb dX2_step_8 rfl (lv_at hl 0 rfl) ?_
  refine va_get (D := (dC, dI)) (ci := 2) (v := .ref h3) (C := RX2) (T := TX2) (N := 8) hx hb hG inGX2 hown hK hP 0 rfl rfl 2 (by decide) (hG _ wd_151) (fun _ h9 => h9) rfl dX2_step_9 ?_
  have hPc := hP.sub (ws' := [(h3, .inr (1, [.ref h4, .ref h5, .ref h6, .ref h7]))]) [1] rfl
  have hDc := hD.sub (ws' := [(h3, .inr (1, [.ref h4, .ref h5, .ref h6, .ref h7]))]) [1] (by decide) rfl
  have hKc := hK.sub (tys' := []) [] rfl
  have hFc := va_free (wc := [(h3, .inr (1, [.ref h4, .ref h5, .ref h6, .ref h7]))]) hD hS hA [1] rfl
  refine va_callr (va_runV (As := []) (rest := [.int 0, .ref h2]) ⟨hx, hb, hml, hown, hG⟩ (cX1_port_1 l dC dI h3 h4 h5 h6 h7 s.heap.size) (cwV 0 hG (gV wd_957 wd_958 wd_959 wd_2 wd_960) rfl rfl rfl (by decide +kernel) ⟨Nat.le_of_ble_eq_true rfl, Nat.le_of_ble_eq_true rfl⟩) ⟨fun a U g mk q => by obtain ⟨q0, q1, qP, qK, qD⟩ := q; exact ⟨q0, q1, qP, va_K.moved (u := U) (U := U.calling g mk a) (Vm.Alike.refl U.vm) qK, qD⟩, va_recv hKc hPc (ci := 1) (q0 := 0) rfl rfl, fun U hU hW => ⟨rfl, by rw [hU], by rw [hU]; exact hPc, va_K.moved hW.alike hKc, hDc.weaken (fun _ _ _ _ => trivial)⟩⟩ rfl rfl hl.1 rfl (lv_room (Nat.le_of_ble_eq_true rfl)) dX2_step_12 ⟨by decide, by decide⟩) hS (fun q _ h => hFc q h) hFc (fun u2 r1a t H1 locs ht hvm hw hB hz1 hk1 hS => ?_)
  obtain ⟨hra, hP1, hK1, hD1⟩ := hB
  rw [ht] at hP1
  have hK1 := va_K.moved hvm.symm hK1
  obtain ⟨hP, hD⟩ := va_join (wr := [(h0, .inr (2, [.ref h1, .ref h2, .ref h3, .int 0, .int 0, .int 0, .int 0, .int 0])), (h2, .inr (3, [.ref h8, .ref h9, .int 0])), (h1, .inl (y0, 16, .inl (fun _ => 0))), (h5, .inr (7, [.int 0, .int 0, .int 0, .int 0, .int 0]))]) (w1 := [(h3, .inr (1, [.ref h4, .ref h5, .ref h6, .ref h7]))]) hP hD [1] [0, 2, 3, 4] rfl rfl (by decide) (by decide) hk1 hFc hP1 hD1
  have hK := (hK.sub (tys' := [(y0, .int)]) [0] rfl).app hK1
  generalize H1 = H at hP hS ⊢
  have hP : va_P (dC, dI) vwCl [(h0, .inr (2, [.ref h1, .ref h2, .ref h3, .int 0, .int 0, .int 0, .int 0, .int 0])), (h2, .inr (3, [.ref h8, .ref h9, .int 0])), (h1, .inl (y0, 16, .inl (fun _ => 0))), (h5, .inr (7, [.int 0, .int 0, .int 0, .int 0, .int 0])), (h3, .inr (1, [.ref h4, .ref h5, .ref h6, .ref h7]))] H := hP
  have hD : va_D A [(h0, .inr (2, [.ref h1, .ref h2, .ref h3, .int 0, .int 0, .int 0, .int 0, .int 0])), (h2, .inr (3, [.ref h8, .ref h9, .int 0])), (h1, .inl (y0, 16, .inl (fun _ => 0))), (h5, .inr (7, [.int 0, .int 0, .int 0, .int 0, .int 0])), (h3, .inr (1, [.ref h4, .ref h5, .ref h6, .ref h7]))] := hD
  have hK : va_K (dC, dI) vwCl [(y0, .int)] s := hK
  rw [hra]
  have hPc := hP.sub (ws' := [(h2, .inr (3, [.ref h8, .ref h9, .int 0]))]) [1] rfl
  have hDc := hD.sub (ws' := [(h2, .inr (3, [.ref h8, .ref h9, .int 0]))]) [1] (by decide) rfl
  have hKc := hK.sub (tys' := []) [] rfl
  have hFc := va_free (wc := [(h2, .inr (3, [.ref h8, .ref h9, .int 0]))]) hD hS hA [1] rfl
  refine va_callv (va_runV (As := [.int 0, .ref h5]) (rest := []) ⟨hx, hb, hml, hown, hG⟩ (cX3_reach_1 l dC dI h2 h5 h8 h9 H.size) (cwV 2 hG (gV wd_961 wd_962 wd_963 wd_7 wd_964) rfl rfl rfl (by decide +kernel) ⟨Nat.le_of_ble_eq_true rfl, Nat.le_of_ble_eq_true rfl⟩) ⟨fun a U g mk q => by obtain ⟨q0, q1, qP, qK, qD⟩ := q; exact ⟨q0, q1, qP, va_K.moved (u := U) (U := U.calling g mk a) (Vm.Alike.refl U.vm) qK, qD⟩, va_recv hKc hPc (ci := 3) (q0 := 0) rfl rfl, fun U hU hW => ⟨rfl, by rw [hU], by rw [hU]; exact hPc, va_K.moved hW.alike hKc, hDc.weaken (fun _ _ _ _ => trivial)⟩⟩ rfl rfl hl.1 rfl (lv_room (Nat.le_of_ble_eq_true rfl)) dX2_step_15 ⟨by decide, by decide⟩) hS (fun q _ h => hFc q h) hFc (fun u4 t H1 locs ht hvm hw hB hz1 hk1 hS => ?_)
  obtain ⟨hP1, hK1, hD1⟩ := hB
  rw [ht] at hP1
  have hK1 := va_K.moved hvm.symm hK1
  obtain ⟨hP, hD⟩ := va_join (wr := [(h0, .inr (2, [.ref h1, .ref h2, .ref h3, .int 0, .int 0, .int 0, .int 0, .int 0])), (h1, .inl (y0, 16, .inl (fun _ => 0))), (h5, .inr (7, [.int 0, .int 0, .int 0, .int 0, .int 0])), (h3, .inr (1, [.ref h4, .ref h5, .ref h6, .ref h7]))]) (w1 := [(h2, .inr (3, [.ref h8, .ref h9, .int 0]))]) hP hD [1] [0, 2, 3, 4] rfl rfl (by decide) (by decide) hk1 hFc hP1 hD1
  have hK := (hK.sub (tys' := [(y0, .int)]) [0] rfl).app hK1
  generalize H1 = H at hP hS ⊢
  have hP : va_P (dC, dI) vwCl [(h0, .inr (2, [.ref h1, .ref h2, .ref h3, .int 0, .int 0, .int 0, .int 0, .int 0])), (h1, .inl (y0, 16, .inl (fun _ => 0))), (h5, .inr (7, [.int 0, .int 0, .int 0, .int 0, .int 0])), (h3, .inr (1, [.ref h4, .ref h5, .ref h6, .ref h7])), (h2, .inr (3, [.ref h8, .ref h9, .int 0]))] H := hP
  have hD : va_D A [(h0, .inr (2, [.ref h1, .ref h2, .ref h3, .int 0, .int 0, .int 0, .int 0, .int 0])), (h1, .inl (y0, 16, .inl (fun _ => 0))), (h5, .inr (7, [.int 0, .int 0, .int 0, .int 0, .int 0])), (h3, .inr (1, [.ref h4, .ref h5, .ref h6, .ref h7])), (h2, .inr (3, [.ref h8, .ref h9, .int 0]))] := hD
  have hK : va_K (dC, dI) vwCl [(y0, .int)] s := hK
  refine lv_aload_n hx hb dX2_step_18 rfl (lv_at hl 0 rfl) ?_
  refine va_get (D := (dC, dI)) (ci := 2) (v := .ref h1) (C := RX2) (T := TX2) (N := 8) hx hb hG inGX2 hown hK hP 0 rfl rfl 0 (by decide) (hG _ wd_149) (fun _ h9 => h9) rfl dX2_step_19 ?_
  refine lv_iconst (v := 2) hx hb dX2_step_22 (by decide) ?_
  refine va_iald hx hb hK hP 1 0 rfl rfl (iv_in (by decide : iv 2 2 2) (by decide) (by decide) : vp_in 2 16) dX2_step_23 ?_
  refine lv_val (y := 0) rfl ?_
  refine lv_bipush (v := 8) hx hb dX2_step_24 (by decide) ?_
  refine lv_iand hx hb dX2_step_26 ?_
  refine lv_val (y := 0) (by decide +kernel) ?_
  refine lv_if_eq (tgt := 37) hx hb dX2_step_27 (by decide) (fun _ => ?_) (fun c => absurd (by decide) c)
  refine lv_iconst (v := 0) hx hb dX2_step_37 (by decide) ?_
  refine lv_istore_n (lv' := [(1, .int 0), (0, .ref h0)]) hx hb dX2_step_38 rfl hl (by decide) rfl (fun ls hl => ?_)
  refine lv_iload_n hx hb dX2_step_39 rfl (lv_at hl 0 rfl) ?_
  refine lv_if_eq (tgt := 52) hx hb dX2_step_40 (by decide) (fun _ => ?_) (fun c => absurd (by decide) c)
  refine lv_aload_n hx hb dX2_step_52 rfl (lv_at hl 1 rfl) ?_
  refine va_get (D := (dC, dI)) (ci := 2) (v := .ref h1) (C := RX2) (T := TX2) (N := 8) hx hb hG inGX2 hown hK hP 0 rfl rfl 0 (by decide) (hG _ wd_149) (fun _ h9 => h9) rfl dX2_step_53 ?_
  refine lv_iconst (v := 2) hx hb dX2_step_56 (by decide) ?_
  refine va_iald hx hb hK hP 1 0 rfl rfl (iv_in (by decide : iv 2 2 2) (by decide) (by decide) : vp_in 2 16) dX2_step_57 ?_
  refine lv_val (y := 0) rfl ?_
  refine lv_bipush (v := 16) hx hb dX2_step_58 (by decide) ?_
  refine lv_iand hx hb dX2_step_60 ?_
  refine lv_val (y := 0) (by decide +kernel) ?_
  refine lv_if_eq (tgt := 79) hx hb dX2_step_61 (by decide) (fun _ => ?_) (fun c => absurd (by decide) c)
  refine lv_aload_n hx hb dX2_step_79 rfl (lv_at hl 1 rfl) ?_
  refine va_get (D := (dC, dI)) (ci := 2) (v := .ref h3) (C := RX2) (T := TX2) (N := 8) hx hb hG inGX2 hown hK hP 0 rfl rfl 2 (by decide) (hG _ wd_151) (fun _ h9 => h9) rfl dX2_step_80 ?_
  refine lv_aload_n hx hb dX2_step_83 rfl (lv_at hl 1 rfl) ?_
  refine va_get (D := (dC, dI)) (ci := 2) (v := .ref h1) (C := RX2) (T := TX2) (N := 8) hx hb hG inGX2 hown hK hP 0 rfl rfl 0 (by decide) (hG _ wd_149) (fun _ h9 => h9) rfl dX2_step_84 ?_
  refine lv_iconst (v := 0) hx hb dX2_step_87 (by decide) ?_
  refine va_iald hx hb hK hP 1 0 rfl rfl (iv_in (by decide : iv 0 0 0) (by decide) (by decide) : vp_in 0 16) dX2_step_88 ?_
  refine lv_val (y := 0) rfl ?_
  have hPc := hP.sub (ws' := [(h3, .inr (1, [.ref h4, .ref h5, .ref h6, .ref h7])), (h5, .inr (7, [.int 0, .int 0, .int 0, .int 0, .int 0]))]) [3, 2] rfl
  have hDc := hD.sub (ws' := [(h3, .inr (1, [.ref h4, .ref h5, .ref h6, .ref h7])), (h5, .inr (7, [.int 0, .int 0, .int 0, .int 0, .int 0]))]) [3, 2] (by decide) rfl
  have hKc := hK.sub (tys' := []) [] rfl
  have hFc := va_free (wc := [(h3, .inr (1, [.ref h4, .ref h5, .ref h6, .ref h7])), (h5, .inr (7, [.int 0, .int 0, .int 0, .int 0, .int 0]))]) hD hS hA [3, 2] rfl
  refine va_calli (va_runV (As := [.int 0]) (rest := []) ⟨hx, hb, hml, hown, hG⟩ (cX1_lookWord_2 l dC dI h3 h4 h5 h6 h7 H.size) (cwV 1 hG (gV wd_821 wd_822 wd_823 wd_2 wd_824) rfl rfl rfl (by decide +kernel) ⟨Nat.le_of_ble_eq_true rfl, Nat.le_of_ble_eq_true rfl⟩) ⟨fun a U g mk q => by obtain ⟨q0, q1, qP, qK, qD⟩ := q; exact ⟨q0, q1, qP, va_K.moved (u := U) (U := U.calling g mk a) (Vm.Alike.refl U.vm) qK, qD⟩, va_recv hKc hPc (ci := 1) (q0 := 0) rfl rfl, fun U hU hW => ⟨rfl, by rw [hU], by rw [hU]; exact hPc, va_K.moved hW.alike hKc, hDc.weaken (fun _ _ _ _ => trivial)⟩⟩ rfl rfl hl.1 rfl (lv_room (Nat.le_of_ble_eq_true rfl)) dX2_step_89 ⟨by decide, by decide⟩) hS (fun q _ h => hFc q h) hFc (fun r5 u6 t H1 locs ht hvm hw hB hz1 hk1 hS => ?_)
  have hw : r5 = 0 ∧ True := hw
  obtain ⟨er5, -⟩ := hw
  obtain ⟨hP1, hK1, hD1⟩ := hB
  rw [ht] at hP1
  have hK1 := va_K.moved hvm.symm hK1
  obtain ⟨hP, hD⟩ := va_join (wr := [(h0, .inr (2, [.ref h1, .ref h2, .ref h3, .int 0, .int 0, .int 0, .int 0, .int 0])), (h1, .inl (y0, 16, .inl (fun _ => 0))), (h2, .inr (3, [.ref h8, .ref h9, .int 0]))]) (w1 := [(h3, .inr (1, [.ref h4, .ref h5, .ref h6, .ref h7])), (h5, .inr (7, [.int 0, .int 0, .int 0, .int 0, .int 0]))]) hP hD [3, 2] [0, 1, 4] rfl rfl (by decide) (by decide) hk1 hFc hP1 hD1
  have hK := (hK.sub (tys' := [(y0, .int)]) [0] rfl).app hK1
  generalize H1 = H at hP hS ⊢
  have hP : va_P (dC, dI) vwCl [(h0, .inr (2, [.ref h1, .ref h2, .ref h3, .int 0, .int 0, .int 0, .int 0, .int 0])), (h1, .inl (y0, 16, .inl (fun _ => 0))), (h2, .inr (3, [.ref h8, .ref h9, .int 0])), (h3, .inr (1, [.ref h4, .ref h5, .ref h6, .ref h7])), (h5, .inr (7, [.int 0, .int 0, .int 0, .int 0, .int 0]))] H := hP
  have hD : va_D A [(h0, .inr (2, [.ref h1, .ref h2, .ref h3, .int 0, .int 0, .int 0, .int 0, .int 0])), (h1, .inl (y0, 16, .inl (fun _ => 0))), (h2, .inr (3, [.ref h8, .ref h9, .int 0])), (h3, .inr (1, [.ref h4, .ref h5, .ref h6, .ref h7])), (h5, .inr (7, [.int 0, .int 0, .int 0, .int 0, .int 0]))] := hD
  have hK : va_K (dC, dI) vwCl [(y0, .int)] s := hK
  subst er5
  refine lv_istore_n (lv' := [(3, .int 0), (1, .int 0), (0, .ref h0)]) hx hb dX2_step_92 rfl hl (by decide) rfl (fun ls hl => ?_)
  refine lv_iload_n hx hb dX2_step_93 rfl (lv_at hl 0 rfl) ?_
  have hPc := hP.sub (ws' := []) [] rfl
  have hDc := hD.sub (ws' := []) [] (by decide) rfl
  have hKc := hK.sub (tys' := []) [] rfl
  have hFc := va_free (wc := []) hD hS hA [] rfl
  refine va_calli (va_runS (As := [.int 0]) (rest := []) ⟨hx, hb, hml, hown, hG⟩ (cX2_isCode_1 l dC dI H.size) (va_cwS 1 hG (gS wd_1009 wd_1010 wd_6 wd_1011) rfl rfl rfl (by decide +kernel) ⟨Nat.le_of_ble_eq_true rfl, Nat.le_of_ble_eq_true rfl⟩) ⟨fun a U g mk q => by obtain ⟨q0, q1, qP, qK, qD⟩ := q; exact ⟨q0, q1, qP, va_K.moved (u := U) (U := U.calling g mk a) (Vm.Alike.refl U.vm) qK, qD⟩, fun U hU hW => ⟨rfl, by rw [hU], by rw [hU]; exact hPc, va_K.moved hW.alike hKc, hDc.weaken (fun _ _ _ _ => trivial)⟩⟩ rfl rfl hl.1 rfl (lv_room (Nat.le_of_ble_eq_true rfl)) dX2_step_94 ⟨by decide, by decide⟩) hS (fun q _ h => hFc q h) hFc (fun r7 u8 t H1 locs ht hvm hw hB hz1 hk1 hS => ?_)
  have hw : r7 = 0 ∧ True := hw
  obtain ⟨er7, -⟩ := hw
  obtain ⟨hP1, hK1, hD1⟩ := hB
  rw [ht] at hP1
  have hK1 := va_K.moved hvm.symm hK1
  obtain ⟨hP, hD⟩ := va_join (wr := [(h0, .inr (2, [.ref h1, .ref h2, .ref h3, .int 0, .int 0, .int 0, .int 0, .int 0])), (h1, .inl (y0, 16, .inl (fun _ => 0))), (h2, .inr (3, [.ref h8, .ref h9, .int 0])), (h3, .inr (1, [.ref h4, .ref h5, .ref h6, .ref h7])), (h5, .inr (7, [.int 0, .int 0, .int 0, .int 0, .int 0]))]) (w1 := []) hP hD [] [0, 1, 2, 3, 4] rfl rfl (by decide) (by decide) hk1 hFc hP1 hD1
  have hK := (hK.sub (tys' := [(y0, .int)]) [0] rfl).app hK1
  generalize H1 = H at hP hS ⊢
  have hP : va_P (dC, dI) vwCl [(h0, .inr (2, [.ref h1, .ref h2, .ref h3, .int 0, .int 0, .int 0, .int 0, .int 0])), (h1, .inl (y0, 16, .inl (fun _ => 0))), (h2, .inr (3, [.ref h8, .ref h9, .int 0])), (h3, .inr (1, [.ref h4, .ref h5, .ref h6, .ref h7])), (h5, .inr (7, [.int 0, .int 0, .int 0, .int 0, .int 0]))] H := hP
  have hD : va_D A [(h0, .inr (2, [.ref h1, .ref h2, .ref h3, .int 0, .int 0, .int 0, .int 0, .int 0])), (h1, .inl (y0, 16, .inl (fun _ => 0))), (h2, .inr (3, [.ref h8, .ref h9, .int 0])), (h3, .inr (1, [.ref h4, .ref h5, .ref h6, .ref h7])), (h5, .inr (7, [.int 0, .int 0, .int 0, .int 0, .int 0]))] := hD
  have hK : va_K (dC, dI) vwCl [(y0, .int)] s := hK
  subst er7
  refine lv_if_ne (tgt := 102) hx hb dX2_step_97 (by decide) (fun c => absurd (by decide) c) (fun _ => ?_)
  refine lv_iconst (v := 0) hx hb dX2_step_100 (by decide) ?_
  have hP9 := hP.sub (ws' := [(h0, .inr (2, [.ref h1, .ref h2, .ref h3, .int 0, .int 0, .int 0, .int 0, .int 0])), (h3, .inr (1, [.ref h4, .ref h5, .ref h6, .ref h7])), (h2, .inr (3, [.ref h8, .ref h9, .int 0])), (h1, .inl (y0, 16, .inl (fun _ => 0))), (h5, .inr (7, [.int 0, .int 0, .int 0, .int 0, .int 0]))]) [0, 3, 2, 1, 4] rfl
  have hD9 := hD.sub (ws' := [(h0, .inr (2, [.ref h1, .ref h2, .ref h3, .int 0, .int 0, .int 0, .int 0, .int 0])), (h3, .inr (1, [.ref h4, .ref h5, .ref h6, .ref h7])), (h2, .inr (3, [.ref h8, .ref h9, .int 0])), (h1, .inl (y0, 16, .inl (fun _ => 0))), (h5, .inr (7, [.int 0, .int 0, .int 0, .int 0, .int 0]))]) [0, 3, 2, 1, 4] (by decide) rfl
  have hK9 := hK.sub (tys' := [(y0, .int)]) [0] rfl
  exact W.zret (v := 0) hx hb hr rfl (fun t ht hW => ⟨⟨0, (), rfl, ⟨rfl, trivial⟩, by rw [ht]; exact hP9, va_K.moved hW.alike hK9, hD9⟩, hS.F ht⟩) hS.2.2 dX2_step_101
set_option maxHeartbeats 4000000 in
set_option maxRecDepth 100000 in
theorem cX11_run_3 (l : Launch) (dC : Nat → ClassId) (dI : Nat → Nat → Nat) (h0 h1 h2 h3 h4 h5 h6 h7 h8 h9 h10 h11 h12 h13 : Nat) (y0 : ClassId) (sz : Nat) (x0 x1 : Int32) (ix0 : iv x0 1 5000) : Met l yX11_run (Cond.code yX11_run cX11_run 4 (some .int) :: lw_G) ({ frames := 4, cells := 0, slots := 0, locals := 87 }) (va_Pc [.ref h0, .int x0, .int x1] (fun U => U.heap.size = sz ∧ va_P (dC, dI) vwCl [(h0, .inr (11, [.ref h1, .ref h2, .ref h3, .ref h4, .ref h5, .int 0, .int 0])), (h3, .inr (2, [.ref h6, .ref h7, .ref h2, .int 0, .int 0, .int 0, .int 0, .int 0])), (h2, .inr (1, [.ref h8, .ref h9, .ref h10, .ref h11])), (h7, .inr (3, [.ref h12, .ref h13, .int 0])), (h6, .inl (y0, 16, .inl (fun _ => 0))), (h9, .inr (7, [.int 0, .int 0, .int 0, .int 0, .int 0]))] U.heap ∧ va_K (dC, dI) vwCl [(y0, .int)] U ∧ va_D (fun _ => True) [(h0, .inr (11, [.ref h1, .ref h2, .ref h3, .ref h4, .ref h5, .int 0, .int 0])), (h3, .inr (2, [.ref h6, .ref h7, .ref h2, .int 0, .int 0, .int 0, .int 0, .int 0])), (h2, .inr (1, [.ref h8, .ref h9, .ref h10, .ref h11])), (h7, .inr (3, [.ref h12, .ref h13, .int 0])), (h6, .inl (y0, 16, .inl (fun _ => 0))), (h9, .inr (7, [.int 0, .int 0, .int 0, .int 0, .int 0]))])) (va_Qi (fun (r : Int32) (u : Unit) => r = 2 ∧ True) (fun (u : Unit) (t : State) => va_P (dC, dI) vwCl [(h0, .inr (11, [.ref h1, .ref h2, .ref h3, .ref h4, .ref h5, .int 0, .int 0])), (h3, .inr (2, [.ref h6, .ref h7, .ref h2, .int 0, .int 0, .int 0, .int 0, .int 0])), (h2, .inr (1, [.ref h8, .ref h9, .ref h10, .ref h11])), (h7, .inr (3, [.ref h12, .ref h13, .int 0])), (h6, .inl (y0, 16, .inl (fun _ => 0))), (h9, .inr (7, [.int 0, .int 0, .int 0, .int 0, .int 0]))] t.heap ∧ va_K (dC, dI) vwCl [(y0, .int)] t ∧ va_D (va_A [(h0, .inr (11, [.ref h1, .ref h2, .ref h3, .ref h4, .ref h5, .int 0, .int 0])), (h3, .inr (2, [.ref h6, .ref h7, .ref h2, .int 0, .int 0, .int 0, .int 0, .int 0])), (h2, .inr (1, [.ref h8, .ref h9, .ref h10, .ref h11])), (h7, .inr (3, [.ref h12, .ref h13, .int 0])), (h6, .inl (y0, 16, .inl (fun _ => 0))), (h9, .inr (7, [.int 0, .int 0, .int 0, .int 0, .int 0]))] sz) [(h0, .inr (11, [.ref h1, .ref h2, .ref h3, .ref h4, .ref h5, .int 0, .int 0])), (h3, .inr (2, [.ref h6, .ref h7, .ref h2, .int 0, .int 0, .int 0, .int 0, .int 0])), (h2, .inr (1, [.ref h8, .ref h9, .ref h10, .ref h11])), (h7, .inr (3, [.ref h12, .ref h13, .int 0])), (h6, .inl (y0, 16, .inl (fun _ => 0))), (h9, .inr (7, [.int 0, .int 0, .int 0, .int 0, .int 0]))]) (va_A [(h0, .inr (11, [.ref h1, .ref h2, .ref h3, .ref h4, .ref h5, .int 0, .int 0])), (h3, .inr (2, [.ref h6, .ref h7, .ref h2, .int 0, .int 0, .int 0, .int 0, .int 0])), (h2, .inr (1, [.ref h8, .ref h9, .ref h10, .ref h11])), (h7, .inr (3, [.ref h12, .ref h13, .int 0])), (h6, .inl (y0, 16, .inl (fun _ => 0))), (h9, .inr (7, [.int 0, .int 0, .int 0, .int 0, .int 0]))] sz)) 0 0 (va_A [(h0, .inr (11, [.ref h1, .ref h2, .ref h3, .ref h4, .ref h5, .int 0, .int 0])), (h3, .inr (2, [.ref h6, .ref h7, .ref h2, .int 0, .int 0, .int 0, .int 0, .int 0])), (h2, .inr (1, [.ref h8, .ref h9, .ref h10, .ref h11])), (h7, .inr (3, [.ref h12, .ref h13, .int 0])), (h6, .inl (y0, 16, .inl (fun _ => 0))), (h9, .inr (7, [.int 0, .int 0, .int 0, .int 0, .int 0]))] sz) := by
  refine Met.ofW (cc := cX11_run) (maxL := 4) (ret := (some .int)) (by decide) rfl ?_
  intro p e s m args below meth c s₁ B hml hv
  obtain ⟨rfl, hsz, hP, hK, hD0⟩ := hv
  have hx := B.exec
  have hb := B.bytes
  have hr := B.returns
  have hts0 := atoms_spec (ws := Cond.code yX11_run cX11_run 4 (some .int) :: lw_G) B.pre
  have hG : ∀ w ∈ lw_G, w.before _ s = true := fun w h => hts0 w (List.mem_cons_of_mem _ h)
  have hown : s.vm.findClass RX11 = some m.cls := findClass_of_methodNamed B.named
  have hlocks := B.notSynchronized
  subst hsz
  have hD := hD0.self (sz := s.heap.size)
  generalize hAe : va_A [(h0, .inr (11, [.ref h1, .ref h2, .ref h3, .ref h4, .ref h5, .int 0, .int 0])), (h3, .inr (2, [.ref h6, .ref h7, .ref h2, .int 0, .int 0, .int 0, .int 0, .int 0])), (h2, .inr (1, [.ref h8, .ref h9, .ref h10, .ref h11])), (h7, .inr (3, [.ref h12, .ref h13, .int 0])), (h6, .inl (y0, 16, .inl (fun _ => 0))), (h9, .inr (7, [.int 0, .int 0, .int 0, .int 0, .int 0]))] s.heap.size = A at hD ⊢
  have hA : ∀ q : Nat, s.heap.size ≤ q → A q := fun q h => by rw [← hAe]; exact Or.inr h
  have hS : va_S A s.heap s.heap [] := va_S.rf
  have hP : va_P (dC, dI) vwCl [(h0, .inr (11, [.ref h1, .ref h2, .ref h3, .ref h4, .ref h5, .int 0, .int 0])), (h3, .inr (2, [.ref h6, .ref h7, .ref h2, .int 0, .int 0, .int 0, .int 0, .int 0])), (h2, .inr (1, [.ref h8, .ref h9, .ref h10, .ref h11])), (h7, .inr (3, [.ref h12, .ref h13, .int 0])), (h6, .inl (y0, 16, .inl (fun _ => 0))), (h9, .inr (7, [.int 0, .int 0, .int 0, .int 0, .int 0]))] s.heap := hP
  have hl := lv_entry ([.ref h0, .int x0, .int x1]) (n := 4) (Nat.le_of_ble_eq_true rfl)
  rw [lg_entry_eq]
  generalize (lg_sl ([.ref h0, .int x0, .int x1]) ++ List.replicate (4 - (lg_sl ([.ref h0, .int x0, .int x1])).length) Slot.unset).toArray = ls at hl ⊢
  have hl : lv_has ls 4 [(0, .ref h0), (1, .int x0), (2, .int x1)] := hl
  refine lv_iload_n hx hb dX11_run_0 rfl (lv_at hl 1 rfl) ?_
  refine lv_if_lt (tgt := 11) hx hb dX11_run_1 (by decide) (fun c => absurd c (iv_nlt ix0 (by decide : iv 0 0 0) (by decide))) (fun _ => ?_)
  refine lv_iload_n hx hb dX11_run_4 rfl (lv_at hl 1 rfl) ?_
  refine lv_sipush (v := 5000) hx hb dX11_run_5 (by decide) ?_
  refine lv_icmp_le (tgt := 21) hx hb dX11_run_8 (by decide) (fun _ => ?_) (fun c => absurd (iv_le ix0 (by decide : iv 5000 5000 5000) (by decide)) c)
  refine lv_aload_n hx hb dX11_run_21 rfl (lv_at hl 0 rfl) ?_
  refine lv_iconst (v := 0) hx hb dX11_run_22 (by decide) ?_
  refine va_put (D := (dC, dI)) (ci := 11) (v := .int 0) (ty := .int) (C := RX11) (T := TX11) (N := 7) hx hb hG inGX11 tyX11 tyX11_ok nmX11 hown hK hP hD hS 0 rfl rfl 6 (by decide) (hG _ wd_401) (fun _ h9 => h9) rfl (by decide +kernel) rfl rfl (Nat.le_of_ble_eq_true rfl) dX11_run_23 (fun H locs hP hD hS => ?_)
  have hP : va_P (dC, dI) vwCl [(h0, .inr (11, [.ref h1, .ref h2, .ref h3, .ref h4, .ref h5, .int 0, .int 0])), (h3, .inr (2, [.ref h6, .ref h7, .ref h2, .int 0, .int 0, .int 0, .int 0, .int 0])), (h2, .inr (1, [.ref h8, .ref h9, .ref h10, .ref h11])), (h7, .inr (3, [.ref h12, .ref h13, .int 0])), (h6, .inl (y0, 16, .inl (fun _ => 0))), (h9, .inr (7, [.int 0, .int 0, .int 0, .int 0, .int 0]))] H := hP
  have hD : va_D A [(h0, .inr (11, [.ref h1, .ref h2, .ref h3, .ref h4, .ref h5, .int 0, .int 0])), (h3, .inr (2, [.ref h6, .ref h7, .ref h2, .int 0, .int 0, .int 0, .int 0, .int 0])), (h2, .inr (1, [.ref h8, .ref h9, .ref h10, .ref h11])), (h7, .inr (3, [.ref h12, .ref h13, .int 0])), (h6, .inl (y0, 16, .inl (fun _ => 0))), (h9, .inr (7, [.int 0, .int 0, .int 0, .int 0, .int 0]))] := hD
  refine lv_iconst (v := 1) hx hb dX11_run_26 (by decide) ?_
  refine lv_istore_n (lv' := [(3, .int 1), (0, .ref h0), (1, .int x0), (2, .int x1)]) hx hb dX11_run_27 rfl hl (by decide) rfl (fun ls hl => ?_)
  refine lv_iload_n hx hb dX11_run_28 rfl (lv_at hl 0 rfl) ?_
  refine lv_iload_n hx hb dX11_run_29 rfl (lv_at hl 2 rfl) ?_
  refine lv_icmp_gt (tgt := 70) hx hb dX11_run_30 (by decide) (fun c => absurd c (iv_nlt ix0 (by decide : iv 1 1 1) (by decide))) (fun _ => ?_)
  refine lv_aload_n hx hb dX11_run_33 rfl (lv_at hl 1 rfl) ?_
  refine va_get (D := (dC, dI)) (ci := 11) (v := .ref h3) (C := RX11) (T := TX11) (N := 7) hx hb hG inGX11 hown hK hP 0 rfl rfl 2 (by decide) (hG _ wd_397) (fun _ h9 => h9) rfl dX11_run_34 ?_
  have hPc := hP.sub (ws' := [(h3, .inr (2, [.ref h6, .ref h7, .ref h2, .int 0, .int 0, .int 0, .int 0, .int 0])), (h2, .inr (1, [.ref h8, .ref h9, .ref h10, .ref h11])), (h7, .inr (3, [.ref h12, .ref h13, .int 0])), (h6, .inl (y0, 16, .inl (fun _ => 0))), (h9, .inr (7, [.int 0, .int 0, .int 0, .int 0, .int 0]))]) [1, 2, 3, 4, 5] rfl
  have hDc := hD.sub (ws' := [(h3, .inr (2, [.ref h6, .ref h7, .ref h2, .int 0, .int 0, .int 0, .int 0, .int 0])), (h2, .inr (1, [.ref h8, .ref h9, .ref h10, .ref h11])), (h7, .inr (3, [.ref h12, .ref h13, .int 0])), (h6, .inl (y0, 16, .inl (fun _ => 0))), (h9, .inr (7, [.int 0, .int 0, .int 0, .int 0, .int 0]))]) [1, 2, 3, 4, 5] (by decide) rfl
  have hKc := hK.sub (tys' := [(y0, .int)]) [0] rfl
  have hFc := va_free (wc := [(h3, .inr (2, [.ref h6, .ref h7, .ref h2, .int 0, .int 0, .int 0, .int 0, .int 0])), (h2, .inr (1, [.ref h8, .ref h9, .ref h10, .ref h11])), (h7, .inr (3, [.ref h12, .ref h13, .int 0])), (h6, .inl (y0, 16, .inl (fun _ => 0))), (h9, .inr (7, [.int 0, .int 0, .int 0, .int 0, .int 0]))]) hD hS hA [1, 2, 3, 4, 5] rfl
  refine va_calli (va_runV (As := []) (rest := []) ⟨hx, hb, hml, hown, hG⟩ (cX2_step_1 l dC dI h3 h6 h7 h2 h8 h9 h10 h11 h12 h13 y0 H.size) (cwV 0 hG (gV wd_953 wd_954 wd_955 wd_6 wd_956) rfl rfl rfl (by decide +kernel) ⟨Nat.le_of_ble_eq_true rfl, Nat.le_of_ble_eq_true rfl⟩) ⟨fun a U g mk q => by obtain ⟨q0, q1, qP, qK, qD⟩ := q; exact ⟨q0, q1, qP, va_K.moved (u := U) (U := U.calling g mk a) (Vm.Alike.refl U.vm) qK, qD⟩, va_recv hKc hPc (ci := 2) (q0 := 0) rfl rfl, fun U hU hW => ⟨rfl, by rw [hU], by rw [hU]; exact hPc, va_K.moved hW.alike hKc, hDc.weaken (fun _ _ _ _ => trivial)⟩⟩ rfl rfl hl.1 rfl (lv_room (Nat.le_of_ble_eq_true rfl)) dX11_run_37 ⟨by decide, by decide⟩) hS (fun q _ h => hFc q h) hFc (fun r1 u2 t H1 locs ht hvm hw hB hz1 hk1 hS => ?_)
  have hw : r1 = 0 ∧ True := hw
  obtain ⟨er1, -⟩ := hw
  obtain ⟨hP1, hK1, hD1⟩ := hB
  rw [ht] at hP1
  have hK1 := va_K.moved hvm.symm hK1
  obtain ⟨hP, hD⟩ := va_join (wr := [(h0, .inr (11, [.ref h1, .ref h2, .ref h3, .ref h4, .ref h5, .int 0, .int 0]))]) (w1 := [(h3, .inr (2, [.ref h6, .ref h7, .ref h2, .int 0, .int 0, .int 0, .int 0, .int 0])), (h2, .inr (1, [.ref h8, .ref h9, .ref h10, .ref h11])), (h7, .inr (3, [.ref h12, .ref h13, .int 0])), (h6, .inl (y0, 16, .inl (fun _ => 0))), (h9, .inr (7, [.int 0, .int 0, .int 0, .int 0, .int 0]))]) hP hD [1, 2, 3, 4, 5] [0] rfl rfl (by decide) (by decide) hk1 hFc hP1 hD1
  have hK := (hK.sub (tys' := []) [] rfl).app hK1
  generalize H1 = H at hP hS ⊢
  have hP : va_P (dC, dI) vwCl [(h0, .inr (11, [.ref h1, .ref h2, .ref h3, .ref h4, .ref h5, .int 0, .int 0])), (h3, .inr (2, [.ref h6, .ref h7, .ref h2, .int 0, .int 0, .int 0, .int 0, .int 0])), (h2, .inr (1, [.ref h8, .ref h9, .ref h10, .ref h11])), (h7, .inr (3, [.ref h12, .ref h13, .int 0])), (h6, .inl (y0, 16, .inl (fun _ => 0))), (h9, .inr (7, [.int 0, .int 0, .int 0, .int 0, .int 0]))] H := hP
  have hD : va_D A [(h0, .inr (11, [.ref h1, .ref h2, .ref h3, .ref h4, .ref h5, .int 0, .int 0])), (h3, .inr (2, [.ref h6, .ref h7, .ref h2, .int 0, .int 0, .int 0, .int 0, .int 0])), (h2, .inr (1, [.ref h8, .ref h9, .ref h10, .ref h11])), (h7, .inr (3, [.ref h12, .ref h13, .int 0])), (h6, .inl (y0, 16, .inl (fun _ => 0))), (h9, .inr (7, [.int 0, .int 0, .int 0, .int 0, .int 0]))] := hD
  have hK : va_K (dC, dI) vwCl [(y0, .int)] s := hK
  subst er1
  refine lv_if_ne (tgt := 45) hx hb dX11_run_40 (by decide) (fun c => absurd (by decide) c) (fun _ => ?_)
  refine lv_iconst (v := 2) hx hb dX11_run_43 (by decide) ?_
  have hP9 := hP.sub (ws' := [(h0, .inr (11, [.ref h1, .ref h2, .ref h3, .ref h4, .ref h5, .int 0, .int 0])), (h3, .inr (2, [.ref h6, .ref h7, .ref h2, .int 0, .int 0, .int 0, .int 0, .int 0])), (h2, .inr (1, [.ref h8, .ref h9, .ref h10, .ref h11])), (h7, .inr (3, [.ref h12, .ref h13, .int 0])), (h6, .inl (y0, 16, .inl (fun _ => 0))), (h9, .inr (7, [.int 0, .int 0, .int 0, .int 0, .int 0]))]) [0, 1, 2, 3, 4, 5] rfl
  have hD9 := hD.sub (ws' := [(h0, .inr (11, [.ref h1, .ref h2, .ref h3, .ref h4, .ref h5, .int 0, .int 0])), (h3, .inr (2, [.ref h6, .ref h7, .ref h2, .int 0, .int 0, .int 0, .int 0, .int 0])), (h2, .inr (1, [.ref h8, .ref h9, .ref h10, .ref h11])), (h7, .inr (3, [.ref h12, .ref h13, .int 0])), (h6, .inl (y0, 16, .inl (fun _ => 0))), (h9, .inr (7, [.int 0, .int 0, .int 0, .int 0, .int 0]))]) [0, 1, 2, 3, 4, 5] (by decide) rfl
  have hK9 := hK.sub (tys' := [(y0, .int)]) [0] rfl
  exact W.iret (v := 2) hx hb hr (fun t ht hW => ⟨⟨2, (), rfl, ⟨rfl, trivial⟩, by rw [ht]; exact hP9, va_K.moved hW.alike hK9, hD9⟩, hS.F ht⟩) hS.2.2 dX11_run_44
set_option maxHeartbeats 4000000 in
set_option maxRecDepth 100000 in
theorem cL_run_3 (l : Launch) (dC : Nat → ClassId) (dI : Nat → Nat → Nat) (h0 h1 h2 h3 h4 h5 h6 h7 h8 h9 h10 h11 h12 h13 h14 : Nat) (y0 y1 : ClassId) (sz : Nat) (x0 x1 : Int32) (ix0 : iv x0 1 5000) : Met l yL_run (Cond.codeWith yL_run cL_run 5 (some .int) [(0, 10, 13, 13)] :: lw_G) ({ frames := 5, cells := 0, slots := 0, locals := 110 }) (va_Pc [.ref h0, .int x0, .int x1, .ref h1] (fun U => U.heap.size = sz ∧ va_P (dC, dI) vwCl [(h0, .inr (11, [.ref h2, .ref h3, .ref h4, .ref h5, .ref h6, .int 0, .int 0])), (h4, .inr (2, [.ref h7, .ref h8, .ref h3, .int 0, .int 0, .int 0, .int 0, .int 0])), (h3, .inr (1, [.ref h9, .ref h10, .ref h11, .ref h12])), (h8, .inr (3, [.ref h13, .ref h14, .int 0])), (h7, .inl (y0, 16, .inl (fun _ => 0))), (h10, .inr (7, [.int 0, .int 0, .int 0, .int 0, .int 0])), (h1, .inl (y1, 1, .inr (.inl (fun _ => 0))))] U.heap ∧ va_K (dC, dI) vwCl [(y0, .int), (y1, .long)] U ∧ va_D (fun _ => True) [(h0, .inr (11, [.ref h2, .ref h3, .ref h4, .ref h5, .ref h6, .int 0, .int 0])), (h4, .inr (2, [.ref h7, .ref h8, .ref h3, .int 0, .int 0, .int 0, .int 0, .int 0])), (h3, .inr (1, [.ref h9, .ref h10, .ref h11, .ref h12])), (h8, .inr (3, [.ref h13, .ref h14, .int 0])), (h7, .inl (y0, 16, .inl (fun _ => 0))), (h10, .inr (7, [.int 0, .int 0, .int 0, .int 0, .int 0])), (h1, .inl (y1, 1, .inr (.inl (fun _ => 0))))])) (va_Qi (fun (r : Int32) (u : (Nat → Int64)) => r = 0 ∧ u 0 = 2 ∧ True) (fun (u : (Nat → Int64)) (t : State) => va_P (dC, dI) vwCl [(h0, .inr (11, [.ref h2, .ref h3, .ref h4, .ref h5, .ref h6, .int 0, .int 0])), (h4, .inr (2, [.ref h7, .ref h8, .ref h3, .int 0, .int 0, .int 0, .int 0, .int 0])), (h3, .inr (1, [.ref h9, .ref h10, .ref h11, .ref h12])), (h8, .inr (3, [.ref h13, .ref h14, .int 0])), (h7, .inl (y0, 16, .inl (fun _ => 0))), (h10, .inr (7, [.int 0, .int 0, .int 0, .int 0, .int 0])), (h1, .inl (y1, 1, .inr (.inl u)))] t.heap ∧ va_K (dC, dI) vwCl [(y0, .int), (y1, .long)] t ∧ va_D (va_A [(h0, .inr (11, [.ref h2, .ref h3, .ref h4, .ref h5, .ref h6, .int 0, .int 0])), (h4, .inr (2, [.ref h7, .ref h8, .ref h3, .int 0, .int 0, .int 0, .int 0, .int 0])), (h3, .inr (1, [.ref h9, .ref h10, .ref h11, .ref h12])), (h8, .inr (3, [.ref h13, .ref h14, .int 0])), (h7, .inl (y0, 16, .inl (fun _ => 0))), (h10, .inr (7, [.int 0, .int 0, .int 0, .int 0, .int 0])), (h1, .inl (y1, 1, .inr (.inl (fun _ => 0))))] sz) [(h0, .inr (11, [.ref h2, .ref h3, .ref h4, .ref h5, .ref h6, .int 0, .int 0])), (h4, .inr (2, [.ref h7, .ref h8, .ref h3, .int 0, .int 0, .int 0, .int 0, .int 0])), (h3, .inr (1, [.ref h9, .ref h10, .ref h11, .ref h12])), (h8, .inr (3, [.ref h13, .ref h14, .int 0])), (h7, .inl (y0, 16, .inl (fun _ => 0))), (h10, .inr (7, [.int 0, .int 0, .int 0, .int 0, .int 0])), (h1, .inl (y1, 1, .inr (.inl u)))]) (va_A [(h0, .inr (11, [.ref h2, .ref h3, .ref h4, .ref h5, .ref h6, .int 0, .int 0])), (h4, .inr (2, [.ref h7, .ref h8, .ref h3, .int 0, .int 0, .int 0, .int 0, .int 0])), (h3, .inr (1, [.ref h9, .ref h10, .ref h11, .ref h12])), (h8, .inr (3, [.ref h13, .ref h14, .int 0])), (h7, .inl (y0, 16, .inl (fun _ => 0))), (h10, .inr (7, [.int 0, .int 0, .int 0, .int 0, .int 0])), (h1, .inl (y1, 1, .inr (.inl (fun _ => 0))))] sz)) 0 0 (va_A [(h0, .inr (11, [.ref h2, .ref h3, .ref h4, .ref h5, .ref h6, .int 0, .int 0])), (h4, .inr (2, [.ref h7, .ref h8, .ref h3, .int 0, .int 0, .int 0, .int 0, .int 0])), (h3, .inr (1, [.ref h9, .ref h10, .ref h11, .ref h12])), (h8, .inr (3, [.ref h13, .ref h14, .int 0])), (h7, .inl (y0, 16, .inl (fun _ => 0))), (h10, .inr (7, [.int 0, .int 0, .int 0, .int 0, .int 0])), (h1, .inl (y1, 1, .inr (.inl (fun _ => 0))))] sz) := by
  refine va_MetW (cc := cL_run) (maxL := 5) (ret := (some .int)) (by decide) rfl ?_
  intro p e s m args below meth c s₁ B hml hv
  obtain ⟨rfl, hsz, hP, hK, hD0⟩ := hv
  have hx := B.exec
  have hb := B.bytes
  have hr := B.returns
  have hts0 := atoms_spec (ws := Cond.codeWith yL_run cL_run 5 (some .int) [(0, 10, 13, 13)] :: lw_G) B.pre
  have htab := vx_table (x := x) B (hts0 _ List.mem_cons_self)
  have hG : ∀ w ∈ lw_G, w.before _ s = true := fun w h => hts0 w (List.mem_cons_of_mem _ h)
  have hown : s.vm.findClass RL = some m.cls := findClass_of_methodNamed B.named
  have hlocks := B.notSynchronized
  subst hsz
  have hD := hD0.self (sz := s.heap.size)
  generalize hAe : va_A [(h0, .inr (11, [.ref h2, .ref h3, .ref h4, .ref h5, .ref h6, .int 0, .int 0])), (h4, .inr (2, [.ref h7, .ref h8, .ref h3, .int 0, .int 0, .int 0, .int 0, .int 0])), (h3, .inr (1, [.ref h9, .ref h10, .ref h11, .ref h12])), (h8, .inr (3, [.ref h13, .ref h14, .int 0])), (h7, .inl (y0, 16, .inl (fun _ => 0))), (h10, .inr (7, [.int 0, .int 0, .int 0, .int 0, .int 0])), (h1, .inl (y1, 1, .inr (.inl (fun _ => 0))))] s.heap.size = A at hD ⊢
  have hA : ∀ q : Nat, s.heap.size ≤ q → A q := fun q h => by rw [← hAe]; exact Or.inr h
  have hS : va_S A s.heap s.heap [] := va_S.rf
  have hP : va_P (dC, dI) vwCl [(h0, .inr (11, [.ref h2, .ref h3, .ref h4, .ref h5, .ref h6, .int 0, .int 0])), (h4, .inr (2, [.ref h7, .ref h8, .ref h3, .int 0, .int 0, .int 0, .int 0, .int 0])), (h3, .inr (1, [.ref h9, .ref h10, .ref h11, .ref h12])), (h8, .inr (3, [.ref h13, .ref h14, .int 0])), (h7, .inl (y0, 16, .inl (fun _ => 0))), (h10, .inr (7, [.int 0, .int 0, .int 0, .int 0, .int 0])), (h1, .inl (y1, 1, .inr (.inl (fun _ => 0))))] s.heap := hP
  have hl := lv_entry ([.ref h0, .int x0, .int x1, .ref h1]) (n := 5) (Nat.le_of_ble_eq_true rfl)
  rw [lg_entry_eq]
  generalize (lg_sl ([.ref h0, .int x0, .int x1, .ref h1]) ++ List.replicate (5 - (lg_sl ([.ref h0, .int x0, .int x1, .ref h1])).length) Slot.unset).toArray = ls at hl ⊢
  have hl : lv_has ls 5 [(0, .ref h0), (1, .int x0), (2, .int x1), (3, .ref h1)] := hl
  refine lv_aload_n hx hb dL_run_0 rfl (lv_at hl 3 rfl) ?_
  refine lv_iconst (v := 0) hx hb dL_run_1 (by decide) ?_
  refine lv_aload_n hx hb dL_run_2 rfl (lv_at hl 0 rfl) ?_
  refine lv_iload_n hx hb dL_run_3 rfl (lv_at hl 1 rfl) ?_
  refine lv_iload_n hx hb dL_run_4 rfl (lv_at hl 2 rfl) ?_
  have hPc := hP.sub (ws' := [(h0, .inr (11, [.ref h2, .ref h3, .ref h4, .ref h5, .ref h6, .int 0, .int 0])), (h4, .inr (2, [.ref h7, .ref h8, .ref h3, .int 0, .int 0, .int 0, .int 0, .int 0])), (h3, .inr (1, [.ref h9, .ref h10, .ref h11, .ref h12])), (h8, .inr (3, [.ref h13, .ref h14, .int 0])), (h7, .inl (y0, 16, .inl (fun _ => 0))), (h10, .inr (7, [.int 0, .int 0, .int 0, .int 0, .int 0]))]) [0, 1, 2, 3, 4, 5] rfl
  have hDc := hD.sub (ws' := [(h0, .inr (11, [.ref h2, .ref h3, .ref h4, .ref h5, .ref h6, .int 0, .int 0])), (h4, .inr (2, [.ref h7, .ref h8, .ref h3, .int 0, .int 0, .int 0, .int 0, .int 0])), (h3, .inr (1, [.ref h9, .ref h10, .ref h11, .ref h12])), (h8, .inr (3, [.ref h13, .ref h14, .int 0])), (h7, .inl (y0, 16, .inl (fun _ => 0))), (h10, .inr (7, [.int 0, .int 0, .int 0, .int 0, .int 0]))]) [0, 1, 2, 3, 4, 5] (by decide) rfl
  have hKc := hK.sub (tys' := [(y0, .int)]) [0] rfl
  have hFc := va_free (wc := [(h0, .inr (11, [.ref h2, .ref h3, .ref h4, .ref h5, .ref h6, .int 0, .int 0])), (h4, .inr (2, [.ref h7, .ref h8, .ref h3, .int 0, .int 0, .int 0, .int 0, .int 0])), (h3, .inr (1, [.ref h9, .ref h10, .ref h11, .ref h12])), (h8, .inr (3, [.ref h13, .ref h14, .int 0])), (h7, .inl (y0, 16, .inl (fun _ => 0))), (h10, .inr (7, [.int 0, .int 0, .int 0, .int 0, .int 0]))]) hD hS hA [0, 1, 2, 3, 4, 5] rfl
  refine va_calli (va_runV (As := [.int x0, .int x1]) (rest := [.int 0, .ref h1]) ⟨hx, hb, hml, hown, hG⟩ (cX11_run_3 l dC dI h0 h2 h3 h4 h5 h6 h7 h8 h9 h10 h11 h12 h13 h14 y0 s.heap.size x0 x1 ix0) (cwV 2 hG (gV wd_882 wd_883 wd_884 wd_1 wd_885) rfl rfl rfl (by decide +kernel) ⟨Nat.le_of_ble_eq_true rfl, Nat.le_of_ble_eq_true rfl⟩) ⟨fun a U g mk q => by obtain ⟨q0, q1, qP, qK, qD⟩ := q; exact ⟨q0, q1, qP, va_K.moved (u := U) (U := U.calling g mk a) (Vm.Alike.refl U.vm) qK, qD⟩, va_recv hKc hPc (ci := 11) (q0 := 0) rfl rfl, fun U hU hW => ⟨rfl, by rw [hU], by rw [hU]; exact hPc, va_K.moved hW.alike hKc, hDc.weaken (fun _ _ _ _ => trivial)⟩⟩ rfl rfl hl.1 rfl (lv_room (Nat.le_of_ble_eq_true rfl)) dL_run_5 ⟨by decide, by decide⟩) hS (fun q _ h => hFc q h) hFc (fun r1 u2 t H1 locs ht hvm hw hB hz1 hk1 hS => ?_)
  have hw : r1 = 2 ∧ True := hw
  obtain ⟨er1, -⟩ := hw
  obtain ⟨hP1, hK1, hD1⟩ := hB
  rw [ht] at hP1
  have hK1 := va_K.moved hvm.symm hK1
  obtain ⟨hP, hD⟩ := va_join (wr := [(h1, .inl (y1, 1, .inr (.inl (fun _ => 0))))]) (w1 := [(h0, .inr (11, [.ref h2, .ref h3, .ref h4, .ref h5, .ref h6, .int 0, .int 0])), (h4, .inr (2, [.ref h7, .ref h8, .ref h3, .int 0, .int 0, .int 0, .int 0, .int 0])), (h3, .inr (1, [.ref h9, .ref h10, .ref h11, .ref h12])), (h8, .inr (3, [.ref h13, .ref h14, .int 0])), (h7, .inl (y0, 16, .inl (fun _ => 0))), (h10, .inr (7, [.int 0, .int 0, .int 0, .int 0, .int 0]))]) hP hD [0, 1, 2, 3, 4, 5] [6] rfl rfl (by decide) (by decide) hk1 hFc hP1 hD1
  have hK := (hK.sub (tys' := [(y1, .long)]) [1] rfl).app hK1
  generalize H1 = H at hP hS ⊢
  have hP : va_P (dC, dI) vwCl [(h1, .inl (y1, 1, .inr (.inl (fun _ => 0)))), (h0, .inr (11, [.ref h2, .ref h3, .ref h4, .ref h5, .ref h6, .int 0, .int 0])), (h4, .inr (2, [.ref h7, .ref h8, .ref h3, .int 0, .int 0, .int 0, .int 0, .int 0])), (h3, .inr (1, [.ref h9, .ref h10, .ref h11, .ref h12])), (h8, .inr (3, [.ref h13, .ref h14, .int 0])), (h7, .inl (y0, 16, .inl (fun _ => 0))), (h10, .inr (7, [.int 0, .int 0, .int 0, .int 0, .int 0]))] H := hP
  have hD : va_D A [(h1, .inl (y1, 1, .inr (.inl (fun _ => 0)))), (h0, .inr (11, [.ref h2, .ref h3, .ref h4, .ref h5, .ref h6, .int 0, .int 0])), (h4, .inr (2, [.ref h7, .ref h8, .ref h3, .int 0, .int 0, .int 0, .int 0, .int 0])), (h3, .inr (1, [.ref h9, .ref h10, .ref h11, .ref h12])), (h8, .inr (3, [.ref h13, .ref h14, .int 0])), (h7, .inl (y0, 16, .inl (fun _ => 0))), (h10, .inr (7, [.int 0, .int 0, .int 0, .int 0, .int 0]))] := hD
  have hK : va_K (dC, dI) vwCl [(y1, .long), (y0, .int)] s := hK
  subst er1
  refine lv_i2l (v := _) hx hb dL_run_8 rfl ?_
  refine lv_valL (y := 2) (by decide +kernel) ?_
  refine va_last hx hb hK hP hD hS 0 0 rfl rfl (iv_in (by decide : iv 0 0 0) (by decide) (by decide) : vp_in 0 1) dL_run_9 (fun H locs hP hD hS => ?_)
  have hP : va_P (dC, dI) vwCl [(h1, .inl (y1, 1, .inr (.inl (vp_updL (fun _ => 0) (0 : Int32).toNatClampNeg 2)))), (h0, .inr (11, [.ref h2, .ref h3, .ref h4, .ref h5, .ref h6, .int 0, .int 0])), (h4, .inr (2, [.ref h7, .ref h8, .ref h3, .int 0, .int 0, .int 0, .int 0, .int 0])), (h3, .inr (1, [.ref h9, .ref h10, .ref h11, .ref h12])), (h8, .inr (3, [.ref h13, .ref h14, .int 0])), (h7, .inl (y0, 16, .inl (fun _ => 0))), (h10, .inr (7, [.int 0, .int 0, .int 0, .int 0, .int 0]))] H := hP
  have hD : va_D A [(h1, .inl (y1, 1, .inr (.inl (vp_updL (fun _ => 0) (0 : Int32).toNatClampNeg 2)))), (h0, .inr (11, [.ref h2, .ref h3, .ref h4, .ref h5, .ref h6, .int 0, .int 0])), (h4, .inr (2, [.ref h7, .ref h8, .ref h3, .int 0, .int 0, .int 0, .int 0, .int 0])), (h3, .inr (1, [.ref h9, .ref h10, .ref h11, .ref h12])), (h8, .inr (3, [.ref h13, .ref h14, .int 0])), (h7, .inl (y0, 16, .inl (fun _ => 0))), (h10, .inr (7, [.int 0, .int 0, .int 0, .int 0, .int 0]))] := hD
  obtain ⟨f3, ef3⟩ : ∃ z, z = vp_updL (fun _ => 0) (0 : Int32).toNatClampNeg 2 := ⟨_, rfl⟩
  rw [← ef3] at hP hD
  refine lv_goto (tgt := 17) hx hb dL_run_10 (by decide) ?_
  refine lv_iconst (v := 0) hx hb dL_run_17 (by decide) ?_
  have hP9 := hP.sub (ws' := [(h0, .inr (11, [.ref h2, .ref h3, .ref h4, .ref h5, .ref h6, .int 0, .int 0])), (h4, .inr (2, [.ref h7, .ref h8, .ref h3, .int 0, .int 0, .int 0, .int 0, .int 0])), (h3, .inr (1, [.ref h9, .ref h10, .ref h11, .ref h12])), (h8, .inr (3, [.ref h13, .ref h14, .int 0])), (h7, .inl (y0, 16, .inl (fun _ => 0))), (h10, .inr (7, [.int 0, .int 0, .int 0, .int 0, .int 0])), (h1, .inl (y1, 1, .inr (.inl f3)))]) [1, 2, 3, 4, 5, 6, 0] rfl
  have hD9 := hD.sub (ws' := [(h0, .inr (11, [.ref h2, .ref h3, .ref h4, .ref h5, .ref h6, .int 0, .int 0])), (h4, .inr (2, [.ref h7, .ref h8, .ref h3, .int 0, .int 0, .int 0, .int 0, .int 0])), (h3, .inr (1, [.ref h9, .ref h10, .ref h11, .ref h12])), (h8, .inr (3, [.ref h13, .ref h14, .int 0])), (h7, .inl (y0, 16, .inl (fun _ => 0))), (h10, .inr (7, [.int 0, .int 0, .int 0, .int 0, .int 0])), (h1, .inl (y1, 1, .inr (.inl f3)))]) [1, 2, 3, 4, 5, 6, 0] (by decide) rfl
  have hK9 := hK.sub (tys' := [(y0, .int), (y1, .long)]) [1, 0] rfl
  exact W.iret (v := 0) hx hb hr (fun t ht hW => ⟨⟨0, f3, rfl, ⟨rfl, (kuL ef3 (by decide)), trivial⟩, by rw [ht]; exact hP9, va_K.moved hW.alike hK9, hD9⟩, hS.F ht⟩) hS.2.2 dL_run_18
set_option maxHeartbeats 4000000 in
set_option maxRecDepth 100000 in
theorem cX11_run_4 (l : Launch) (dC : Nat → ClassId) (dI : Nat → Nat → Nat) (h0 h1 h2 h3 h4 h5 : Nat) (sz : Nat) (x0 x1 : Int32) (ix0 : iv x0 0 0) : Met l yX11_run (Cond.code yX11_run cX11_run 4 (some .int) :: lw_G) ({ frames := 0, cells := 0, slots := 0, locals := 0 }) (va_Pc [.ref h0, .int x0, .int x1] (fun U => U.heap.size = sz ∧ va_P (dC, dI) vwCl [(h0, .inr (11, [.ref h1, .ref h2, .ref h3, .ref h4, .ref h5, .int 0, .int 0]))] U.heap ∧ va_K (dC, dI) vwCl [] U ∧ va_D (fun _ => True) [(h0, .inr (11, [.ref h1, .ref h2, .ref h3, .ref h4, .ref h5, .int 0, .int 0]))])) (va_Qi (fun (r : Int32) (u : Unit) => r = 0 ∧ True) (fun (u : Unit) (t : State) => va_P (dC, dI) vwCl [(h0, .inr (11, [.ref h1, .ref h2, .ref h3, .ref h4, .ref h5, .int 0, .int 0]))] t.heap ∧ va_K (dC, dI) vwCl [] t ∧ va_D (va_A [(h0, .inr (11, [.ref h1, .ref h2, .ref h3, .ref h4, .ref h5, .int 0, .int 0]))] sz) [(h0, .inr (11, [.ref h1, .ref h2, .ref h3, .ref h4, .ref h5, .int 0, .int 0]))]) (va_A [(h0, .inr (11, [.ref h1, .ref h2, .ref h3, .ref h4, .ref h5, .int 0, .int 0]))] sz)) 0 0 (va_A [(h0, .inr (11, [.ref h1, .ref h2, .ref h3, .ref h4, .ref h5, .int 0, .int 0]))] sz) := by
  refine Met.ofW (cc := cX11_run) (maxL := 4) (ret := (some .int)) (by decide) rfl ?_
  intro p e s m args below meth c s₁ B hml hv
  obtain ⟨rfl, hsz, hP, hK, hD0⟩ := hv
  have hx := B.exec
  have hb := B.bytes
  have hr := B.returns
  have hts0 := atoms_spec (ws := Cond.code yX11_run cX11_run 4 (some .int) :: lw_G) B.pre
  have hG : ∀ w ∈ lw_G, w.before _ s = true := fun w h => hts0 w (List.mem_cons_of_mem _ h)
  have hown : s.vm.findClass RX11 = some m.cls := findClass_of_methodNamed B.named
  have hlocks := B.notSynchronized
  subst hsz
  have hD := hD0.self (sz := s.heap.size)
  generalize hAe : va_A [(h0, .inr (11, [.ref h1, .ref h2, .ref h3, .ref h4, .ref h5, .int 0, .int 0]))] s.heap.size = A at hD ⊢
  have hA : ∀ q : Nat, s.heap.size ≤ q → A q := fun q h => by rw [← hAe]; exact Or.inr h
  have hS : va_S A s.heap s.heap [] := va_S.rf
  have hP : va_P (dC, dI) vwCl [(h0, .inr (11, [.ref h1, .ref h2, .ref h3, .ref h4, .ref h5, .int 0, .int 0]))] s.heap := hP
  have hl := lv_entry ([.ref h0, .int x0, .int x1]) (n := 4) (Nat.le_of_ble_eq_true rfl)
  rw [lg_entry_eq]
  generalize (lg_sl ([.ref h0, .int x0, .int x1]) ++ List.replicate (4 - (lg_sl ([.ref h0, .int x0, .int x1])).length) Slot.unset).toArray = ls at hl ⊢
  have hl : lv_has ls 4 [(0, .ref h0), (1, .int x0), (2, .int x1)] := hl
  refine lv_iload_n hx hb dX11_run_0 rfl (lv_at hl 1 rfl) ?_
  refine lv_if_lt (tgt := 11) hx hb dX11_run_1 (by decide) (fun c => absurd c (iv_nlt ix0 (by decide : iv 0 0 0) (by decide))) (fun _ => ?_)
  refine lv_iload_n hx hb dX11_run_4 rfl (lv_at hl 1 rfl) ?_
  refine lv_sipush (v := 5000) hx hb dX11_run_5 (by decide) ?_
  refine lv_icmp_le (tgt := 21) hx hb dX11_run_8 (by decide) (fun _ => ?_) (fun c => absurd (iv_le ix0 (by decide : iv 5000 5000 5000) (by decide)) c)
  refine lv_aload_n hx hb dX11_run_21 rfl (lv_at hl 0 rfl) ?_
  refine lv_iconst (v := 0) hx hb dX11_run_22 (by decide) ?_
  refine va_put (D := (dC, dI)) (ci := 11) (v := .int 0) (ty := .int) (C := RX11) (T := TX11) (N := 7) hx hb hG inGX11 tyX11 tyX11_ok nmX11 hown hK hP hD hS 0 rfl rfl 6 (by decide) (hG _ wd_401) (fun _ h9 => h9) rfl (by decide +kernel) rfl rfl (Nat.le_of_ble_eq_true rfl) dX11_run_23 (fun H locs hP hD hS => ?_)
  have hP : va_P (dC, dI) vwCl [(h0, .inr (11, [.ref h1, .ref h2, .ref h3, .ref h4, .ref h5, .int 0, .int 0]))] H := hP
  have hD : va_D A [(h0, .inr (11, [.ref h1, .ref h2, .ref h3, .ref h4, .ref h5, .int 0, .int 0]))] := hD
  refine lv_iconst (v := 1) hx hb dX11_run_26 (by decide) ?_
  refine lv_istore_n (lv' := [(3, .int 1), (0, .ref h0), (1, .int x0), (2, .int x1)]) hx hb dX11_run_27 rfl hl (by decide) rfl (fun ls hl => ?_)
  refine lv_iload_n hx hb dX11_run_28 rfl (lv_at hl 0 rfl) ?_
  refine lv_iload_n hx hb dX11_run_29 rfl (lv_at hl 2 rfl) ?_
  refine lv_icmp_gt (tgt := 70) hx hb dX11_run_30 (by decide) (fun _ => ?_) (fun c => absurd (iv_lt ix0 (by decide : iv 1 1 1) (by decide)) c)
  refine lv_iconst (v := 0) hx hb dX11_run_70 (by decide) ?_
  have hP9 := hP.sub (ws' := [(h0, .inr (11, [.ref h1, .ref h2, .ref h3, .ref h4, .ref h5, .int 0, .int 0]))]) [0] rfl
  have hD9 := hD.sub (ws' := [(h0, .inr (11, [.ref h1, .ref h2, .ref h3, .ref h4, .ref h5, .int 0, .int 0]))]) [0] (by decide) rfl
  have hK9 := hK.sub (tys' := []) [] rfl
  exact W.iret (v := 0) hx hb hr (fun t ht hW => ⟨⟨0, (), rfl, ⟨rfl, trivial⟩, by rw [ht]; exact hP9, va_K.moved hW.alike hK9, hD9⟩, hS.F ht⟩) hS.2.2 dX11_run_71
set_option maxHeartbeats 4000000 in
set_option maxRecDepth 100000 in
theorem cL_run_4 (l : Launch) (dC : Nat → ClassId) (dI : Nat → Nat → Nat) (h0 h1 h2 h3 h4 h5 h6 : Nat) (y0 : ClassId) (sz : Nat) (x0 x1 : Int32) (ix0 : iv x0 0 0) : Met l yL_run (Cond.codeWith yL_run cL_run 5 (some .int) [(0, 10, 13, 13)] :: lw_G) ({ frames := 1, cells := 0, slots := 0, locals := 23 }) (va_Pc [.ref h0, .int x0, .int x1, .ref h1] (fun U => U.heap.size = sz ∧ va_P (dC, dI) vwCl [(h0, .inr (11, [.ref h2, .ref h3, .ref h4, .ref h5, .ref h6, .int 0, .int 0])), (h1, .inl (y0, 1, .inr (.inl (fun _ => 0))))] U.heap ∧ va_K (dC, dI) vwCl [(y0, .long)] U ∧ va_D (fun _ => True) [(h0, .inr (11, [.ref h2, .ref h3, .ref h4, .ref h5, .ref h6, .int 0, .int 0])), (h1, .inl (y0, 1, .inr (.inl (fun _ => 0))))])) (va_Qi (fun (r : Int32) (u : (Nat → Int64)) => r = 0 ∧ u 0 = 0 ∧ True) (fun (u : (Nat → Int64)) (t : State) => va_P (dC, dI) vwCl [(h0, .inr (11, [.ref h2, .ref h3, .ref h4, .ref h5, .ref h6, .int 0, .int 0])), (h1, .inl (y0, 1, .inr (.inl u)))] t.heap ∧ va_K (dC, dI) vwCl [(y0, .long)] t ∧ va_D (va_A [(h0, .inr (11, [.ref h2, .ref h3, .ref h4, .ref h5, .ref h6, .int 0, .int 0])), (h1, .inl (y0, 1, .inr (.inl (fun _ => 0))))] sz) [(h0, .inr (11, [.ref h2, .ref h3, .ref h4, .ref h5, .ref h6, .int 0, .int 0])), (h1, .inl (y0, 1, .inr (.inl u)))]) (va_A [(h0, .inr (11, [.ref h2, .ref h3, .ref h4, .ref h5, .ref h6, .int 0, .int 0])), (h1, .inl (y0, 1, .inr (.inl (fun _ => 0))))] sz)) 0 0 (va_A [(h0, .inr (11, [.ref h2, .ref h3, .ref h4, .ref h5, .ref h6, .int 0, .int 0])), (h1, .inl (y0, 1, .inr (.inl (fun _ => 0))))] sz) := by
  refine va_MetW (cc := cL_run) (maxL := 5) (ret := (some .int)) (by decide) rfl ?_
  intro p e s m args below meth c s₁ B hml hv
  obtain ⟨rfl, hsz, hP, hK, hD0⟩ := hv
  have hx := B.exec
  have hb := B.bytes
  have hr := B.returns
  have hts0 := atoms_spec (ws := Cond.codeWith yL_run cL_run 5 (some .int) [(0, 10, 13, 13)] :: lw_G) B.pre
  have htab := vx_table (x := x) B (hts0 _ List.mem_cons_self)
  have hG : ∀ w ∈ lw_G, w.before _ s = true := fun w h => hts0 w (List.mem_cons_of_mem _ h)
  have hown : s.vm.findClass RL = some m.cls := findClass_of_methodNamed B.named
  have hlocks := B.notSynchronized
  subst hsz
  have hD := hD0.self (sz := s.heap.size)
  generalize hAe : va_A [(h0, .inr (11, [.ref h2, .ref h3, .ref h4, .ref h5, .ref h6, .int 0, .int 0])), (h1, .inl (y0, 1, .inr (.inl (fun _ => 0))))] s.heap.size = A at hD ⊢
  have hA : ∀ q : Nat, s.heap.size ≤ q → A q := fun q h => by rw [← hAe]; exact Or.inr h
  have hS : va_S A s.heap s.heap [] := va_S.rf
  have hP : va_P (dC, dI) vwCl [(h0, .inr (11, [.ref h2, .ref h3, .ref h4, .ref h5, .ref h6, .int 0, .int 0])), (h1, .inl (y0, 1, .inr (.inl (fun _ => 0))))] s.heap := hP
  have hl := lv_entry ([.ref h0, .int x0, .int x1, .ref h1]) (n := 5) (Nat.le_of_ble_eq_true rfl)
  rw [lg_entry_eq]
  generalize (lg_sl ([.ref h0, .int x0, .int x1, .ref h1]) ++ List.replicate (5 - (lg_sl ([.ref h0, .int x0, .int x1, .ref h1])).length) Slot.unset).toArray = ls at hl ⊢
  have hl : lv_has ls 5 [(0, .ref h0), (1, .int x0), (2, .int x1), (3, .ref h1)] := hl
  refine lv_aload_n hx hb dL_run_0 rfl (lv_at hl 3 rfl) ?_
  refine lv_iconst (v := 0) hx hb dL_run_1 (by decide) ?_
  refine lv_aload_n hx hb dL_run_2 rfl (lv_at hl 0 rfl) ?_
  refine lv_iload_n hx hb dL_run_3 rfl (lv_at hl 1 rfl) ?_
  refine lv_iload_n hx hb dL_run_4 rfl (lv_at hl 2 rfl) ?_
  have hPc := hP.sub (ws' := [(h0, .inr (11, [.ref h2, .ref h3, .ref h4, .ref h5, .ref h6, .int 0, .int 0]))]) [0] rfl
  have hDc := hD.sub (ws' := [(h0, .inr (11, [.ref h2, .ref h3, .ref h4, .ref h5, .ref h6, .int 0, .int 0]))]) [0] (by decide) rfl
  have hKc := hK.sub (tys' := []) [] rfl
  have hFc := va_free (wc := [(h0, .inr (11, [.ref h2, .ref h3, .ref h4, .ref h5, .ref h6, .int 0, .int 0]))]) hD hS hA [0] rfl
  refine va_calli (va_runV (As := [.int x0, .int x1]) (rest := [.int 0, .ref h1]) ⟨hx, hb, hml, hown, hG⟩ (cX11_run_4 l dC dI h0 h2 h3 h4 h5 h6 s.heap.size x0 x1 ix0) (cwV 2 hG (gV wd_882 wd_883 wd_884 wd_1 wd_885) rfl rfl rfl (by decide +kernel) ⟨Nat.le_of_ble_eq_true rfl, Nat.le_of_ble_eq_true rfl⟩) ⟨fun a U g mk q => by obtain ⟨q0, q1, qP, qK, qD⟩ := q; exact ⟨q0, q1, qP, va_K.moved (u := U) (U := U.calling g mk a) (Vm.Alike.refl U.vm) qK, qD⟩, va_recv hKc hPc (ci := 11) (q0 := 0) rfl rfl, fun U hU hW => ⟨rfl, by rw [hU], by rw [hU]; exact hPc, va_K.moved hW.alike hKc, hDc.weaken (fun _ _ _ _ => trivial)⟩⟩ rfl rfl hl.1 rfl (lv_room (Nat.le_of_ble_eq_true rfl)) dL_run_5 ⟨by decide, by decide⟩) hS (fun q _ h => hFc q h) hFc (fun r1 u2 t H1 locs ht hvm hw hB hz1 hk1 hS => ?_)
  have hw : r1 = 0 ∧ True := hw
  obtain ⟨er1, -⟩ := hw
  obtain ⟨hP1, hK1, hD1⟩ := hB
  rw [ht] at hP1
  have hK1 := va_K.moved hvm.symm hK1
  obtain ⟨hP, hD⟩ := va_join (wr := [(h1, .inl (y0, 1, .inr (.inl (fun _ => 0))))]) (w1 := [(h0, .inr (11, [.ref h2, .ref h3, .ref h4, .ref h5, .ref h6, .int 0, .int 0]))]) hP hD [0] [1] rfl rfl (by decide) (by decide) hk1 hFc hP1 hD1
  have hK := (hK.sub (tys' := [(y0, .long)]) [0] rfl).app hK1
  generalize H1 = H at hP hS ⊢
  have hP : va_P (dC, dI) vwCl [(h1, .inl (y0, 1, .inr (.inl (fun _ => 0)))), (h0, .inr (11, [.ref h2, .ref h3, .ref h4, .ref h5, .ref h6, .int 0, .int 0]))] H := hP
  have hD : va_D A [(h1, .inl (y0, 1, .inr (.inl (fun _ => 0)))), (h0, .inr (11, [.ref h2, .ref h3, .ref h4, .ref h5, .ref h6, .int 0, .int 0]))] := hD
  have hK : va_K (dC, dI) vwCl [(y0, .long)] s := hK
  subst er1
  refine lv_i2l (v := _) hx hb dL_run_8 rfl ?_
  refine lv_valL (y := 0) (by decide +kernel) ?_
  refine va_last hx hb hK hP hD hS 0 0 rfl rfl (iv_in (by decide : iv 0 0 0) (by decide) (by decide) : vp_in 0 1) dL_run_9 (fun H locs hP hD hS => ?_)
  have hP : va_P (dC, dI) vwCl [(h1, .inl (y0, 1, .inr (.inl (vp_updL (fun _ => 0) (0 : Int32).toNatClampNeg 0)))), (h0, .inr (11, [.ref h2, .ref h3, .ref h4, .ref h5, .ref h6, .int 0, .int 0]))] H := hP
  have hD : va_D A [(h1, .inl (y0, 1, .inr (.inl (vp_updL (fun _ => 0) (0 : Int32).toNatClampNeg 0)))), (h0, .inr (11, [.ref h2, .ref h3, .ref h4, .ref h5, .ref h6, .int 0, .int 0]))] := hD
  obtain ⟨f3, ef3⟩ : ∃ z, z = vp_updL (fun _ => 0) (0 : Int32).toNatClampNeg 0 := ⟨_, rfl⟩
  rw [← ef3] at hP hD
  refine lv_goto (tgt := 17) hx hb dL_run_10 (by decide) ?_
  refine lv_iconst (v := 0) hx hb dL_run_17 (by decide) ?_
  have hP9 := hP.sub (ws' := [(h0, .inr (11, [.ref h2, .ref h3, .ref h4, .ref h5, .ref h6, .int 0, .int 0])), (h1, .inl (y0, 1, .inr (.inl f3)))]) [1, 0] rfl
  have hD9 := hD.sub (ws' := [(h0, .inr (11, [.ref h2, .ref h3, .ref h4, .ref h5, .ref h6, .int 0, .int 0])), (h1, .inl (y0, 1, .inr (.inl f3)))]) [1, 0] (by decide) rfl
  have hK9 := hK.sub (tys' := [(y0, .long)]) [0] rfl
  exact W.iret (v := 0) hx hb hr (fun t ht hW => ⟨⟨0, f3, rfl, ⟨rfl, (kuL ef3 (by decide)), trivial⟩, by rw [ht]; exact hP9, va_K.moved hW.alike hK9, hD9⟩, hS.F ht⟩) hS.2.2 dL_run_18
set_option maxHeartbeats 4000000 in
set_option maxRecDepth 100000 in
theorem cX11_register_1 (l : Launch) (hst : l.stackTraces = false) (dC : Nat → ClassId) (dI : Nat → Nat → Nat) (adK adV : Nat → Nat) (h0 h1 h2 h3 h4 h5 : Nat) (sz : Nat) (x0 : Int32) (ix0 : iv x0 (-2147483648) (-1)) : vx_Met l yX11_register (Cond.code yX11_register cX11_register 2 (some .int) :: lw_G) ({ frames := 6, cells := 1, slots := 6, locals := 82 }) (va_Pc [.ref h0, .int x0] (fun U => U.heap.size = sz ∧ va_P (dC, dI) vwCl [(h0, .inr (11, [.ref h1, .ref h2, .ref h3, .ref h4, .ref h5, .int 0, .int 0]))] U.heap ∧ va_K (dC, dI) vwCl [] U ∧ va_D (fun _ => True) [(h0, .inr (11, [.ref h1, .ref h2, .ref h3, .ref h4, .ref h5, .int 0, .int 0]))] ∧ ev adK adV (va_A [(h0, .inr (11, [.ref h1, .ref h2, .ref h3, .ref h4, .ref h5, .int 0, .int 0]))] sz) U U.heap)) (va_Qi (fun (_ : Int32) (_ : Unit) => False) (fun _ _ => True) (va_A [(h0, .inr (11, [.ref h1, .ref h2, .ref h3, .ref h4, .ref h5, .int 0, .int 0]))] sz)) (vx_X (fun (_ : Unit) => True) (fun (E : String) (_ : Unit) (t : State) => E = "java/lang/IndexOutOfBoundsException" ∧ va_P (dC, dI) vwCl [(h0, .inr (11, [.ref h1, .ref h2, .ref h3, .ref h4, .ref h5, .int 0, .int 0]))] t.heap ∧ va_K (dC, dI) vwCl [] t ∧ va_D (va_A [(h0, .inr (11, [.ref h1, .ref h2, .ref h3, .ref h4, .ref h5, .int 0, .int 0]))] sz) [(h0, .inr (11, [.ref h1, .ref h2, .ref h3, .ref h4, .ref h5, .int 0, .int 0]))]) (va_A [(h0, .inr (11, [.ref h1, .ref h2, .ref h3, .ref h4, .ref h5, .int 0, .int 0]))] sz)) 1 6 (va_A [(h0, .inr (11, [.ref h1, .ref h2, .ref h3, .ref h4, .ref h5, .int 0, .int 0]))] sz) := by
  refine vx_ofW (cc := cX11_register) (maxL := 2) (ret := (some .int)) (by decide) rfl ?_
  intro p e s m args below meth c s₁ B hml htab hv
  obtain ⟨rfl, hsz, hP, hK, hD0, hE⟩ := hv
  have hx := B.exec
  have hb := B.bytes
  have hr := B.returns
  have hts0 := atoms_spec (ws := Cond.code yX11_register cX11_register 2 (some .int) :: lw_G) B.pre
  have hG : ∀ w ∈ lw_G, w.before _ s = true := fun w h => hts0 w (List.mem_cons_of_mem _ h)
  have hown : s.vm.findClass RX11 = some m.cls := findClass_of_methodNamed B.named
  have hlocks := B.notSynchronized
  subst hsz
  have hD := hD0.self (sz := s.heap.size)
  generalize hAe : va_A [(h0, .inr (11, [.ref h1, .ref h2, .ref h3, .ref h4, .ref h5, .int 0, .int 0]))] s.heap.size = A at hD hE ⊢
  have hA : ∀ q : Nat, s.heap.size ≤ q → A q := fun q h => by rw [← hAe]; exact Or.inr h
  have hS : va_S A s.heap s.heap [] := va_S.rf
  have hP : va_P (dC, dI) vwCl [(h0, .inr (11, [.ref h1, .ref h2, .ref h3, .ref h4, .ref h5, .int 0, .int 0]))] s.heap := hP
  have hl := lv_entry ([.ref h0, .int x0]) (n := 2) (Nat.le_of_ble_eq_true rfl)
  rw [lg_entry_eq]
  generalize (lg_sl ([.ref h0, .int x0]) ++ List.replicate (2 - (lg_sl ([.ref h0, .int x0])).length) Slot.unset).toArray = ls at hl ⊢
  have hl : lv_has ls 2 [(0, .ref h0), (1, .int x0)] := hl
  refine lv_iload_n hx hb dX11_register_0 rfl (lv_at hl 1 rfl) ?_
  refine lv_if_lt (tgt := 10) hx hb dX11_register_1 (by decide) (fun _ => ?_) (fun c => absurd (iv_lt ix0 (by decide : iv 0 0 0) (by decide)) c)
  have hP9 := hP.sub (ws' := [(h0, .inr (11, [.ref h1, .ref h2, .ref h3, .ref h4, .ref h5, .int 0, .int 0]))]) [0] rfl
  have hD9 := hD.sub (ws' := [(h0, .inr (11, [.ref h1, .ref h2, .ref h3, .ref h4, .ref h5, .int 0, .int 0]))]) [0] (by decide) rfl
  have hK9 := hK.sub (tys' := []) [] rfl
  refine vx_throwS (own := RX11) (cls := "java/lang/IndexOutOfBoundsException") (text := evT3) (names := ["java/lang/RuntimeException", "java/lang/Exception"]) hx hb hst hown (by decide) (by decide) (hG _ wd_1126) (hG _ wd_24) (evR3 hE) (evA1 hE hG) evG1_106 hE.2.2.2.1 hE.2.2.2.2.1 hS (by rw [hml]; exact hl.1) dX11_register_10 dX11_register_13 dX11_register_14 dX11_register_16 dX11_register_19 (fun x hx9 => (htab x hx9).elim) (by decide) (by decide) (by decide) (by decide) hlocks (fun t hvm9 hz9 hk9 => ⟨(), trivial, ⟨rfl, hP9.kept (fun k q hk => hk9 q.1 (vx_lt hP9 hk)), va_K.moved hvm9 hK9, hD9⟩, Nat.le_trans hS.1 hz9, fun q hq hA9 => (hk9 q (Nat.lt_of_lt_of_le hq hS.1)).trans (hS.2.1 q hq hA9)⟩) hS.2.2 (by decide) (by decide)
set_option maxHeartbeats 4000000 in
set_option maxRecDepth 100000 in
theorem cL_register_1 (l : Launch) (hst : l.stackTraces = false) (dC : Nat → ClassId) (dI : Nat → Nat → Nat) (adK adV : Nat → Nat) (h0 h1 h2 h3 h4 h5 h6 : Nat) (sz : Nat) (x0 : Int32) (ix0 : iv x0 (-2147483648) (-1)) : Met l yL_register (Cond.codeWith yL_register cL_register 4 (some .int) [(0, 9, 12, 19)] :: lw_G) ({ frames := 7, cells := 1, slots := 6, locals := 103 }) (va_Pc [.ref h0, .int x0, .ref h1] (fun U => U.heap.size = sz ∧ va_P (dC, dI) vwCl [(h0, .inr (11, [.ref h2, .ref h3, .ref h4, .ref h5, .ref h6, .int 0, .int 0]))] U.heap ∧ va_K (dC, dI) vwCl [] U ∧ va_D (fun _ => True) [(h0, .inr (11, [.ref h2, .ref h3, .ref h4, .ref h5, .ref h6, .int 0, .int 0]))] ∧ ev adK adV (va_A [(h0, .inr (11, [.ref h2, .ref h3, .ref h4, .ref h5, .ref h6, .int 0, .int 0]))] sz) U U.heap)) (va_Qi (fun (r : Int32) (u : Unit) => r = 1 ∧ True) (fun (u : Unit) (t : State) => va_P (dC, dI) vwCl [(h0, .inr (11, [.ref h2, .ref h3, .ref h4, .ref h5, .ref h6, .int 0, .int 0]))] t.heap ∧ va_K (dC, dI) vwCl [] t ∧ va_D (va_A [(h0, .inr (11, [.ref h2, .ref h3, .ref h4, .ref h5, .ref h6, .int 0, .int 0]))] sz) [(h0, .inr (11, [.ref h2, .ref h3, .ref h4, .ref h5, .ref h6, .int 0, .int 0]))]) (va_A [(h0, .inr (11, [.ref h2, .ref h3, .ref h4, .ref h5, .ref h6, .int 0, .int 0]))] sz)) 1 6 (va_A [(h0, .inr (11, [.ref h2, .ref h3, .ref h4, .ref h5, .ref h6, .int 0, .int 0]))] sz) := by
  refine va_MetW (cc := cL_register) (maxL := 4) (ret := (some .int)) (by decide) rfl ?_
  intro p e s m args below meth c s₁ B hml hv
  obtain ⟨rfl, hsz, hP, hK, hD0, hE⟩ := hv
  have hx := B.exec
  have hb := B.bytes
  have hr := B.returns
  have hts0 := atoms_spec (ws := Cond.codeWith yL_register cL_register 4 (some .int) [(0, 9, 12, 19)] :: lw_G) B.pre
  have htab := vx_table (x := x) B (hts0 _ List.mem_cons_self)
  have hG : ∀ w ∈ lw_G, w.before _ s = true := fun w h => hts0 w (List.mem_cons_of_mem _ h)
  have hown : s.vm.findClass RL = some m.cls := findClass_of_methodNamed B.named
  have hlocks := B.notSynchronized
  subst hsz
  have hD := hD0.self (sz := s.heap.size)
  generalize hAe : va_A [(h0, .inr (11, [.ref h2, .ref h3, .ref h4, .ref h5, .ref h6, .int 0, .int 0]))] s.heap.size = A at hD hE ⊢
  have hA : ∀ q : Nat, s.heap.size ≤ q → A q := fun q h => by rw [← hAe]; exact Or.inr h
  have hS : va_S A s.heap s.heap [] := va_S.rf
  have hP : va_P (dC, dI) vwCl [(h0, .inr (11, [.ref h2, .ref h3, .ref h4, .ref h5, .ref h6, .int 0, .int 0]))] s.heap := hP
  have hl := lv_entry ([.ref h0, .int x0, .ref h1]) (n := 4) (Nat.le_of_ble_eq_true rfl)
  rw [lg_entry_eq]
  generalize (lg_sl ([.ref h0, .int x0, .ref h1]) ++ List.replicate (4 - (lg_sl ([.ref h0, .int x0, .ref h1])).length) Slot.unset).toArray = ls at hl ⊢
  have hl : lv_has ls 4 [(0, .ref h0), (1, .int x0), (2, .ref h1)] := hl
  refine lv_aload_n hx hb dL_register_0 rfl (lv_at hl 2 rfl) ?_
  refine lv_iconst (v := 0) hx hb dL_register_1 (by decide) ?_
  refine lv_aload_n hx hb dL_register_2 rfl (lv_at hl 0 rfl) ?_
  refine lv_iload_n hx hb dL_register_3 rfl (lv_at hl 1 rfl) ?_
  have hPc := hP.sub (ws' := [(h0, .inr (11, [.ref h2, .ref h3, .ref h4, .ref h5, .ref h6, .int 0, .int 0]))]) [0] rfl
  have hDc := hD.sub (ws' := [(h0, .inr (11, [.ref h2, .ref h3, .ref h4, .ref h5, .ref h6, .int 0, .int 0]))]) [0] (by decide) rfl
  have hKc := hK.sub (tys' := []) [] rfl
  have hFc := va_free (wc := [(h0, .inr (11, [.ref h2, .ref h3, .ref h4, .ref h5, .ref h6, .int 0, .int 0]))]) hD hS hA [0] rfl
  refine vx_calli (vx_runV (As := [.int x0]) (rest := [.int 0, .ref h1]) ⟨hx, hb, hml, hown, hG⟩ (cX11_register_1 l hst dC dI adK adV h0 h2 h3 h4 h5 h6 s.heap.size x0 ix0) (cwV 1 hG (gV wd_1122 wd_1123 wd_1124 wd_1 wd_1125) rfl rfl rfl (by decide +kernel) ⟨Nat.le_of_ble_eq_true rfl, Nat.le_of_ble_eq_true rfl⟩) ⟨fun a U g mk q => by obtain ⟨q0, q1, qP, qK, qD, qE⟩ := q; exact ⟨q0, q1, qP, va_K.moved (u := U) (U := U.calling g mk a) (Vm.Alike.refl U.vm) qK, qD, qE.same rfl⟩, va_recv hKc hPc (ci := 11) (q0 := 0) rfl rfl, fun U hU hW => ⟨rfl, by rw [hU], by rw [hU]; exact hPc, va_K.moved hW.alike hKc, hDc.weaken (fun _ _ _ _ => trivial), by rw [hU]; exact ((hE.kept hS.2.1).narrow hFc).warm hW⟩⟩ rfl rfl hl.1 rfl (lv_room (Nat.le_of_ble_eq_true rfl)) dL_register_4 ⟨by decide, by decide⟩) hS (fun q _ h => hFc q h) hFc (fun q _ h => hFc q h) (fun E9 ce q1 u9 t H1 locs ht hvm hpx hB hz1 hk1 hS hce hcv hcl => ?_) (fun r u t H1 locs ht hvm hw hB hz1 hk1 hS => hw.elim)
  obtain ⟨rfl, hP1, hK1, hD1⟩ := hB
  rw [ht] at hP1
  have hK1 := va_K.moved hvm.symm hK1
  obtain ⟨hP, hD⟩ := va_join (wr := []) (w1 := [(h0, .inr (11, [.ref h2, .ref h3, .ref h4, .ref h5, .ref h6, .int 0, .int 0]))]) hP hD [0] [] rfl rfl (by decide) (by decide) hk1 hFc hP1 hD1
  have hK := (hK.sub (tys' := []) [] rfl).app hK1
  generalize H1 = H at hP hS hce ⊢
  have hP : va_P (dC, dI) vwCl [(h0, .inr (11, [.ref h2, .ref h3, .ref h4, .ref h5, .ref h6, .int 0, .int 0]))] H := hP
  have hD : va_D A [(h0, .inr (11, [.ref h2, .ref h3, .ref h4, .ref h5, .ref h6, .int 0, .int 0]))] := hD
  have hK : va_K (dC, dI) vwCl [] s := hK
  refine vx_widen (k := 1) (n := 6) (by decide) (by decide) ?_
  refine vx_catch (name := "java/lang/IndexOutOfBoundsException") hown [] { startPc := 0, endPc := 9, handlerPc := 12, catchType := 19 } [] (by rw [htab]; rfl) (fun z hz => nomatch hz) (by decide) (by decide) (hG _ wd_1121) (evC1 hE) hce hcv hcl ?_
  refine lv_astore_n (lv' := [(3, .ref q1), (0, .ref h0), (1, .int x0), (2, .ref h1)]) hx hb dL_register_12 rfl hl (by decide) rfl (fun ls hl => ?_)
  refine lv_iconst (v := 1) hx hb dL_register_13 (by decide) ?_
  have hP9 := hP.sub (ws' := [(h0, .inr (11, [.ref h2, .ref h3, .ref h4, .ref h5, .ref h6, .int 0, .int 0]))]) [0] rfl
  have hD9 := hD.sub (ws' := [(h0, .inr (11, [.ref h2, .ref h3, .ref h4, .ref h5, .ref h6, .int 0, .int 0]))]) [0] (by decide) rfl
  have hK9 := hK.sub (tys' := []) [] rfl
  refine W.widen (k := 1) (n := 6) (by decide) (by decide) ?_
  exact W.iret (v := 1) hx hb hr (fun t ht hW => ⟨⟨1, (), rfl, ⟨rfl, trivial⟩, by rw [ht]; exact hP9, va_K.moved hW.alike hK9, hD9⟩, hS.F ht⟩) hS.2.2 dL_register_14
set_option maxHeartbeats 4000000 in
set_option maxRecDepth 100000 in
theorem cX11_register_2 (l : Launch) (hst : l.stackTraces = false) (dC : Nat → ClassId) (dI : Nat → Nat → Nat) (adK adV : Nat → Nat) (h0 h1 h2 h3 h4 h5 : Nat) (sz : Nat) (x0 : Int32) (ix0 : iv x0 16 2147483647) : vx_Met l yX11_register (Cond.code yX11_register cX11_register 2 (some .int) :: lw_G) ({ frames := 6, cells := 1, slots := 6, locals := 82 }) (va_Pc [.ref h0, .int x0] (fun U => U.heap.size = sz ∧ va_P (dC, dI) vwCl [(h0, .inr (11, [.ref h1, .ref h2, .ref h3, .ref h4, .ref h5, .int 0, .int 0]))] U.heap ∧ va_K (dC, dI) vwCl [] U ∧ va_D (fun _ => True) [(h0, .inr (11, [.ref h1, .ref h2, .ref h3, .ref h4, .ref h5, .int 0, .int 0]))] ∧ ev adK adV (va_A [(h0, .inr (11, [.ref h1, .ref h2, .ref h3, .ref h4, .ref h5, .int 0, .int 0]))] sz) U U.heap)) (va_Qi (fun (_ : Int32) (_ : Unit) => False) (fun _ _ => True) (va_A [(h0, .inr (11, [.ref h1, .ref h2, .ref h3, .ref h4, .ref h5, .int 0, .int 0]))] sz)) (vx_X (fun (_ : Unit) => True) (fun (E : String) (_ : Unit) (t : State) => E = "java/lang/IndexOutOfBoundsException" ∧ va_P (dC, dI) vwCl [(h0, .inr (11, [.ref h1, .ref h2, .ref h3, .ref h4, .ref h5, .int 0, .int 0]))] t.heap ∧ va_K (dC, dI) vwCl [] t ∧ va_D (va_A [(h0, .inr (11, [.ref h1, .ref h2, .ref h3, .ref h4, .ref h5, .int 0, .int 0]))] sz) [(h0, .inr (11, [.ref h1, .ref h2, .ref h3, .ref h4, .ref h5, .int 0, .int 0]))]) (va_A [(h0, .inr (11, [.ref h1, .ref h2, .ref h3, .ref h4, .ref h5, .int 0, .int 0]))] sz)) 1 6 (va_A [(h0, .inr (11, [.ref h1, .ref h2, .ref h3, .ref h4, .ref h5, .int 0, .int 0]))] sz) := by
  refine vx_ofW (cc := cX11_register) (maxL := 2) (ret := (some .int)) (by decide) rfl ?_
  intro p e s m args below meth c s₁ B hml htab hv
  obtain ⟨rfl, hsz, hP, hK, hD0, hE⟩ := hv
  have hx := B.exec
  have hb := B.bytes
  have hr := B.returns
  have hts0 := atoms_spec (ws := Cond.code yX11_register cX11_register 2 (some .int) :: lw_G) B.pre
  have hG : ∀ w ∈ lw_G, w.before _ s = true := fun w h => hts0 w (List.mem_cons_of_mem _ h)
  have hown : s.vm.findClass RX11 = some m.cls := findClass_of_methodNamed B.named
  have hlocks := B.notSynchronized
  subst hsz
  have hD := hD0.self (sz := s.heap.size)
  generalize hAe : va_A [(h0, .inr (11, [.ref h1, .ref h2, .ref h3, .ref h4, .ref h5, .int 0, .int 0]))] s.heap.size = A at hD hE ⊢
  have hA : ∀ q : Nat, s.heap.size ≤ q → A q := fun q h => by rw [← hAe]; exact Or.inr h
  have hS : va_S A s.heap s.heap [] := va_S.rf
  have hP : va_P (dC, dI) vwCl [(h0, .inr (11, [.ref h1, .ref h2, .ref h3, .ref h4, .ref h5, .int 0, .int 0]))] s.heap := hP
  have hl := lv_entry ([.ref h0, .int x0]) (n := 2) (Nat.le_of_ble_eq_true rfl)
  rw [lg_entry_eq]
  generalize (lg_sl ([.ref h0, .int x0]) ++ List.replicate (2 - (lg_sl ([.ref h0, .int x0])).length) Slot.unset).toArray = ls at hl ⊢
  have hl : lv_has ls 2 [(0, .ref h0), (1, .int x0)] := hl
  refine lv_iload_n hx hb dX11_register_0 rfl (lv_at hl 1 rfl) ?_
  refine lv_if_lt (tgt := 10) hx hb dX11_register_1 (by decide) (fun c => absurd c (iv_nlt ix0 (by decide : iv 0 0 0) (by decide))) (fun _ => ?_)
  refine lv_iload_n hx hb dX11_register_4 rfl (lv_at hl 1 rfl) ?_
  refine lv_bipush (v := 16) hx hb dX11_register_5 (by decide) ?_
  refine lv_icmp_lt (tgt := 20) hx hb dX11_register_7 (by decide) (fun c => absurd c (iv_nlt ix0 (by decide : iv 16 16 16) (by decide))) (fun _ => ?_)
  have hP9 := hP.sub (ws' := [(h0, .inr (11, [.ref h1, .ref h2, .ref h3, .ref h4, .ref h5, .int 0, .int 0]))]) [0] rfl
  have hD9 := hD.sub (ws' := [(h0, .inr (11, [.ref h1, .ref h2, .ref h3, .ref h4, .ref h5, .int 0, .int 0]))]) [0] (by decide) rfl
  have hK9 := hK.sub (tys' := []) [] rfl
  refine vx_throwS (own := RX11) (cls := "java/lang/IndexOutOfBoundsException") (text := evT3) (names := ["java/lang/RuntimeException", "java/lang/Exception"]) hx hb hst hown (by decide) (by decide) (hG _ wd_1126) (hG _ wd_24) (evR3 hE) (evA1 hE hG) evG1_106 hE.2.2.2.1 hE.2.2.2.2.1 hS (by rw [hml]; exact hl.1) dX11_register_10 dX11_register_13 dX11_register_14 dX11_register_16 dX11_register_19 (fun x hx9 => (htab x hx9).elim) (by decide) (by decide) (by decide) (by decide) hlocks (fun t hvm9 hz9 hk9 => ⟨(), trivial, ⟨rfl, hP9.kept (fun k q hk => hk9 q.1 (vx_lt hP9 hk)), va_K.moved hvm9 hK9, hD9⟩, Nat.le_trans hS.1 hz9, fun q hq hA9 => (hk9 q (Nat.lt_of_lt_of_le hq hS.1)).trans (hS.2.1 q hq hA9)⟩) hS.2.2 (by decide) (by decide)
set_option maxHeartbeats 4000000 in
set_option maxRecDepth 100000 in
theorem cL_register_2 (l : Launch) (hst : l.stackTraces = false) (dC : Nat → ClassId) (dI : Nat → Nat → Nat) (adK adV : Nat → Nat) (h0 h1 h2 h3 h4 h5 h6 : Nat) (sz : Nat) (x0 : Int32) (ix0 : iv x0 16 2147483647) : Met l yL_register (Cond.codeWith yL_register cL_register 4 (some .int) [(0, 9, 12, 19)] :: lw_G) ({ frames := 7, cells := 1, slots := 6, locals := 103 }) (va_Pc [.ref h0, .int x0, .ref h1] (fun U => U.heap.size = sz ∧ va_P (dC, dI) vwCl [(h0, .inr (11, [.ref h2, .ref h3, .ref h4, .ref h5, .ref h6, .int 0, .int 0]))] U.heap ∧ va_K (dC, dI) vwCl [] U ∧ va_D (fun _ => True) [(h0, .inr (11, [.ref h2, .ref h3, .ref h4, .ref h5, .ref h6, .int 0, .int 0]))] ∧ ev adK adV (va_A [(h0, .inr (11, [.ref h2, .ref h3, .ref h4, .ref h5, .ref h6, .int 0, .int 0]))] sz) U U.heap)) (va_Qi (fun (r : Int32) (u : Unit) => r = 1 ∧ True) (fun (u : Unit) (t : State) => va_P (dC, dI) vwCl [(h0, .inr (11, [.ref h2, .ref h3, .ref h4, .ref h5, .ref h6, .int 0, .int 0]))] t.heap ∧ va_K (dC, dI) vwCl [] t ∧ va_D (va_A [(h0, .inr (11, [.ref h2, .ref h3, .ref h4, .ref h5, .ref h6, .int 0, .int 0]))] sz) [(h0, .inr (11, [.ref h2, .ref h3, .ref h4, .ref h5, .ref h6, .int 0, .int 0]))]) (va_A [(h0, .inr (11, [.ref h2, .ref h3, .ref h4, .ref h5, .ref h6, .int 0, .int 0]))] sz)) 1 6 (va_A [(h0, .inr (11, [.ref h2, .ref h3, .ref h4, .ref h5, .ref h6, .int 0, .int 0]))] sz) := by
  refine va_MetW (cc := cL_register) (maxL := 4) (ret := (some .int)) (by decide) rfl ?_
  intro p e s m args below meth c s₁ B hml hv
  obtain ⟨rfl, hsz, hP, hK, hD0, hE⟩ := hv
  have hx := B.exec
  have hb := B.bytes
  have hr := B.returns
  have hts0 := atoms_spec (ws := Cond.codeWith yL_register cL_register 4 (some .int) [(0, 9, 12, 19)] :: lw_G) B.pre
  have htab := vx_table (x := x) B (hts0 _ List.mem_cons_self)
  have hG : ∀ w ∈ lw_G, w.before _ s = true := fun w h => hts0 w (List.mem_cons_of_mem _ h)
  have hown : s.vm.findClass RL = some m.cls := findClass_of_methodNamed B.named
  have hlocks := B.notSynchronized
  subst hsz
  have hD := hD0.self (sz := s.heap.size)
  generalize hAe : va_A [(h0, .inr (11, [.ref h2, .ref h3, .ref h4, .ref h5, .ref h6, .int 0, .int 0]))] s.heap.size = A at hD hE ⊢
  have hA : ∀ q : Nat, s.heap.size ≤ q → A q := fun q h => by rw [← hAe]; exact Or.inr h
  have hS : va_S A s.heap s.heap [] := va_S.rf
  have hP : va_P (dC, dI) vwCl [(h0, .inr (11, [.ref h2, .ref h3, .ref h4, .ref h5, .ref h6, .int 0, .int 0]))] s.heap := hP
  have hl := lv_entry ([.ref h0, .int x0, .ref h1]) (n := 4) (Nat.le_of_ble_eq_true rfl)
  rw [lg_entry_eq]
  generalize (lg_sl ([.ref h0, .int x0, .ref h1]) ++ List.replicate (4 - (lg_sl ([.ref h0, .int x0, .ref h1])).length) Slot.unset).toArray = ls at hl ⊢
  have hl : lv_has ls 4 [(0, .ref h0), (1, .int x0), (2, .ref h1)] := hl
  refine lv_aload_n hx hb dL_register_0 rfl (lv_at hl 2 rfl) ?_
  refine lv_iconst (v := 0) hx hb dL_register_1 (by decide) ?_
  refine lv_aload_n hx hb dL_register_2 rfl (lv_at hl 0 rfl) ?_
  refine lv_iload_n hx hb dL_register_3 rfl (lv_at hl 1 rfl) ?_
  have hPc := hP.sub (ws' := [(h0, .inr (11, [.ref h2, .ref h3, .ref h4, .ref h5, .ref h6, .int 0, .int 0]))]) [0] rfl
  have hDc := hD.sub (ws' := [(h0, .inr (11, [.ref h2, .ref h3, .ref h4, .ref h5, .ref h6, .int 0, .int 0]))]) [0] (by decide) rfl
  have hKc := hK.sub (tys' := []) [] rfl
  have hFc := va_free (wc := [(h0, .inr (11, [.ref h2, .ref h3, .ref h4, .ref h5, .ref h6, .int 0, .int 0]))]) hD hS hA [0] rfl
  refine vx_calli (vx_runV (As := [.int x0]) (rest := [.int 0, .ref h1]) ⟨hx, hb, hml, hown, hG⟩ (cX11_register_2 l hst dC dI adK adV h0 h2 h3 h4 h5 h6 s.heap.size x0 ix0) (cwV 1 hG (gV wd_1122 wd_1123 wd_1124 wd_1 wd_1125) rfl rfl rfl (by decide +kernel) ⟨Nat.le_of_ble_eq_true rfl, Nat.le_of_ble_eq_true rfl⟩) ⟨fun a U g mk q => by obtain ⟨q0, q1, qP, qK, qD, qE⟩ := q; exact ⟨q0, q1, qP, va_K.moved (u := U) (U := U.calling g mk a) (Vm.Alike.refl U.vm) qK, qD, qE.same rfl⟩, va_recv hKc hPc (ci := 11) (q0 := 0) rfl rfl, fun U hU hW => ⟨rfl, by rw [hU], by rw [hU]; exact hPc, va_K.moved hW.alike hKc, hDc.weaken (fun _ _ _ _ => trivial), by rw [hU]; exact ((hE.kept hS.2.1).narrow hFc).warm hW⟩⟩ rfl rfl hl.1 rfl (lv_room (Nat.le_of_ble_eq_true rfl)) dL_register_4 ⟨by decide, by decide⟩) hS (fun q _ h => hFc q h) hFc (fun q _ h => hFc q h) (fun E9 ce q1 u9 t H1 locs ht hvm hpx hB hz1 hk1 hS hce hcv hcl => ?_) (fun r u t H1 locs ht hvm hw hB hz1 hk1 hS => hw.elim)
  obtain ⟨rfl, hP1, hK1, hD1⟩ := hB
  rw [ht] at hP1
  have hK1 := va_K.moved hvm.symm hK1
  obtain ⟨hP, hD⟩ := va_join (wr := []) (w1 := [(h0, .inr (11, [.ref h2, .ref h3, .ref h4, .ref h5, .ref h6, .int 0, .int 0]))]) hP hD [0] [] rfl rfl (by decide) (by decide) hk1 hFc hP1 hD1
  have hK := (hK.sub (tys' := []) [] rfl).app hK1
  generalize H1 = H at hP hS hce ⊢
  have hP : va_P (dC, dI) vwCl [(h0, .inr (11, [.ref h2, .ref h3, .ref h4, .ref h5, .ref h6, .int 0, .int 0]))] H := hP
  have hD : va_D A [(h0, .inr (11, [.ref h2, .ref h3, .ref h4, .ref h5, .ref h6, .int 0, .int 0]))] := hD
  have hK : va_K (dC, dI) vwCl [] s := hK
  refine vx_widen (k := 1) (n := 6) (by decide) (by decide) ?_
  refine vx_catch (name := "java/lang/IndexOutOfBoundsException") hown [] { startPc := 0, endPc := 9, handlerPc := 12, catchType := 19 } [] (by rw [htab]; rfl) (fun z hz => nomatch hz) (by decide) (by decide) (hG _ wd_1121) (evC1 hE) hce hcv hcl ?_
  refine lv_astore_n (lv' := [(3, .ref q1), (0, .ref h0), (1, .int x0), (2, .ref h1)]) hx hb dL_register_12 rfl hl (by decide) rfl (fun ls hl => ?_)
  refine lv_iconst (v := 1) hx hb dL_register_13 (by decide) ?_
  have hP9 := hP.sub (ws' := [(h0, .inr (11, [.ref h2, .ref h3, .ref h4, .ref h5, .ref h6, .int 0, .int 0]))]) [0] rfl
  have hD9 := hD.sub (ws' := [(h0, .inr (11, [.ref h2, .ref h3, .ref h4, .ref h5, .ref h6, .int 0, .int 0]))]) [0] (by decide) rfl
  have hK9 := hK.sub (tys' := []) [] rfl
  refine W.widen (k := 1) (n := 6) (by decide) (by decide) ?_
  exact W.iret (v := 1) hx hb hr (fun t ht hW => ⟨⟨1, (), rfl, ⟨rfl, trivial⟩, by rw [ht]; exact hP9, va_K.moved hW.alike hK9, hD9⟩, hS.F ht⟩) hS.2.2 dL_register_14
set_option maxHeartbeats 4000000 in
set_option maxRecDepth 100000 in
theorem cX2_registerValue_1 (l : Launch) (dC : Nat → ClassId) (dI : Nat → Nat → Nat) (h0 h1 h2 h3 : Nat) (y0 : ClassId) (sz : Nat) (x0 : Int32) (ix0 : iv x0 0 15) : Met l yX2_registerValue (Cond.code yX2_registerValue cX2_registerValue 2 (some .int) :: lw_G) ({ frames := 0, cells := 0, slots := 0, locals := 0 }) (va_Pc [.ref h0, .int x0] (fun U => U.heap.size = sz ∧ va_P (dC, dI) vwCl [(h0, .inr (2, [.ref h1, .ref h2, .ref h3, .int 0, .int 0, .int 0, .int 0, .int 0])), (h1, .inl (y0, 16, .inl (fun _ => 0)))] U.heap ∧ va_K (dC, dI) vwCl [(y0, .int)] U ∧ va_D (fun _ => True) [(h0, .inr (2, [.ref h1, .ref h2, .ref h3, .int 0, .int 0, .int 0, .int 0, .int 0])), (h1, .inl (y0, 16, .inl (fun _ => 0)))])) (va_Qi (fun (r : Int32) (u : Unit) => r = 0 ∧ True) (fun (u : Unit) (t : State) => va_P (dC, dI) vwCl [(h0, .inr (2, [.ref h1, .ref h2, .ref h3, .int 0, .int 0, .int 0, .int 0, .int 0])), (h1, .inl (y0, 16, .inl (fun _ => 0)))] t.heap ∧ va_K (dC, dI) vwCl [(y0, .int)] t ∧ va_D (va_A [(h0, .inr (2, [.ref h1, .ref h2, .ref h3, .int 0, .int 0, .int 0, .int 0, .int 0])), (h1, .inl (y0, 16, .inl (fun _ => 0)))] sz) [(h0, .inr (2, [.ref h1, .ref h2, .ref h3, .int 0, .int 0, .int 0, .int 0, .int 0])), (h1, .inl (y0, 16, .inl (fun _ => 0)))]) (va_A [(h0, .inr (2, [.ref h1, .ref h2, .ref h3, .int 0, .int 0, .int 0, .int 0, .int 0])), (h1, .inl (y0, 16, .inl (fun _ => 0)))] sz)) 0 0 (va_A [(h0, .inr (2, [.ref h1, .ref h2, .ref h3, .int 0, .int 0, .int 0, .int 0, .int 0])), (h1, .inl (y0, 16, .inl (fun _ => 0)))] sz) := by
  refine Met.ofW (cc := cX2_registerValue) (maxL := 2) (ret := (some .int)) (by decide) rfl ?_
  intro p e s m args below meth c s₁ B hml hv
  obtain ⟨rfl, hsz, hP, hK, hD0⟩ := hv
  have hx := B.exec
  have hb := B.bytes
  have hr := B.returns
  have hts0 := atoms_spec (ws := Cond.code yX2_registerValue cX2_registerValue 2 (some .int) :: lw_G) B.pre
  have hG : ∀ w ∈ lw_G, w.before _ s = true := fun w h => hts0 w (List.mem_cons_of_mem _ h)
  have hown : s.vm.findClass RX2 = some m.cls := findClass_of_methodNamed B.named
  have hlocks := B.notSynchronized
  subst hsz
  have hD := hD0.self (sz := s.heap.size)
  generalize hAe : va_A [(h0, .inr (2, [.ref h1, .ref h2, .ref h3, .int 0, .int 0, .int 0, .int 0, .int 0])), (h1, .inl (y0, 16, .inl (fun _ => 0)))] s.heap.size = A at hD ⊢
  have hA : ∀ q : Nat, s.heap.size ≤ q → A q := fun q h => by rw [← hAe]; exact Or.inr h
  have hS : va_S A s.heap s.heap [] := va_S.rf
  have hP : va_P (dC, dI) vwCl [(h0, .inr (2, [.ref h1, .ref h2, .ref h3, .int 0, .int 0, .int 0, .int 0, .int 0])), (h1, .inl (y0, 16, .inl (fun _ => 0)))] s.heap := hP
  have hl := lv_entry ([.ref h0, .int x0]) (n := 2) (Nat.le_of_ble_eq_true rfl)
  rw [lg_entry_eq]
  generalize (lg_sl ([.ref h0, .int x0]) ++ List.replicate (2 - (lg_sl ([.ref h0, .int x0])).length) Slot.unset).toArray = ls at hl ⊢
  have hl : lv_has ls 2 [(0, .ref h0), (1, .int x0)] := hl
  refine lv_aload_n hx hb dX2_registerValue_0 rfl (lv_at hl 0 rfl) ?_
  refine va_get (D := (dC, dI)) (ci := 2) (v := .ref h1) (C := RX2) (T := TX2) (N := 8) hx hb hG inGX2 hown hK hP 0 rfl rfl 0 (by decide) (hG _ wd_149) (fun _ h9 => h9) rfl dX2_registerValue_1 ?_
  refine lv_iload_n hx hb dX2_registerValue_4 rfl (lv_at hl 1 rfl) ?_
  refine lv_bipush (v := 15) hx hb dX2_registerValue_5 (by decide) ?_
  refine lv_iand hx hb dX2_registerValue_7 ?_
  refine lv_topi (fun v1 ev1 => ?_)
  have iv1 : iv v1 0 15 := iv_eq ev1 (iv_and (x := x0) (iv_w (by decide : iv 15 15 15) (by decide) (by decide) : iv 15 0 15))
  refine va_iald hx hb hK hP 1 0 rfl rfl (iv_in iv1 (by decide) (by decide) : vp_in v1 16) dX2_registerValue_8 ?_
  refine lv_val (y := 0) rfl ?_
  have hP9 := hP.sub (ws' := [(h0, .inr (2, [.ref h1, .ref h2, .ref h3, .int 0, .int 0, .int 0, .int 0, .int 0])), (h1, .inl (y0, 16, .inl (fun _ => 0)))]) [0, 1] rfl
  have hD9 := hD.sub (ws' := [(h0, .inr (2, [.ref h1, .ref h2, .ref h3, .int 0, .int 0, .int 0, .int 0, .int 0])), (h1, .inl (y0, 16, .inl (fun _ => 0)))]) [0, 1] (by decide) rfl
  have hK9 := hK.sub (tys' := [(y0, .int)]) [0] rfl
  exact W.iret (v := 0) hx hb hr (fun t ht hW => ⟨⟨0, (), rfl, ⟨rfl, trivial⟩, by rw [ht]; exact hP9, va_K.moved hW.alike hK9, hD9⟩, hS.F ht⟩) hS.2.2 dX2_registerValue_9
set_option maxHeartbeats 4000000 in
set_option maxRecDepth 100000 in
theorem cX11_register_3 (l : Launch) (dC : Nat → ClassId) (dI : Nat → Nat → Nat) (h0 h1 h2 h3 h4 h5 h6 h7 : Nat) (y0 : ClassId) (sz : Nat) (x0 : Int32) (ix0 : iv x0 0 15) : Met l yX11_register (Cond.code yX11_register cX11_register 2 (some .int) :: lw_G) ({ frames := 1, cells := 0, slots := 0, locals := 21 }) (va_Pc [.ref h0, .int x0] (fun U => U.heap.size = sz ∧ va_P (dC, dI) vwCl [(h0, .inr (11, [.ref h1, .ref h2, .ref h3, .ref h4, .ref h5, .int 0, .int 0])), (h3, .inr (2, [.ref h6, .ref h7, .ref h2, .int 0, .int 0, .int 0, .int 0, .int 0])), (h6, .inl (y0, 16, .inl (fun _ => 0)))] U.heap ∧ va_K (dC, dI) vwCl [(y0, .int)] U ∧ va_D (fun _ => True) [(h0, .inr (11, [.ref h1, .ref h2, .ref h3, .ref h4, .ref h5, .int 0, .int 0])), (h3, .inr (2, [.ref h6, .ref h7, .ref h2, .int 0, .int 0, .int 0, .int 0, .int 0])), (h6, .inl (y0, 16, .inl (fun _ => 0)))])) (va_Qi (fun (r : Int32) (u : Unit) => r = 0 ∧ True) (fun (u : Unit) (t : State) => va_P (dC, dI) vwCl [(h0, .inr (11, [.ref h1, .ref h2, .ref h3, .ref h4, .ref h5, .int 0, .int 0])), (h3, .inr (2, [.ref h6, .ref h7, .ref h2, .int 0, .int 0, .int 0, .int 0, .int 0])), (h6, .inl (y0, 16, .inl (fun _ => 0)))] t.heap ∧ va_K (dC, dI) vwCl [(y0, .int)] t ∧ va_D (va_A [(h0, .inr (11, [.ref h1, .ref h2, .ref h3, .ref h4, .ref h5, .int 0, .int 0])), (h3, .inr (2, [.ref h6, .ref h7, .ref h2, .int 0, .int 0, .int 0, .int 0, .int 0])), (h6, .inl (y0, 16, .inl (fun _ => 0)))] sz) [(h0, .inr (11, [.ref h1, .ref h2, .ref h3, .ref h4, .ref h5, .int 0, .int 0])), (h3, .inr (2, [.ref h6, .ref h7, .ref h2, .int 0, .int 0, .int 0, .int 0, .int 0])), (h6, .inl (y0, 16, .inl (fun _ => 0)))]) (va_A [(h0, .inr (11, [.ref h1, .ref h2, .ref h3, .ref h4, .ref h5, .int 0, .int 0])), (h3, .inr (2, [.ref h6, .ref h7, .ref h2, .int 0, .int 0, .int 0, .int 0, .int 0])), (h6, .inl (y0, 16, .inl (fun _ => 0)))] sz)) 0 0 (va_A [(h0, .inr (11, [.ref h1, .ref h2, .ref h3, .ref h4, .ref h5, .int 0, .int 0])), (h3, .inr (2, [.ref h6, .ref h7, .ref h2, .int 0, .int 0, .int 0, .int 0, .int 0])), (h6, .inl (y0, 16, .inl (fun _ => 0)))] sz) := by
  refine Met.ofW (cc := cX11_register) (maxL := 2) (ret := (some .int)) (by decide) rfl ?_
  intro p e s m args below meth c s₁ B hml hv
  obtain ⟨rfl, hsz, hP, hK, hD0⟩ := hv
  have hx := B.exec
  have hb := B.bytes
  have hr := B.returns
  have hts0 := atoms_spec (ws := Cond.code yX11_register cX11_register 2 (some .int) :: lw_G) B.pre
  have hG : ∀ w ∈ lw_G, w.before _ s = true := fun w h => hts0 w (List.mem_cons_of_mem _ h)
  have hown : s.vm.findClass RX11 = some m.cls := findClass_of_methodNamed B.named
  have hlocks := B.notSynchronized
  subst hsz
  have hD := hD0.self (sz := s.heap.size)
  generalize hAe : va_A [(h0, .inr (11, [.ref h1, .ref h2, .ref h3, .ref h4, .ref h5, .int 0, .int 0])), (h3, .inr (2, [.ref h6, .ref h7, .ref h2, .int 0, .int 0, .int 0, .int 0, .int 0])), (h6, .inl (y0, 16, .inl (fun _ => 0)))] s.heap.size = A at hD ⊢
  have hA : ∀ q : Nat, s.heap.size ≤ q → A q := fun q h => by rw [← hAe]; exact Or.inr h
  have hS : va_S A s.heap s.heap [] := va_S.rf
  have hP : va_P (dC, dI) vwCl [(h0, .inr (11, [.ref h1, .ref h2, .ref h3, .ref h4, .ref h5, .int 0, .int 0])), (h3, .inr (2, [.ref h6, .ref h7, .ref h2, .int 0, .int 0, .int 0, .int 0, .int 0])), (h6, .inl (y0, 16, .inl (fun _ => 0)))] s.heap := hP
  have hl := lv_entry ([.ref h0, .int x0]) (n := 2) (Nat.le_of_ble_eq_true rfl)
  rw [lg_entry_eq]
  generalize (lg_sl ([.ref h0, .int x0]) ++ List.replicate (2 - (lg_sl ([.ref h0, .int x0])).length) Slot.unset).toArray = ls at hl ⊢
  have hl : lv_has ls 2 [(0, .ref h0), (1, .int x0)] := hl
  refine lv_iload_n hx hb dX11_register_0 rfl (lv_at hl 1 rfl) ?_
  refine lv_if_lt (tgt := 10) hx hb dX11_register_1 (by decide) (fun c => absurd c (iv_nlt ix0 (by decide : iv 0 0 0) (by decide))) (fun _ => ?_)
  refine lv_iload_n hx hb dX11_register_4 rfl (lv_at hl 1 rfl) ?_
  refine lv_bipush (v := 16) hx hb dX11_register_5 (by decide) ?_
  refine lv_icmp_lt (tgt := 20) hx hb dX11_register_7 (by decide) (fun _ => ?_) (fun c => absurd (iv_lt ix0 (by decide : iv 16 16 16) (by decide)) c)
  refine lv_aload_n hx hb dX11_register_20 rfl (lv_at hl 0 rfl) ?_
  refine va_get (D := (dC, dI)) (ci := 11) (v := .ref h3) (C := RX11) (T := TX11) (N := 7) hx hb hG inGX11 hown hK hP 0 rfl rfl 2 (by decide) (hG _ wd_397) (fun _ h9 => h9) rfl dX11_register_21 ?_
  refine lv_iload_n hx hb dX11_register_24 rfl (lv_at hl 1 rfl) ?_
  have hPc := hP.sub (ws' := [(h3, .inr (2, [.ref h6, .ref h7, .ref h2, .int 0, .int 0, .int 0, .int 0, .int 0])), (h6, .inl (y0, 16, .inl (fun _ => 0)))]) [1, 2] rfl
  have hDc := hD.sub (ws' := [(h3, .inr (2, [.ref h6, .ref h7, .ref h2, .int 0, .int 0, .int 0, .int 0, .int 0])), (h6, .inl (y0, 16, .inl (fun _ => 0)))]) [1, 2] (by decide) rfl
  have hKc := hK.sub (tys' := [(y0, .int)]) [0] rfl
  have hFc := va_free (wc := [(h3, .inr (2, [.ref h6, .ref h7, .ref h2, .int 0, .int 0, .int 0, .int 0, .int 0])), (h6, .inl (y0, 16, .inl (fun _ => 0)))]) hD hS hA [1, 2] rfl
  refine va_calli (va_runV (As := [.int x0]) (rest := []) ⟨hx, hb, hml, hown, hG⟩ (cX2_registerValue_1 l dC dI h3 h6 h7 h2 y0 s.heap.size x0 ix0) (cwV 1 hG (gV wd_1114 wd_1115 wd_1116 wd_6 wd_1117) rfl rfl rfl (by decide +kernel) ⟨Nat.le_of_ble_eq_true rfl, Nat.le_of_ble_eq_true rfl⟩) ⟨fun a U g mk q => by obtain ⟨q0, q1, qP, qK, qD⟩ := q; exact ⟨q0, q1, qP, va_K.moved (u := U) (U := U.calling g mk a) (Vm.Alike.refl U.vm) qK, qD⟩, va_recv hKc hPc (ci := 2) (q0 := 0) rfl rfl, fun U hU hW => ⟨rfl, by rw [hU], by rw [hU]; exact hPc, va_K.moved hW.alike hKc, hDc.weaken (fun _ _ _ _ => trivial)⟩⟩ rfl rfl hl.1 rfl (lv_room (Nat.le_of_ble_eq_true rfl)) dX11_register_25 ⟨by decide, by decide⟩) hS (fun q _ h => hFc q h) hFc (fun r1 u2 t H1 locs ht hvm hw hB hz1 hk1 hS => ?_)
  have hw : r1 = 0 ∧ True := hw
  obtain ⟨er1, -⟩ := hw
  obtain ⟨hP1, hK1, hD1⟩ := hB
  rw [ht] at hP1
  have hK1 := va_K.moved hvm.symm hK1
  obtain ⟨hP, hD⟩ := va_join (wr := [(h0, .inr (11, [.ref h1, .ref h2, .ref h3, .ref h4, .ref h5, .int 0, .int 0]))]) (w1 := [(h3, .inr (2, [.ref h6, .ref h7, .ref h2, .int 0, .int 0, .int 0, .int 0, .int 0])), (h6, .inl (y0, 16, .inl (fun _ => 0)))]) hP hD [1, 2] [0] rfl rfl (by decide) (by decide) hk1 hFc hP1 hD1
  have hK := (hK.sub (tys' := []) [] rfl).app hK1
  generalize H1 = H at hP hS ⊢
  have hP : va_P (dC, dI) vwCl [(h0, .inr (11, [.ref h1, .ref h2, .ref h3, .ref h4, .ref h5, .int 0, .int 0])), (h3, .inr (2, [.ref h6, .ref h7, .ref h2, .int 0, .int 0, .int 0, .int 0, .int 0])), (h6, .inl (y0, 16, .inl (fun _ => 0)))] H := hP
  have hD : va_D A [(h0, .inr (11, [.ref h1, .ref h2, .ref h3, .ref h4, .ref h5, .int 0, .int 0])), (h3, .inr (2, [.ref h6, .ref h7, .ref h2, .int 0, .int 0, .int 0, .int 0, .int 0])), (h6, .inl (y0, 16, .inl (fun _ => 0)))] := hD
  have hK : va_K (dC, dI) vwCl [(y0, .int)] s := hK
  subst er1
  have hP9 := hP.sub (ws' := [(h0, .inr (11, [.ref h1, .ref h2, .ref h3, .ref h4, .ref h5, .int 0, .int 0])), (h3, .inr (2, [.ref h6, .ref h7, .ref h2, .int 0, .int 0, .int 0, .int 0, .int 0])), (h6, .inl (y0, 16, .inl (fun _ => 0)))]) [0, 1, 2] rfl
  have hD9 := hD.sub (ws' := [(h0, .inr (11, [.ref h1, .ref h2, .ref h3, .ref h4, .ref h5, .int 0, .int 0])), (h3, .inr (2, [.ref h6, .ref h7, .ref h2, .int 0, .int 0, .int 0, .int 0, .int 0])), (h6, .inl (y0, 16, .inl (fun _ => 0)))]) [0, 1, 2] (by decide) rfl
  have hK9 := hK.sub (tys' := [(y0, .int)]) [0] rfl
  exact W.iret (v := 0) hx hb hr (fun t ht hW => ⟨⟨0, (), rfl, ⟨rfl, trivial⟩, by rw [ht]; exact hP9, va_K.moved hW.alike hK9, hD9⟩, hS.F ht⟩) hS.2.2 dX11_register_28
set_option maxHeartbeats 4000000 in
set_option maxRecDepth 100000 in
theorem cL_register_3 (l : Launch) (dC : Nat → ClassId) (dI : Nat → Nat → Nat) (h0 h1 h2 h3 h4 h5 h6 h7 h8 : Nat) (y0 y1 : ClassId) (sz : Nat) (x0 : Int32) (ix0 : iv x0 0 15) : Met l yL_register (Cond.codeWith yL_register cL_register 4 (some .int) [(0, 9, 12, 19)] :: lw_G) ({ frames := 2, cells := 0, slots := 0, locals := 42 }) (va_Pc [.ref h0, .int x0, .ref h1] (fun U => U.heap.size = sz ∧ va_P (dC, dI) vwCl [(h0, .inr (11, [.ref h2, .ref h3, .ref h4, .ref h5, .ref h6, .int 0, .int 0])), (h4, .inr (2, [.ref h7, .ref h8, .ref h3, .int 0, .int 0, .int 0, .int 0, .int 0])), (h7, .inl (y0, 16, .inl (fun _ => 0))), (h1, .inl (y1, 1, .inr (.inl (fun _ => 0))))] U.heap ∧ va_K (dC, dI) vwCl [(y0, .int), (y1, .long)] U ∧ va_D (fun _ => True) [(h0, .inr (11, [.ref h2, .ref h3, .ref h4, .ref h5, .ref h6, .int 0, .int 0])), (h4, .inr (2, [.ref h7, .ref h8, .ref h3, .int 0, .int 0, .int 0, .int 0, .int 0])), (h7, .inl (y0, 16, .inl (fun _ => 0))), (h1, .inl (y1, 1, .inr (.inl (fun _ => 0))))])) (va_Qi (fun (r : Int32) (u : (Nat → Int64)) => r = 0 ∧ u 0 = 0 ∧ True) (fun (u : (Nat → Int64)) (t : State) => va_P (dC, dI) vwCl [(h0, .inr (11, [.ref h2, .ref h3, .ref h4, .ref h5, .ref h6, .int 0, .int 0])), (h4, .inr (2, [.ref h7, .ref h8, .ref h3, .int 0, .int 0, .int 0, .int 0, .int 0])), (h7, .inl (y0, 16, .inl (fun _ => 0))), (h1, .inl (y1, 1, .inr (.inl u)))] t.heap ∧ va_K (dC, dI) vwCl [(y0, .int), (y1, .long)] t ∧ va_D (va_A [(h0, .inr (11, [.ref h2, .ref h3, .ref h4, .ref h5, .ref h6, .int 0, .int 0])), (h4, .inr (2, [.ref h7, .ref h8, .ref h3, .int 0, .int 0, .int 0, .int 0, .int 0])), (h7, .inl (y0, 16, .inl (fun _ => 0))), (h1, .inl (y1, 1, .inr (.inl (fun _ => 0))))] sz) [(h0, .inr (11, [.ref h2, .ref h3, .ref h4, .ref h5, .ref h6, .int 0, .int 0])), (h4, .inr (2, [.ref h7, .ref h8, .ref h3, .int 0, .int 0, .int 0, .int 0, .int 0])), (h7, .inl (y0, 16, .inl (fun _ => 0))), (h1, .inl (y1, 1, .inr (.inl u)))]) (va_A [(h0, .inr (11, [.ref h2, .ref h3, .ref h4, .ref h5, .ref h6, .int 0, .int 0])), (h4, .inr (2, [.ref h7, .ref h8, .ref h3, .int 0, .int 0, .int 0, .int 0, .int 0])), (h7, .inl (y0, 16, .inl (fun _ => 0))), (h1, .inl (y1, 1, .inr (.inl (fun _ => 0))))] sz)) 0 0 (va_A [(h0, .inr (11, [.ref h2, .ref h3, .ref h4, .ref h5, .ref h6, .int 0, .int 0])), (h4, .inr (2, [.ref h7, .ref h8, .ref h3, .int 0, .int 0, .int 0, .int 0, .int 0])), (h7, .inl (y0, 16, .inl (fun _ => 0))), (h1, .inl (y1, 1, .inr (.inl (fun _ => 0))))] sz) := by
  refine va_MetW (cc := cL_register) (maxL := 4) (ret := (some .int)) (by decide) rfl ?_
  intro p e s m args below meth c s₁ B hml hv
  obtain ⟨rfl, hsz, hP, hK, hD0⟩ := hv
  have hx := B.exec
  have hb := B.bytes
  have hr := B.returns
  have hts0 := atoms_spec (ws := Cond.codeWith yL_register cL_register 4 (some .int) [(0, 9, 12, 19)] :: lw_G) B.pre
  have htab := vx_table (x := x) B (hts0 _ List.mem_cons_self)
  have hG : ∀ w ∈ lw_G, w.before _ s = true := fun w h => hts0 w (List.mem_cons_of_mem _ h)
  have hown : s.vm.findClass RL = some m.cls := findClass_of_methodNamed B.named
  have hlocks := B.notSynchronized
  subst hsz
  have hD := hD0.self (sz := s.heap.size)
  generalize hAe : va_A [(h0, .inr (11, [.ref h2, .ref h3, .ref h4, .ref h5, .ref h6, .int 0, .int 0])), (h4, .inr (2, [.ref h7, .ref h8, .ref h3, .int 0, .int 0, .int 0, .int 0, .int 0])), (h7, .inl (y0, 16, .inl (fun _ => 0))), (h1, .inl (y1, 1, .inr (.inl (fun _ => 0))))] s.heap.size = A at hD ⊢
  have hA : ∀ q : Nat, s.heap.size ≤ q → A q := fun q h => by rw [← hAe]; exact Or.inr h
  have hS : va_S A s.heap s.heap [] := va_S.rf
  have hP : va_P (dC, dI) vwCl [(h0, .inr (11, [.ref h2, .ref h3, .ref h4, .ref h5, .ref h6, .int 0, .int 0])), (h4, .inr (2, [.ref h7, .ref h8, .ref h3, .int 0, .int 0, .int 0, .int 0, .int 0])), (h7, .inl (y0, 16, .inl (fun _ => 0))), (h1, .inl (y1, 1, .inr (.inl (fun _ => 0))))] s.heap := hP
  have hl := lv_entry ([.ref h0, .int x0, .ref h1]) (n := 4) (Nat.le_of_ble_eq_true rfl)
  rw [lg_entry_eq]
  generalize (lg_sl ([.ref h0, .int x0, .ref h1]) ++ List.replicate (4 - (lg_sl ([.ref h0, .int x0, .ref h1])).length) Slot.unset).toArray = ls at hl ⊢
  have hl : lv_has ls 4 [(0, .ref h0), (1, .int x0), (2, .ref h1)] := hl
  refine lv_aload_n hx hb dL_register_0 rfl (lv_at hl 2 rfl) ?_
  refine lv_iconst (v := 0) hx hb dL_register_1 (by decide) ?_
  refine lv_aload_n hx hb dL_register_2 rfl (lv_at hl 0 rfl) ?_
  refine lv_iload_n hx hb dL_register_3 rfl (lv_at hl 1 rfl) ?_
  have hPc := hP.sub (ws' := [(h0, .inr (11, [.ref h2, .ref h3, .ref h4, .ref h5, .ref h6, .int 0, .int 0])), (h4, .inr (2, [.ref h7, .ref h8, .ref h3, .int 0, .int 0, .int 0, .int 0, .int 0])), (h7, .inl (y0, 16, .inl (fun _ => 0)))]) [0, 1, 2] rfl
  have hDc := hD.sub (ws' := [(h0, .inr (11, [.ref h2, .ref h3, .ref h4, .ref h5, .ref h6, .int 0, .int 0])), (h4, .inr (2, [.ref h7, .ref h8, .ref h3, .int 0, .int 0, .int 0, .int 0, .int 0])), (h7, .inl (y0, 16, .inl (fun _ => 0)))]) [0, 1, 2] (by decide) rfl
  have hKc := hK.sub (tys' := [(y0, .int)]) [0] rfl
  have hFc := va_free (wc := [(h0, .inr (11, [.ref h2, .ref h3, .ref h4, .ref h5, .ref h6, .int 0, .int 0])), (h4, .inr (2, [.ref h7, .ref h8, .ref h3, .int 0, .int 0, .int 0, .int 0, .int 0])), (h7, .inl (y0, 16, .inl (fun _ => 0)))]) hD hS hA [0, 1, 2] rfl
  refine va_calli (va_runV (As := [.int x0]) (rest := [.int 0, .ref h1]) ⟨hx, hb, hml, hown, hG⟩ (cX11_register_3 l dC dI h0 h2 h3 h4 h5 h6 h7 h8 y0 s.heap.size x0 ix0) (cwV 1 hG (gV wd_1122 wd_1123 wd_1124 wd_1 wd_1125) rfl rfl rfl (by decide +kernel) ⟨Nat.le_of_ble_eq_true rfl, Nat.le_of_ble_eq_true rfl⟩) ⟨fun a U g mk q => by obtain ⟨q0, q1, qP, qK, qD⟩ := q; exact ⟨q0, q1, qP, va_K.moved (u := U) (U := U.calling g mk a) (Vm.Alike.refl U.vm) qK, qD⟩, va_recv hKc hPc (ci := 11) (q0 := 0) rfl rfl, fun U hU hW => ⟨rfl, by rw [hU], by rw [hU]; exact hPc, va_K.moved hW.alike hKc, hDc.weaken (fun _ _ _ _ => trivial)⟩⟩ rfl rfl hl.1 rfl (lv_room (Nat.le_of_ble_eq_true rfl)) dL_register_4 ⟨by decide, by decide⟩) hS (fun q _ h => hFc q h) hFc (fun r1 u2 t H1 locs ht hvm hw hB hz1 hk1 hS => ?_)
  have hw : r1 = 0 ∧ True := hw
  obtain ⟨er1, -⟩ := hw
  obtain ⟨hP1, hK1, hD1⟩ := hB
  rw [ht] at hP1
  have hK1 := va_K.moved hvm.symm hK1
  obtain ⟨hP, hD⟩ := va_join (wr := [(h1, .inl (y1, 1, .inr (.inl (fun _ => 0))))]) (w1 := [(h0, .inr (11, [.ref h2, .ref h3, .ref h4, .ref h5, .ref h6, .int 0, .int 0])), (h4, .inr (2, [.ref h7, .ref h8, .ref h3, .int 0, .int 0, .int 0, .int 0, .int 0])), (h7, .inl (y0, 16, .inl (fun _ => 0)))]) hP hD [0, 1, 2] [3] rfl rfl (by decide) (by decide) hk1 hFc hP1 hD1
  have hK := (hK.sub (tys' := [(y1, .long)]) [1] rfl).app hK1
  generalize H1 = H at hP hS ⊢
  have hP : va_P (dC, dI) vwCl [(h1, .inl (y1, 1, .inr (.inl (fun _ => 0)))), (h0, .inr (11, [.ref h2, .ref h3, .ref h4, .ref h5, .ref h6, .int 0, .int 0])), (h4, .inr (2, [.ref h7, .ref h8, .ref h3, .int 0, .int 0, .int 0, .int 0, .int 0])), (h7, .inl (y0, 16, .inl (fun _ => 0)))] H := hP
  have hD : va_D A [(h1, .inl (y1, 1, .inr (.inl (fun _ => 0)))), (h0, .inr (11, [.ref h2, .ref h3, .ref h4, .ref h5, .ref h6, .int 0, .int 0])), (h4, .inr (2, [.ref h7, .ref h8, .ref h3, .int 0, .int 0, .int 0, .int 0, .int 0])), (h7, .inl (y0, 16, .inl (fun _ => 0)))] := hD
  have hK : va_K (dC, dI) vwCl [(y1, .long), (y0, .int)] s := hK
  subst er1
  refine lv_i2l (v := _) hx hb dL_register_7 rfl ?_
  refine lv_valL (y := 0) (by decide +kernel) ?_
  refine va_last hx hb hK hP hD hS 0 0 rfl rfl (iv_in (by decide : iv 0 0 0) (by decide) (by decide) : vp_in 0 1) dL_register_8 (fun H locs hP hD hS => ?_)
  have hP : va_P (dC, dI) vwCl [(h1, .inl (y1, 1, .inr (.inl (vp_updL (fun _ => 0) (0 : Int32).toNatClampNeg 0)))), (h0, .inr (11, [.ref h2, .ref h3, .ref h4, .ref h5, .ref h6, .int 0, .int 0])), (h4, .inr (2, [.ref h7, .ref h8, .ref h3, .int 0, .int 0, .int 0, .int 0, .int 0])), (h7, .inl (y0, 16, .inl (fun _ => 0)))] H := hP
  have hD : va_D A [(h1, .inl (y1, 1, .inr (.inl (vp_updL (fun _ => 0) (0 : Int32).toNatClampNeg 0)))), (h0, .inr (11, [.ref h2, .ref h3, .ref h4, .ref h5, .ref h6, .int 0, .int 0])), (h4, .inr (2, [.ref h7, .ref h8, .ref h3, .int 0, .int 0, .int 0, .int 0, .int 0])), (h7, .inl (y0, 16, .inl (fun _ => 0)))] := hD
  obtain ⟨f3, ef3⟩ : ∃ z, z = vp_updL (fun _ => 0) (0 : Int32).toNatClampNeg 0 := ⟨_, rfl⟩
  rw [← ef3] at hP hD
  refine lv_goto (tgt := 15) hx hb dL_register_9 (by decide) ?_
  refine lv_iconst (v := 0) hx hb dL_register_15 (by decide) ?_
  have hP9 := hP.sub (ws' := [(h0, .inr (11, [.ref h2, .ref h3, .ref h4, .ref h5, .ref h6, .int 0, .int 0])), (h4, .inr (2, [.ref h7, .ref h8, .ref h3, .int 0, .int 0, .int 0, .int 0, .int 0])), (h7, .inl (y0, 16, .inl (fun _ => 0))), (h1, .inl (y1, 1, .inr (.inl f3)))]) [1, 2, 3, 0] rfl
  have hD9 := hD.sub (ws' := [(h0, .inr (11, [.ref h2, .ref h3, .ref h4, .ref h5, .ref h6, .int 0, .int 0])), (h4, .inr (2, [.ref h7, .ref h8, .ref h3, .int 0, .int 0, .int 0, .int 0, .int 0])), (h7, .inl (y0, 16, .inl (fun _ => 0))), (h1, .inl (y1, 1, .inr (.inl f3)))]) [1, 2, 3, 0] (by decide) rfl
  have hK9 := hK.sub (tys' := [(y0, .int), (y1, .long)]) [1, 0] rfl
  exact W.iret (v := 0) hx hb hr (fun t ht hW => ⟨⟨0, f3, rfl, ⟨rfl, (kuL ef3 (by decide)), trivial⟩, by rw [ht]; exact hP9, va_K.moved hW.alike hK9, hD9⟩, hS.F ht⟩) hS.2.2 dL_register_16
set_option maxHeartbeats 4000000 in
set_option maxRecDepth 100000 in
theorem cX11_set_1 (l : Launch) (hst : l.stackTraces = false) (dC : Nat → ClassId) (dI : Nat → Nat → Nat) (adK adV : Nat → Nat) (h0 h1 h2 h3 h4 h5 : Nat) (sz : Nat) (x0 x1 : Int32) (ix0 : iv x0 (-2147483648) (-1)) : vx_Met l yX11_set (Cond.code yX11_set cX11_set 3 none :: lw_G) ({ frames := 6, cells := 1, slots := 6, locals := 82 }) (va_Pc [.ref h0, .int x0, .int x1] (fun U => U.heap.size = sz ∧ va_P (dC, dI) vwCl [(h0, .inr (11, [.ref h1, .ref h2, .ref h3, .ref h4, .ref h5, .int 0, .int 0]))] U.heap ∧ va_K (dC, dI) vwCl [] U ∧ va_D (fun _ => True) [(h0, .inr (11, [.ref h1, .ref h2, .ref h3, .ref h4, .ref h5, .int 0, .int 0]))] ∧ ev adK adV (va_A [(h0, .inr (11, [.ref h1, .ref h2, .ref h3, .ref h4, .ref h5, .int 0, .int 0]))] sz) U U.heap)) (va_Qv (fun (_ : Unit) => False) (fun _ _ => True) (va_A [(h0, .inr (11, [.ref h1, .ref h2, .ref h3, .ref h4, .ref h5, .int 0, .int 0]))] sz)) (vx_X (fun (_ : Unit) => True) (fun (E : String) (_ : Unit) (t : State) => E = "java/lang/IndexOutOfBoundsException" ∧ va_P (dC, dI) vwCl [(h0, .inr (11, [.ref h1, .ref h2, .ref h3, .ref h4, .ref h5, .int 0, .int 0]))] t.heap ∧ va_K (dC, dI) vwCl [] t ∧ va_D (va_A [(h0, .inr (11, [.ref h1, .ref h2, .ref h3, .ref h4, .ref h5, .int 0, .int 0]))] sz) [(h0, .inr (11, [.ref h1, .ref h2, .ref h3, .ref h4, .ref h5, .int 0, .int 0]))]) (va_A [(h0, .inr (11, [.ref h1, .ref h2, .ref h3, .ref h4, .ref h5, .int 0, .int 0]))] sz)) 1 6 (va_A [(h0, .inr (11, [.ref h1, .ref h2, .ref h3, .ref h4, .ref h5, .int 0, .int 0]))] sz) := by
  refine vx_ofW (cc := cX11_set) (maxL := 3) (ret := none) (by decide) rfl ?_
  intro p e s m args below meth c s₁ B hml htab hv
  obtain ⟨rfl, hsz, hP, hK, hD0, hE⟩ := hv
  have hx := B.exec
  have hb := B.bytes
  have hr := B.returns
  have hts0 := atoms_spec (ws := Cond.code yX11_set cX11_set 3 none :: lw_G) B.pre
  have hG : ∀ w ∈ lw_G, w.before _ s = true := fun w h => hts0 w (List.mem_cons_of_mem _ h)
  have hown : s.vm.findClass RX11 = some m.cls := findClass_of_methodNamed B.named
  have hlocks := B.notSynchronized
  subst hsz
  have hD := hD0.self (sz := s.heap.size)
  generalize hAe : va_A [(h0, .inr (11, [.ref h1, .ref h2, .ref h3, .ref h4, .ref h5, .int 0, .int 0]))] s.heap.size = A at hD hE ⊢
  have hA : ∀ q : Nat, s.heap.size ≤ q → A q := fun q h => by rw [← hAe]; exact Or.inr h
  have hS : va_S A s.heap s.heap [] := va_S.rf
  have hP : va_P (dC, dI) vwCl [(h0, .inr (11, [.ref h1, .ref h2, .ref h3, .ref h4, .ref h5, .int 0, .int 0]))] s.heap := hP
  have hl := lv_entry ([.ref h0, .int x0, .int x1]) (n := 3) (Nat.le_of_ble_eq_true rfl)
  rw [lg_entry_eq]
  generalize (lg_sl ([.ref h0, .int x0, .int x1]) ++ List.replicate (3 - (lg_sl ([.ref h0, .int x0, .int x1])).length) Slot.unset).toArray = ls at hl ⊢
  have hl : lv_has ls 3 [(0, .ref h0), (1, .int x0), (2, .int x1)] := hl
  refine lv_iload_n hx hb dX11_set_0 rfl (lv_at hl 1 rfl) ?_
  refine lv_if_lt (tgt := 10) hx hb dX11_set_1 (by decide) (fun _ => ?_) (fun c => absurd (iv_lt ix0 (by decide : iv 0 0 0) (by decide)) c)
  have hP9 := hP.sub (ws' := [(h0, .inr (11, [.ref h1, .ref h2, .ref h3, .ref h4, .ref h5, .int 0, .int 0]))]) [0] rfl
  have hD9 := hD.sub (ws' := [(h0, .inr (11, [.ref h1, .ref h2, .ref h3, .ref h4, .ref h5, .int 0, .int 0]))]) [0] (by decide) rfl
  have hK9 := hK.sub (tys' := []) [] rfl
  refine vx_throwS (own := RX11) (cls := "java/lang/IndexOutOfBoundsException") (text := evT3) (names := ["java/lang/RuntimeException", "java/lang/Exception"]) hx hb hst hown (by decide) (by decide) (hG _ wd_1126) (hG _ wd_24) (evR3 hE) (evA1 hE hG) evG1_106 hE.2.2.2.1 hE.2.2.2.2.1 hS (by rw [hml]; exact hl.1) dX11_set_10 dX11_set_13 dX11_set_14 dX11_set_16 dX11_set_19 (fun x hx9 => (htab x hx9).elim) (by decide) (by decide) (by decide) (by decide) hlocks (fun t hvm9 hz9 hk9 => ⟨(), trivial, ⟨rfl, hP9.kept (fun k q hk => hk9 q.1 (vx_lt hP9 hk)), va_K.moved hvm9 hK9, hD9⟩, Nat.le_trans hS.1 hz9, fun q hq hA9 => (hk9 q (Nat.lt_of_lt_of_le hq hS.1)).trans (hS.2.1 q hq hA9)⟩) hS.2.2 (by decide) (by decide)
set_option maxHeartbeats 4000000 in
set_option maxRecDepth 100000 in
theorem cL_set_1 (l : Launch) (hst : l.stackTraces = false) (dC : Nat → ClassId) (dI : Nat → Nat → Nat) (adK adV : Nat → Nat) (h0 h1 h2 h3 h4 h5 : Nat) (sz : Nat) (x0 x1 : Int32) (ix0 : iv x0 (-2147483648) (-1)) : Met l yL_set (Cond.codeWith yL_set cL_set 4 (some .int) [(0, 6, 9, 19)] :: lw_G) ({ frames := 7, cells := 1, slots := 6, locals := 104 }) (va_Pc [.ref h0, .int x0, .int x1] (fun U => U.heap.size = sz ∧ va_P (dC, dI) vwCl [(h0, .inr (11, [.ref h1, .ref h2, .ref h3, .ref h4, .ref h5, .int 0, .int 0]))] U.heap ∧ va_K (dC, dI) vwCl [] U ∧ va_D (fun _ => True) [(h0, .inr (11, [.ref h1, .ref h2, .ref h3, .ref h4, .ref h5, .int 0, .int 0]))] ∧ ev adK adV (va_A [(h0, .inr (11, [.ref h1, .ref h2, .ref h3, .ref h4, .ref h5, .int 0, .int 0]))] sz) U U.heap)) (va_Qi (fun (r : Int32) (u : Unit) => r = 1 ∧ True) (fun (u : Unit) (t : State) => va_P (dC, dI) vwCl [(h0, .inr (11, [.ref h1, .ref h2, .ref h3, .ref h4, .ref h5, .int 0, .int 0]))] t.heap ∧ va_K (dC, dI) vwCl [] t ∧ va_D (va_A [(h0, .inr (11, [.ref h1, .ref h2, .ref h3, .ref h4, .ref h5, .int 0, .int 0]))] sz) [(h0, .inr (11, [.ref h1, .ref h2, .ref h3, .ref h4, .ref h5, .int 0, .int 0]))]) (va_A [(h0, .inr (11, [.ref h1, .ref h2, .ref h3, .ref h4, .ref h5, .int 0, .int 0]))] sz)) 1 6 (va_A [(h0, .inr (11, [.ref h1, .ref h2, .ref h3, .ref h4, .ref h5, .int 0, .int 0]))] sz) := by
  refine va_MetW (cc := cL_set) (maxL := 4) (ret := (some .int)) (by decide) rfl ?_
  intro p e s m args below meth c s₁ B hml hv
  obtain ⟨rfl, hsz, hP, hK, hD0, hE⟩ := hv
  have hx := B.exec
  have hb := B.bytes
  have hr := B.returns
  have hts0 := atoms_spec (ws := Cond.codeWith yL_set cL_set 4 (some .int) [(0, 6, 9, 19)] :: lw_G) B.pre
  have htab := vx_table (x := x) B (hts0 _ List.mem_cons_self)
  have hG : ∀ w ∈ lw_G, w.before _ s = true := fun w h => hts0 w (List.mem_cons_of_mem _ h)
  have hown : s.vm.findClass RL = some m.cls := findClass_of_methodNamed B.named
  have hlocks := B.notSynchronized
  subst hsz
  have hD := hD0.self (sz := s.heap.size)
  generalize hAe : va_A [(h0, .inr (11, [.ref h1, .ref h2, .ref h3, .ref h4, .ref h5, .int 0, .int 0]))] s.heap.size = A at hD hE ⊢
  have hA : ∀ q : Nat, s.heap.size ≤ q → A q := fun q h => by rw [← hAe]; exact Or.inr h
  have hS : va_S A s.heap s.heap [] := va_S.rf
  have hP : va_P (dC, dI) vwCl [(h0, .inr (11, [.ref h1, .ref h2, .ref h3, .ref h4, .ref h5, .int 0, .int 0]))] s.heap := hP
  have hl := lv_entry ([.ref h0, .int x0, .int x1]) (n := 4) (Nat.le_of_ble_eq_true rfl)
  rw [lg_entry_eq]
  generalize (lg_sl ([.ref h0, .int x0, .int x1]) ++ List.replicate (4 - (lg_sl ([.ref h0, .int x0, .int x1])).length) Slot.unset).toArray = ls at hl ⊢
  have hl : lv_has ls 4 [(0, .ref h0), (1, .int x0), (2, .int x1)] := hl
  refine lv_aload_n hx hb dL_set_0 rfl (lv_at hl 0 rfl) ?_
  refine lv_iload_n hx hb dL_set_1 rfl (lv_at hl 1 rfl) ?_
  refine lv_iload_n hx hb dL_set_2 rfl (lv_at hl 2 rfl) ?_
  have hPc := hP.sub (ws' := [(h0, .inr (11, [.ref h1, .ref h2, .ref h3, .ref h4, .ref h5, .int 0, .int 0]))]) [0] rfl
  have hDc := hD.sub (ws' := [(h0, .inr (11, [.ref h1, .ref h2, .ref h3, .ref h4, .ref h5, .int 0, .int 0]))]) [0] (by decide) rfl
  have hKc := hK.sub (tys' := []) [] rfl
  have hFc := va_free (wc := [(h0, .inr (11, [.ref h1, .ref h2, .ref h3, .ref h4, .ref h5, .int 0, .int 0]))]) hD hS hA [0] rfl
  refine vx_callv (vx_runV (As := [.int x0, .int x1]) (rest := []) ⟨hx, hb, hml, hown, hG⟩ (cX11_set_1 l hst dC dI adK adV h0 h1 h2 h3 h4 h5 s.heap.size x0 x1 ix0) (cwV 2 hG (gV wd_1145 wd_1146 wd_1147 wd_1 wd_1148) rfl rfl rfl (by decide +kernel) ⟨Nat.le_of_ble_eq_true rfl, Nat.le_of_ble_eq_true rfl⟩) ⟨fun a U g mk q => by obtain ⟨q0, q1, qP, qK, qD, qE⟩ := q; exact ⟨q0, q1, qP, va_K.moved (u := U) (U := U.calling g mk a) (Vm.Alike.refl U.vm) qK, qD, qE.same rfl⟩, va_recv hKc hPc (ci := 11) (q0 := 0) rfl rfl, fun U hU hW => ⟨rfl, by rw [hU], by rw [hU]; exact hPc, va_K.moved hW.alike hKc, hDc.weaken (fun _ _ _ _ => trivial), by rw [hU]; exact ((hE.kept hS.2.1).narrow hFc).warm hW⟩⟩ rfl rfl hl.1 rfl (lv_room (Nat.le_of_ble_eq_true rfl)) dL_set_3 ⟨by decide, by decide⟩) hS (fun q _ h => hFc q h) hFc (fun q _ h => hFc q h) (fun E9 ce q1 u9 t H1 locs ht hvm hpx hB hz1 hk1 hS hce hcv hcl => ?_) (fun u t H1 locs ht hvm hw hB hz1 hk1 hS => hw.elim)
  obtain ⟨rfl, hP1, hK1, hD1⟩ := hB
  rw [ht] at hP1
  have hK1 := va_K.moved hvm.symm hK1
  obtain ⟨hP, hD⟩ := va_join (wr := []) (w1 := [(h0, .inr (11, [.ref h1, .ref h2, .ref h3, .ref h4, .ref h5, .int 0, .int 0]))]) hP hD [0] [] rfl rfl (by decide) (by decide) hk1 hFc hP1 hD1
  have hK := (hK.sub (tys' := []) [] rfl).app hK1
  generalize H1 = H at hP hS hce ⊢
  have hP : va_P (dC, dI) vwCl [(h0, .inr (11, [.ref h1, .ref h2, .ref h3, .ref h4, .ref h5, .int 0, .int 0]))] H := hP
  have hD : va_D A [(h0, .inr (11, [.ref h1, .ref h2, .ref h3, .ref h4, .ref h5, .int 0, .int 0]))] := hD
  have hK : va_K (dC, dI) vwCl [] s := hK
  refine vx_widen (k := 1) (n := 6) (by decide) (by decide) ?_
  refine vx_catch (name := "java/lang/IndexOutOfBoundsException") hown [] { startPc := 0, endPc := 6, handlerPc := 9, catchType := 19 } [] (by rw [htab]; rfl) (fun z hz => nomatch hz) (by decide) (by decide) (hG _ wd_1121) (evC1 hE) hce hcv hcl ?_
  refine lv_astore_n (lv' := [(3, .ref q1), (0, .ref h0), (1, .int x0), (2, .int x1)]) hx hb dL_set_9 rfl hl (by decide) rfl (fun ls hl => ?_)
  refine lv_iconst (v := 1) hx hb dL_set_10 (by decide) ?_
  have hP9 := hP.sub (ws' := [(h0, .inr (11, [.ref h1, .ref h2, .ref h3, .ref h4, .ref h5, .int 0, .int 0]))]) [0] rfl
  have hD9 := hD.sub (ws' := [(h0, .inr (11, [.ref h1, .ref h2, .ref h3, .ref h4, .ref h5, .int 0, .int 0]))]) [0] (by decide) rfl
  have hK9 := hK.sub (tys' := []) [] rfl
  refine W.widen (k := 1) (n := 6) (by decide) (by decide) ?_
  exact W.iret (v := 1) hx hb hr (fun t ht hW => ⟨⟨1, (), rfl, ⟨rfl, trivial⟩, by rw [ht]; exact hP9, va_K.moved hW.alike hK9, hD9⟩, hS.F ht⟩) hS.2.2 dL_set_11
set_option maxHeartbeats 4000000 in
set_option maxRecDepth 100000 in
theorem cX11_set_2 (l : Launch) (hst : l.stackTraces = false) (dC : Nat → ClassId) (dI : Nat → Nat → Nat) (adK adV : Nat → Nat) (h0 h1 h2 h3 h4 h5 : Nat) (sz : Nat) (x0 x1 : Int32) (ix0 : iv x0 16 2147483647) : vx_Met l yX11_set (Cond.code yX11_set cX11_set 3 none :: lw_G) ({ frames := 6, cells := 1, slots := 6, locals := 82 }) (va_Pc [.ref h0, .int x0, .int x1] (fun U => U.heap.size = sz ∧ va_P (dC, dI) vwCl [(h0, .inr (11, [.ref h1, .ref h2, .ref h3, .ref h4, .ref h5, .int 0, .int 0]))] U.heap ∧ va_K (dC, dI) vwCl [] U ∧ va_D (fun _ => True) [(h0, .inr (11, [.ref h1, .ref h2, .ref h3, .ref h4, .ref h5, .int 0, .int 0]))] ∧ ev adK adV (va_A [(h0, .inr (11, [.ref h1, .ref h2, .ref h3, .ref h4, .ref h5, .int 0, .int 0]))] sz) U U.heap)) (va_Qv (fun (_ : Unit) => False) (fun _ _ => True) (va_A [(h0, .inr (11, [.ref h1, .ref h2, .ref h3, .ref h4, .ref h5, .int 0, .int 0]))] sz)) (vx_X (fun (_ : Unit) => True) (fun (E : String) (_ : Unit) (t : State) => E = "java/lang/IndexOutOfBoundsException" ∧ va_P (dC, dI) vwCl [(h0, .inr (11, [.ref h1, .ref h2, .ref h3, .ref h4, .ref h5, .int 0, .int 0]))] t.heap ∧ va_K (dC, dI) vwCl [] t ∧ va_D (va_A [(h0, .inr (11, [.ref h1, .ref h2, .ref h3, .ref h4, .ref h5, .int 0, .int 0]))] sz) [(h0, .inr (11, [.ref h1, .ref h2, .ref h3, .ref h4, .ref h5, .int 0, .int 0]))]) (va_A [(h0, .inr (11, [.ref h1, .ref h2, .ref h3, .ref h4, .ref h5, .int 0, .int 0]))] sz)) 1 6 (va_A [(h0, .inr (11, [.ref h1, .ref h2, .ref h3, .ref h4, .ref h5, .int 0, .int 0]))] sz) := by
  refine vx_ofW (cc := cX11_set) (maxL := 3) (ret := none) (by decide) rfl ?_
  intro p e s m args below meth c s₁ B hml htab hv
  obtain ⟨rfl, hsz, hP, hK, hD0, hE⟩ := hv
  have hx := B.exec
  have hb := B.bytes
  have hr := B.returns
  have hts0 := atoms_spec (ws := Cond.code yX11_set cX11_set 3 none :: lw_G) B.pre
  have hG : ∀ w ∈ lw_G, w.before _ s = true := fun w h => hts0 w (List.mem_cons_of_mem _ h)
  have hown : s.vm.findClass RX11 = some m.cls := findClass_of_methodNamed B.named
  have hlocks := B.notSynchronized
  subst hsz
  have hD := hD0.self (sz := s.heap.size)
  generalize hAe : va_A [(h0, .inr (11, [.ref h1, .ref h2, .ref h3, .ref h4, .ref h5, .int 0, .int 0]))] s.heap.size = A at hD hE ⊢
  have hA : ∀ q : Nat, s.heap.size ≤ q → A q := fun q h => by rw [← hAe]; exact Or.inr h
  have hS : va_S A s.heap s.heap [] := va_S.rf
  have hP : va_P (dC, dI) vwCl [(h0, .inr (11, [.ref h1, .ref h2, .ref h3, .ref h4, .ref h5, .int 0, .int 0]))] s.heap := hP
  have hl := lv_entry ([.ref h0, .int x0, .int x1]) (n := 3) (Nat.le_of_ble_eq_true rfl)
  rw [lg_entry_eq]
  generalize (lg_sl ([.ref h0, .int x0, .int x1]) ++ List.replicate (3 - (lg_sl ([.ref h0, .int x0, .int x1])).length) Slot.unset).toArray = ls at hl ⊢
  have hl : lv_has ls 3 [(0, .ref h0), (1, .int x0), (2, .int x1)] := hl
  refine lv_iload_n hx hb dX11_set_0 rfl (lv_at hl 1 rfl) ?_
  refine lv_if_lt (tgt := 10) hx hb dX11_set_1 (by decide) (fun c => absurd c (iv_nlt ix0 (by decide : iv 0 0 0) (by decide))) (fun _ => ?_)
  refine lv_iload_n hx hb dX11_set_4 rfl (lv_at hl 1 rfl) ?_
  refine lv_bipush (v := 16) hx hb dX11_set_5 (by decide) ?_
  refine lv_icmp_lt (tgt := 20) hx hb dX11_set_7 (by decide) (fun c => absurd c (iv_nlt ix0 (by decide : iv 16 16 16) (by decide))) (fun _ => ?_)
  have hP9 := hP.sub (ws' := [(h0, .inr (11, [.ref h1, .ref h2, .ref h3, .ref h4, .ref h5, .int 0, .int 0]))]) [0] rfl
  have hD9 := hD.sub (ws' := [(h0, .inr (11, [.ref h1, .ref h2, .ref h3, .ref h4, .ref h5, .int 0, .int 0]))]) [0] (by decide) rfl
  have hK9 := hK.sub (tys' := []) [] rfl
  refine vx_throwS (own := RX11) (cls := "java/lang/IndexOutOfBoundsException") (text := evT3) (names := ["java/lang/RuntimeException", "java/lang/Exception"]) hx hb hst hown (by decide) (by decide) (hG _ wd_1126) (hG _ wd_24) (evR3 hE) (evA1 hE hG) evG1_106 hE.2.2.2.1 hE.2.2.2.2.1 hS (by rw [hml]; exact hl.1) dX11_set_10 dX11_set_13 dX11_set_14 dX11_set_16 dX11_set_19 (fun x hx9 => (htab x hx9).elim) (by decide) (by decide) (by decide) (by decide) hlocks (fun t hvm9 hz9 hk9 => ⟨(), trivial, ⟨rfl, hP9.kept (fun k q hk => hk9 q.1 (vx_lt hP9 hk)), va_K.moved hvm9 hK9, hD9⟩, Nat.le_trans hS.1 hz9, fun q hq hA9 => (hk9 q (Nat.lt_of_lt_of_le hq hS.1)).trans (hS.2.1 q hq hA9)⟩) hS.2.2 (by decide) (by decide)
set_option maxHeartbeats 4000000 in
set_option maxRecDepth 100000 in
theorem cL_set_2 (l : Launch) (hst : l.stackTraces = false) (dC : Nat → ClassId) (dI : Nat → Nat → Nat) (adK adV : Nat → Nat) (h0 h1 h2 h3 h4 h5 : Nat) (sz : Nat) (x0 x1 : Int32) (ix0 : iv x0 16 2147483647) : Met l yL_set (Cond.codeWith yL_set cL_set 4 (some .int) [(0, 6, 9, 19)] :: lw_G) ({ frames := 7, cells := 1, slots := 6, locals := 104 }) (va_Pc [.ref h0, .int x0, .int x1] (fun U => U.heap.size = sz ∧ va_P (dC, dI) vwCl [(h0, .inr (11, [.ref h1, .ref h2, .ref h3, .ref h4, .ref h5, .int 0, .int 0]))] U.heap ∧ va_K (dC, dI) vwCl [] U ∧ va_D (fun _ => True) [(h0, .inr (11, [.ref h1, .ref h2, .ref h3, .ref h4, .ref h5, .int 0, .int 0]))] ∧ ev adK adV (va_A [(h0, .inr (11, [.ref h1, .ref h2, .ref h3, .ref h4, .ref h5, .int 0, .int 0]))] sz) U U.heap)) (va_Qi (fun (r : Int32) (u : Unit) => r = 1 ∧ True) (fun (u : Unit) (t : State) => va_P (dC, dI) vwCl [(h0, .inr (11, [.ref h1, .ref h2, .ref h3, .ref h4, .ref h5, .int 0, .int 0]))] t.heap ∧ va_K (dC, dI) vwCl [] t ∧ va_D (va_A [(h0, .inr (11, [.ref h1, .ref h2, .ref h3, .ref h4, .ref h5, .int 0, .int 0]))] sz) [(h0, .inr (11, [.ref h1, .ref h2, .ref h3, .ref h4, .ref h5, .int 0, .int 0]))]) (va_A [(h0, .inr (11, [.ref h1, .ref h2, .ref h3, .ref h4, .ref h5, .int 0, .int 0]))] sz)) 1 6 (va_A [(h0, .inr (11, [.ref h1, .ref h2, .ref h3, .ref h4, .ref h5, .int 0, .int 0]))] sz) := by
  refine va_MetW (cc := cL_set) (maxL := 4) (ret := (some .int)) (by decide) rfl ?_
  intro p e s m args below meth c s₁ B hml hv
  obtain ⟨rfl, hsz, hP, hK, hD0, hE⟩ := hv
  have hx := B.exec
  have hb := B.bytes
  have hr := B.returns
  have hts0 := atoms_spec (ws := Cond.codeWith yL_set cL_set 4 (some .int) [(0, 6, 9, 19)] :: lw_G) B.pre
  have htab := vx_table (x := x) B (hts0 _ List.mem_cons_self)
  have hG : ∀ w ∈ lw_G, w.before _ s = true := fun w h => hts0 w (List.mem_cons_of_mem _ h)
  have hown : s.vm.findClass RL = some m.cls := findClass_of_methodNamed B.named
  have hlocks := B.notSynchronized
  subst hsz
  have hD := hD0.self (sz := s.heap.size)
  generalize hAe : va_A [(h0, .inr (11, [.ref h1, .ref h2, .ref h3, .ref h4, .ref h5, .int 0, .int 0]))] s.heap.size = A at hD hE ⊢
  have hA : ∀ q : Nat, s.heap.size ≤ q → A q := fun q h => by rw [← hAe]; exact Or.inr h
  have hS : va_S A s.heap s.heap [] := va_S.rf
  have hP : va_P (dC, dI) vwCl [(h0, .inr (11, [.ref h1, .ref h2, .ref h3, .ref h4, .ref h5, .int 0, .int 0]))] s.heap := hP
  have hl := lv_entry ([.ref h0, .int x0, .int x1]) (n := 4) (Nat.le_of_ble_eq_true rfl)
  rw [lg_entry_eq]
  generalize (lg_sl ([.ref h0, .int x0, .int x1]) ++ List.replicate (4 - (lg_sl ([.ref h0, .int x0, .int x1])).length) Slot.unset).toArray = ls at hl ⊢
  have hl : lv_has ls 4 [(0, .ref h0), (1, .int x0), (2, .int x1)] := hl
  refine lv_aload_n hx hb dL_set_0 rfl (lv_at hl 0 rfl) ?_
  refine lv_iload_n hx hb dL_set_1 rfl (lv_at hl 1 rfl) ?_
  refine lv_iload_n hx hb dL_set_2 rfl (lv_at hl 2 rfl) ?_
  have hPc := hP.sub (ws' := [(h0, .inr (11, [.ref h1, .ref h2, .ref h3, .ref h4, .ref h5, .int 0, .int 0]))]) [0] rfl
  have hDc := hD.sub (ws' := [(h0, .inr (11, [.ref h1, .ref h2, .ref h3, .ref h4, .ref h5, .int 0, .int 0]))]) [0] (by decide) rfl
  have hKc := hK.sub (tys' := []) [] rfl
  have hFc := va_free (wc := [(h0, .inr (11, [.ref h1, .ref h2, .ref h3, .ref h4, .ref h5, .int 0, .int 0]))]) hD hS hA [0] rfl
  refine vx_callv (vx_runV (As := [.int x0, .int x1]) (rest := []) ⟨hx, hb, hml, hown, hG⟩ (cX11_set_2 l hst dC dI adK adV h0 h1 h2 h3 h4 h5 s.heap.size x0 x1 ix0) (cwV 2 hG (gV wd_1145 wd_1146 wd_1147 wd_1 wd_1148) rfl rfl rfl (by decide +kernel) ⟨Nat.le_of_ble_eq_true rfl, Nat.le_of_ble_eq_true rfl⟩) ⟨fun a U g mk q => by obtain ⟨q0, q1, qP, qK, qD, qE⟩ := q; exact ⟨q0, q1, qP, va_K.moved (u := U) (U := U.calling g mk a) (Vm.Alike.refl U.vm) qK, qD, qE.same rfl⟩, va_recv hKc hPc (ci := 11) (q0 := 0) rfl rfl, fun U hU hW => ⟨rfl, by rw [hU], by rw [hU]; exact hPc, va_K.moved hW.alike hKc, hDc.weaken (fun _ _ _ _ => trivial), by rw [hU]; exact ((hE.kept hS.2.1).narrow hFc).warm hW⟩⟩ rfl rfl hl.1 rfl (lv_room (Nat.le_of_ble_eq_true rfl)) dL_set_3 ⟨by decide, by decide⟩) hS (fun q _ h => hFc q h) hFc (fun q _ h => hFc q h) (fun E9 ce q1 u9 t H1 locs ht hvm hpx hB hz1 hk1 hS hce hcv hcl => ?_) (fun u t H1 locs ht hvm hw hB hz1 hk1 hS => hw.elim)
  obtain ⟨rfl, hP1, hK1, hD1⟩ := hB
  rw [ht] at hP1
  have hK1 := va_K.moved hvm.symm hK1
  obtain ⟨hP, hD⟩ := va_join (wr := []) (w1 := [(h0, .inr (11, [.ref h1, .ref h2, .ref h3, .ref h4, .ref h5, .int 0, .int 0]))]) hP hD [0] [] rfl rfl (by decide) (by decide) hk1 hFc hP1 hD1
  have hK := (hK.sub (tys' := []) [] rfl).app hK1
  generalize H1 = H at hP hS hce ⊢
  have hP : va_P (dC, dI) vwCl [(h0, .inr (11, [.ref h1, .ref h2, .ref h3, .ref h4, .ref h5, .int 0, .int 0]))] H := hP
  have hD : va_D A [(h0, .inr (11, [.ref h1, .ref h2, .ref h3, .ref h4, .ref h5, .int 0, .int 0]))] := hD
  have hK : va_K (dC, dI) vwCl [] s := hK
  refine vx_widen (k := 1) (n := 6) (by decide) (by decide) ?_
  refine vx_catch (name := "java/lang/IndexOutOfBoundsException") hown [] { startPc := 0, endPc := 6, handlerPc := 9, catchType := 19 } [] (by rw [htab]; rfl) (fun z hz => nomatch hz) (by decide) (by decide) (hG _ wd_1121) (evC1 hE) hce hcv hcl ?_
  refine lv_astore_n (lv' := [(3, .ref q1), (0, .ref h0), (1, .int x0), (2, .int x1)]) hx hb dL_set_9 rfl hl (by decide) rfl (fun ls hl => ?_)
  refine lv_iconst (v := 1) hx hb dL_set_10 (by decide) ?_
  have hP9 := hP.sub (ws' := [(h0, .inr (11, [.ref h1, .ref h2, .ref h3, .ref h4, .ref h5, .int 0, .int 0]))]) [0] rfl
  have hD9 := hD.sub (ws' := [(h0, .inr (11, [.ref h1, .ref h2, .ref h3, .ref h4, .ref h5, .int 0, .int 0]))]) [0] (by decide) rfl
  have hK9 := hK.sub (tys' := []) [] rfl
  refine W.widen (k := 1) (n := 6) (by decide) (by decide) ?_
  exact W.iret (v := 1) hx hb hr (fun t ht hW => ⟨⟨1, (), rfl, ⟨rfl, trivial⟩, by rw [ht]; exact hP9, va_K.moved hW.alike hK9, hD9⟩, hS.F ht⟩) hS.2.2 dL_set_11
set_option maxHeartbeats 4000000 in
set_option maxRecDepth 100000 in
theorem cX2_writeRegister_2 (l : Launch) (dC : Nat → ClassId) (dI : Nat → Nat → Nat) (h0 h1 h2 h3 : Nat) (y0 : ClassId) (sz : Nat) (x0 x1 : Int32) (ix0 : iv x0 0 15) : Met l yX2_writeRegister (Cond.code yX2_writeRegister cX2_writeRegister 3 none :: lw_G) ({ frames := 0, cells := 0, slots := 0, locals := 0 }) (va_Pc [.ref h0, .int x0, .int x1] (fun U => U.heap.size = sz ∧ va_P (dC, dI) vwCl [(h0, .inr (2, [.ref h1, .ref h2, .ref h3, .int 0, .int 0, .int 0, .int 0, .int 0])), (h1, .inl (y0, 16, .inl (fun _ => 0)))] U.heap ∧ va_K (dC, dI) vwCl [(y0, .int)] U ∧ va_D (fun _ => True) [(h0, .inr (2, [.ref h1, .ref h2, .ref h3, .int 0, .int 0, .int 0, .int 0, .int 0])), (h1, .inl (y0, 16, .inl (fun _ => 0)))])) (va_Qv (fun (u : (Nat → Int32)) => (∀ j, iv (u j) 0 65535) ∧ True) (fun (u : (Nat → Int32)) (t : State) => va_P (dC, dI) vwCl [(h0, .inr (2, [.ref h1, .ref h2, .ref h3, .int 0, .int 0, .int 0, .int 0, .int 0])), (h1, .inl (y0, 16, .inl u))] t.heap ∧ va_K (dC, dI) vwCl [(y0, .int)] t ∧ va_D (va_A [(h0, .inr (2, [.ref h1, .ref h2, .ref h3, .int 0, .int 0, .int 0, .int 0, .int 0])), (h1, .inl (y0, 16, .inl (fun _ => 0)))] sz) [(h0, .inr (2, [.ref h1, .ref h2, .ref h3, .int 0, .int 0, .int 0, .int 0, .int 0])), (h1, .inl (y0, 16, .inl u))]) (va_A [(h0, .inr (2, [.ref h1, .ref h2, .ref h3, .int 0, .int 0, .int 0, .int 0, .int 0])), (h1, .inl (y0, 16, .inl (fun _ => 0)))] sz)) 0 0 (va_A [(h0, .inr (2, [.ref h1, .ref h2, .ref h3, .int 0, .int 0, .int 0, .int 0, .int 0])), (h1, .inl (y0, 16, .inl (fun _ => 0)))] sz) := by
  refine Met.ofW (cc := cX2_writeRegister) (maxL := 3) (ret := none) (by decide) rfl ?_
  intro p e s m args below meth c s₁ B hml hv
  obtain ⟨rfl, hsz, hP, hK, hD0⟩ := hv
  have hx := B.exec
  have hb := B.bytes
  have hr := B.returns
  have hts0 := atoms_spec (ws := Cond.code yX2_writeRegister cX2_writeRegister 3 none :: lw_G) B.pre
  have hG : ∀ w ∈ lw_G, w.before _ s = true := fun w h => hts0 w (List.mem_cons_of_mem _ h)
  have hown : s.vm.findClass RX2 = some m.cls := findClass_of_methodNamed B.named
  have hlocks := B.notSynchronized
  subst hsz
  have hD := hD0.self (sz := s.heap.size)
  generalize hAe : va_A [(h0, .inr (2, [.ref h1, .ref h2, .ref h3, .int 0, .int 0, .int 0, .int 0, .int 0])), (h1, .inl (y0, 16, .inl (fun _ => 0)))] s.heap.size = A at hD ⊢
  have hA : ∀ q : Nat, s.heap.size ≤ q → A q := fun q h => by rw [← hAe]; exact Or.inr h
  have hS : va_S A s.heap s.heap [] := va_S.rf
  have hP : va_P (dC, dI) vwCl [(h0, .inr (2, [.ref h1, .ref h2, .ref h3, .int 0, .int 0, .int 0, .int 0, .int 0])), (h1, .inl (y0, 16, .inl (fun _ => 0)))] s.heap := hP
  have hl := lv_entry ([.ref h0, .int x0, .int x1]) (n := 3) (Nat.le_of_ble_eq_true rfl)
  rw [lg_entry_eq]
  generalize (lg_sl ([.ref h0, .int x0, .int x1]) ++ List.replicate (3 - (lg_sl ([.ref h0, .int x0, .int x1])).length) Slot.unset).toArray = ls at hl ⊢
  have hl : lv_has ls 3 [(0, .ref h0), (1, .int x0), (2, .int x1)] := hl
  refine lv_iload_n hx hb dX2_writeRegister_0 rfl (lv_at hl 1 rfl) ?_
  refine lv_if_eq (tgt := 9) hx hb dX2_writeRegister_1 (by decide) (fun c1 => ?_) (fun c1 => ?_)
  · skip
    subst c1
    refine lv_aload_n hx hb dX2_writeRegister_9 rfl (lv_at hl 0 rfl) ?_
    refine va_get (D := (dC, dI)) (ci := 2) (v := .ref h1) (C := RX2) (T := TX2) (N := 8) hx hb hG inGX2 hown hK hP 0 rfl rfl 0 (by decide) (hG _ wd_149) (fun _ h9 => h9) rfl dX2_writeRegister_10 ?_
    refine lv_iload_n hx hb dX2_writeRegister_13 rfl (lv_at hl 1 rfl) ?_
    refine lv_iload_n hx hb dX2_writeRegister_14 rfl (lv_at hl 2 rfl) ?_
    refine lv_ldc hx hb hown (hG _ wd_820) dX2_writeRegister_15 ?_
    refine lv_iand hx hb dX2_writeRegister_17 ?_
    refine lv_topi (fun v2 ev2 => ?_)
    have iv2 : iv v2 0 65534 := iv_eq ev2 (iv_and (x := x1) (iv_w (by decide : iv 65534 65534 65534) (by decide) (by decide) : iv 65534 0 65534))
    refine va_iast hx hb hK hP hD hS 1 0 rfl rfl (iv_in (by decide : iv 0 0 0) (by decide) (by decide) : vp_in 0 16) dX2_writeRegister_18 (fun H locs hP hD hS => ?_)
    have hP : va_P (dC, dI) vwCl [(h0, .inr (2, [.ref h1, .ref h2, .ref h3, .int 0, .int 0, .int 0, .int 0, .int 0])), (h1, .inl (y0, 16, .inl (upd (fun _ => 0) (0 : Int32).toNatClampNeg v2)))] H := hP
    have hD : va_D A [(h0, .inr (2, [.ref h1, .ref h2, .ref h3, .int 0, .int 0, .int 0, .int 0, .int 0])), (h1, .inl (y0, 16, .inl (upd (fun _ => 0) (0 : Int32).toNatClampNeg v2)))] := hD
    obtain ⟨f3, ef3⟩ : ∃ z, z = upd (fun _ => 0) (0 : Int32).toNatClampNeg v2 := ⟨_, rfl⟩
    rw [← ef3] at hP hD
    have if3 : ∀ j, iv (f3 j) 0 65534 := by rw [ef3]; exact iv_upd (fun _ => (by decide : iv 0 0 0)) iv2 (by decide) (by decide) (by decide) (by decide)
    refine lv_goto (tgt := 59) hx hb dX2_writeRegister_19 (by decide) ?_
    have hP9 := hP.sub (ws' := [(h0, .inr (2, [.ref h1, .ref h2, .ref h3, .int 0, .int 0, .int 0, .int 0, .int 0])), (h1, .inl (y0, 16, .inl f3))]) [0, 1] rfl
    have hD9 := hD.sub (ws' := [(h0, .inr (2, [.ref h1, .ref h2, .ref h3, .int 0, .int 0, .int 0, .int 0, .int 0])), (h1, .inl (y0, 16, .inl f3))]) [0, 1] (by decide) rfl
    have hK9 := hK.sub (tys' := [(y0, .int)]) [0] rfl
    exact W.vret hx hb hr (fun t ht hW => ⟨⟨f3, rfl, ⟨(fun j => iv_w (if3 j) (by decide) (by decide)), trivial⟩, by rw [ht]; exact hP9, va_K.moved hW.alike hK9, hD9⟩, hS.F ht⟩) hS.2.2 dX2_writeRegister_59
  · skip
    have j4 : iv x0 1 15 := iv_neLo ix0 (by decide : iv 0 0 0) c1 (by decide)
    refine lv_iload_n hx hb dX2_writeRegister_4 rfl (lv_at hl 1 rfl) ?_
    refine lv_iconst (v := 1) hx hb dX2_writeRegister_5 (by decide) ?_
    refine lv_icmp_ne (tgt := 22) hx hb dX2_writeRegister_6 (by decide) (fun c5 => ?_) (fun c5 => ?_)
    · skip
      have j6 : iv x0 2 15 := iv_neLo j4 (by decide : iv 1 1 1) c5 (by decide)
      refine lv_iload_n hx hb dX2_writeRegister_22 rfl (lv_at hl 1 rfl) ?_
      refine lv_iconst (v := 2) hx hb dX2_writeRegister_23 (by decide) ?_
      refine lv_icmp_ne (tgt := 41) hx hb dX2_writeRegister_24 (by decide) (fun c7 => ?_) (fun c7 => ?_)
      · skip
        have j8 : iv x0 3 15 := iv_neLo j6 (by decide : iv 2 2 2) c7 (by decide)
        refine lv_iload_n hx hb dX2_writeRegister_41 rfl (lv_at hl 1 rfl) ?_
        refine lv_iconst (v := 3) hx hb dX2_writeRegister_42 (by decide) ?_
        refine lv_icmp_eq (tgt := 59) hx hb dX2_writeRegister_43 (by decide) (fun c9 => ?_) (fun c9 => ?_)
        · skip
          subst c9
          have hP9 := hP.sub (ws' := [(h0, .inr (2, [.ref h1, .ref h2, .ref h3, .int 0, .int 0, .int 0, .int 0, .int 0])), (h1, .inl (y0, 16, .inl (fun _ => 0)))]) [0, 1] rfl
          have hD9 := hD.sub (ws' := [(h0, .inr (2, [.ref h1, .ref h2, .ref h3, .int 0, .int 0, .int 0, .int 0, .int 0])), (h1, .inl (y0, 16, .inl (fun _ => 0)))]) [0, 1] (by decide) rfl
          have hK9 := hK.sub (tys' := [(y0, .int)]) [0] rfl
          exact W.vret hx hb hr (fun t ht hW => ⟨⟨(fun _ => 0), rfl, ⟨(fun _ => (by decide : iv 0 0 65535)), trivial⟩, by rw [ht]; exact hP9, va_K.moved hW.alike hK9, hD9⟩, hS.F ht⟩) hS.2.2 dX2_writeRegister_59
        · skip
          have j10 : iv x0 4 15 := iv_neLo j8 (by decide : iv 3 3 3) c9 (by decide)
          refine lv_aload_n hx hb dX2_writeRegister_46 rfl (lv_at hl 0 rfl) ?_
          refine va_get (D := (dC, dI)) (ci := 2) (v := .ref h1) (C := RX2) (T := TX2) (N := 8) hx hb hG inGX2 hown hK hP 0 rfl rfl 0 (by decide) (hG _ wd_149) (fun _ h9 => h9) rfl dX2_writeRegister_47 ?_
          refine lv_iload_n hx hb dX2_writeRegister_50 rfl (lv_at hl 1 rfl) ?_
          refine lv_bipush (v := 15) hx hb dX2_writeRegister_51 (by decide) ?_
          refine lv_iand hx hb dX2_writeRegister_53 ?_
          refine lv_topi (fun v11 ev11 => ?_)
          have iv11 : iv v11 0 15 := iv_eq ev11 (iv_and (x := x0) (iv_w (by decide : iv 15 15 15) (by decide) (by decide) : iv 15 0 15))
          refine lv_iload_n hx hb dX2_writeRegister_54 rfl (lv_at hl 2 rfl) ?_
          refine lv_ldc hx hb hown (hG _ wd_829) dX2_writeRegister_55 ?_
          refine lv_iand hx hb dX2_writeRegister_57 ?_
          refine lv_topi (fun v12 ev12 => ?_)
          have iv12 : iv v12 0 65535 := iv_eq ev12 (iv_and (x := x1) (iv_w (by decide : iv 65535 65535 65535) (by decide) (by decide) : iv 65535 0 65535))
          refine va_iast hx hb hK hP hD hS 1 0 rfl rfl (iv_in iv11 (by decide) (by decide) : vp_in v11 16) dX2_writeRegister_58 (fun H locs hP hD hS => ?_)
          have hP : va_P (dC, dI) vwCl [(h0, .inr (2, [.ref h1, .ref h2, .ref h3, .int 0, .int 0, .int 0, .int 0, .int 0])), (h1, .inl (y0, 16, .inl (upd (fun _ => 0) v11.toNatClampNeg v12)))] H := hP
          have hD : va_D A [(h0, .inr (2, [.ref h1, .ref h2, .ref h3, .int 0, .int 0, .int 0, .int 0, .int 0])), (h1, .inl (y0, 16, .inl (upd (fun _ => 0) v11.toNatClampNeg v12)))] := hD
          obtain ⟨f13, ef13⟩ : ∃ z, z = upd (fun _ => 0) v11.toNatClampNeg v12 := ⟨_, rfl⟩
          rw [← ef13] at hP hD
          have if13 : ∀ j, iv (f13 j) 0 65535 := by rw [ef13]; exact iv_upd (fun _ => (by decide : iv 0 0 0)) iv12 (by decide) (by decide) (by decide) (by decide)
          have hP9 := hP.sub (ws' := [(h0, .inr (2, [.ref h1, .ref h2, .ref h3, .int 0, .int 0, .int 0, .int 0, .int 0])), (h1, .inl (y0, 16, .inl f13))]) [0, 1] rfl
          have hD9 := hD.sub (ws' := [(h0, .inr (2, [.ref h1, .ref h2, .ref h3, .int 0, .int 0, .int 0, .int 0, .int 0])), (h1, .inl (y0, 16, .inl f13))]) [0, 1] (by decide) rfl
          have hK9 := hK.sub (tys' := [(y0, .int)]) [0] rfl
          exact W.vret hx hb hr (fun t ht hW => ⟨⟨f13, rfl, ⟨(fun j => iv_w (if13 j) (by decide) (by decide)), trivial⟩, by rw [ht]; exact hP9, va_K.moved hW.alike hK9, hD9⟩, hS.F ht⟩) hS.2.2 dX2_writeRegister_59
      · skip
        subst c7
        refine lv_aload_n hx hb dX2_writeRegister_27 rfl (lv_at hl 0 rfl) ?_
        refine va_get (D := (dC, dI)) (ci := 2) (v := .ref h1) (C := RX2) (T := TX2) (N := 8) hx hb hG inGX2 hown hK hP 0 rfl rfl 0 (by decide) (hG _ wd_149) (fun _ h9 => h9) rfl dX2_writeRegister_28 ?_
        refine lv_iconst (v := 2) hx hb dX2_writeRegister_31 (by decide) ?_
        refine lv_iload_n hx hb dX2_writeRegister_32 rfl (lv_at hl 2 rfl) ?_
        refine lv_sipush (v := 511) hx hb dX2_writeRegister_33 (by decide) ?_
        refine lv_iand hx hb dX2_writeRegister_36 ?_
        refine lv_topi (fun v14 ev14 => ?_)
        have iv14 : iv v14 0 511 := iv_eq ev14 (iv_and (x := x1) (iv_w (by decide : iv 511 511 511) (by decide) (by decide) : iv 511 0 511))
        refine va_iast hx hb hK hP hD hS 1 0 rfl rfl (iv_in (by decide : iv 2 2 2) (by decide) (by decide) : vp_in 2 16) dX2_writeRegister_37 (fun H locs hP hD hS => ?_)
        have hP : va_P (dC, dI) vwCl [(h0, .inr (2, [.ref h1, .ref h2, .ref h3, .int 0, .int 0, .int 0, .int 0, .int 0])), (h1, .inl (y0, 16, .inl (upd (fun _ => 0) (2 : Int32).toNatClampNeg v14)))] H := hP
        have hD : va_D A [(h0, .inr (2, [.ref h1, .ref h2, .ref h3, .int 0, .int 0, .int 0, .int 0, .int 0])), (h1, .inl (y0, 16, .inl (upd (fun _ => 0) (2 : Int32).toNatClampNeg v14)))] := hD
        obtain ⟨f15, ef15⟩ : ∃ z, z = upd (fun _ => 0) (2 : Int32).toNatClampNeg v14 := ⟨_, rfl⟩
        rw [← ef15] at hP hD
        have if15 : ∀ j, iv (f15 j) 0 511 := by rw [ef15]; exact iv_upd (fun _ => (by decide : iv 0 0 0)) iv14 (by decide) (by decide) (by decide) (by decide)
        refine lv_goto (tgt := 59) hx hb dX2_writeRegister_38 (by decide) ?_
        have hP9 := hP.sub (ws' := [(h0, .inr (2, [.ref h1, .ref h2, .ref h3, .int 0, .int 0, .int 0, .int 0, .int 0])), (h1, .inl (y0, 16, .inl f15))]) [0, 1] rfl
        have hD9 := hD.sub (ws' := [(h0, .inr (2, [.ref h1, .ref h2, .ref h3, .int 0, .int 0, .int 0, .int 0, .int 0])), (h1, .inl (y0, 16, .inl f15))]) [0, 1] (by decide) rfl
        have hK9 := hK.sub (tys' := [(y0, .int)]) [0] rfl
        exact W.vret hx hb hr (fun t ht hW => ⟨⟨f15, rfl, ⟨(fun j => iv_w (if15 j) (by decide) (by decide)), trivial⟩, by rw [ht]; exact hP9, va_K.moved hW.alike hK9, hD9⟩, hS.F ht⟩) hS.2.2 dX2_writeRegister_59
    · skip
      subst c5
      refine lv_aload_n hx hb dX2_writeRegister_9 rfl (lv_at hl 0 rfl) ?_
      refine va_get (D := (dC, dI)) (ci := 2) (v := .ref h1) (C := RX2) (T := TX2) (N := 8) hx hb hG inGX2 hown hK hP 0 rfl rfl 0 (by decide) (hG _ wd_149) (fun _ h9 => h9) rfl dX2_writeRegister_10 ?_
      refine lv_iload_n hx hb dX2_writeRegister_13 rfl (lv_at hl 1 rfl) ?_
      refine lv_iload_n hx hb dX2_writeRegister_14 rfl (lv_at hl 2 rfl) ?_
      refine lv_ldc hx hb hown (hG _ wd_820) dX2_writeRegister_15 ?_
      refine lv_iand hx hb dX2_writeRegister_17 ?_
      refine lv_topi (fun v16 ev16 => ?_)
      have iv16 : iv v16 0 65534 := iv_eq ev16 (iv_and (x := x1) (iv_w (by decide : iv 65534 65534 65534) (by decide) (by decide) : iv 65534 0 65534))
      refine va_iast hx hb hK hP hD hS 1 0 rfl rfl (iv_in (by decide : iv 1 1 1) (by decide) (by decide) : vp_in 1 16) dX2_writeRegister_18 (fun H locs hP hD hS => ?_)
      have hP : va_P (dC, dI) vwCl [(h0, .inr (2, [.ref h1, .ref h2, .ref h3, .int 0, .int 0, .int 0, .int 0, .int 0])), (h1, .inl (y0, 16, .inl (upd (fun _ => 0) (1 : Int32).toNatClampNeg v16)))] H := hP
      have hD : va_D A [(h0, .inr (2, [.ref h1, .ref h2, .ref h3, .int 0, .int 0, .int 0, .int 0, .int 0])), (h1, .inl (y0, 16, .inl (upd (fun _ => 0) (1 : Int32).toNatClampNeg v16)))] := hD
      obtain ⟨f17, ef17⟩ : ∃ z, z = upd (fun _ => 0) (1 : Int32).toNatClampNeg v16 := ⟨_, rfl⟩
      rw [← ef17] at hP hD
      have if17 : ∀ j, iv (f17 j) 0 65534 := by rw [ef17]; exact iv_upd (fun _ => (by decide : iv 0 0 0)) iv16 (by decide) (by decide) (by decide) (by decide)
      refine lv_goto (tgt := 59) hx hb dX2_writeRegister_19 (by decide) ?_
      have hP9 := hP.sub (ws' := [(h0, .inr (2, [.ref h1, .ref h2, .ref h3, .int 0, .int 0, .int 0, .int 0, .int 0])), (h1, .inl (y0, 16, .inl f17))]) [0, 1] rfl
      have hD9 := hD.sub (ws' := [(h0, .inr (2, [.ref h1, .ref h2, .ref h3, .int 0, .int 0, .int 0, .int 0, .int 0])), (h1, .inl (y0, 16, .inl f17))]) [0, 1] (by decide) rfl
      have hK9 := hK.sub (tys' := [(y0, .int)]) [0] rfl
      exact W.vret hx hb hr (fun t ht hW => ⟨⟨f17, rfl, ⟨(fun j => iv_w (if17 j) (by decide) (by decide)), trivial⟩, by rw [ht]; exact hP9, va_K.moved hW.alike hK9, hD9⟩, hS.F ht⟩) hS.2.2 dX2_writeRegister_59
set_option maxHeartbeats 4000000 in
set_option maxRecDepth 100000 in
theorem cX11_set_3 (l : Launch) (dC : Nat → ClassId) (dI : Nat → Nat → Nat) (h0 h1 h2 h3 h4 h5 h6 h7 : Nat) (y0 : ClassId) (sz : Nat) (x0 x1 : Int32) (ix0 : iv x0 0 15) : Met l yX11_set (Cond.code yX11_set cX11_set 3 none :: lw_G) ({ frames := 1, cells := 0, slots := 0, locals := 22 }) (va_Pc [.ref h0, .int x0, .int x1] (fun U => U.heap.size = sz ∧ va_P (dC, dI) vwCl [(h0, .inr (11, [.ref h1, .ref h2, .ref h3, .ref h4, .ref h5, .int 0, .int 0])), (h3, .inr (2, [.ref h6, .ref h7, .ref h2, .int 0, .int 0, .int 0, .int 0, .int 0])), (h6, .inl (y0, 16, .inl (fun _ => 0)))] U.heap ∧ va_K (dC, dI) vwCl [(y0, .int)] U ∧ va_D (fun _ => True) [(h0, .inr (11, [.ref h1, .ref h2, .ref h3, .ref h4, .ref h5, .int 0, .int 0])), (h3, .inr (2, [.ref h6, .ref h7, .ref h2, .int 0, .int 0, .int 0, .int 0, .int 0])), (h6, .inl (y0, 16, .inl (fun _ => 0)))])) (va_Qv (fun (u : (Nat → Int32)) => (∀ j, iv (u j) 0 65535) ∧ True) (fun (u : (Nat → Int32)) (t : State) => va_P (dC, dI) vwCl [(h0, .inr (11, [.ref h1, .ref h2, .ref h3, .ref h4, .ref h5, .int 0, .int 0])), (h3, .inr (2, [.ref h6, .ref h7, .ref h2, .int 0, .int 0, .int 0, .int 0, .int 0])), (h6, .inl (y0, 16, .inl u))] t.heap ∧ va_K (dC, dI) vwCl [(y0, .int)] t ∧ va_D (va_A [(h0, .inr (11, [.ref h1, .ref h2, .ref h3, .ref h4, .ref h5, .int 0, .int 0])), (h3, .inr (2, [.ref h6, .ref h7, .ref h2, .int 0, .int 0, .int 0, .int 0, .int 0])), (h6, .inl (y0, 16, .inl (fun _ => 0)))] sz) [(h0, .inr (11, [.ref h1, .ref h2, .ref h3, .ref h4, .ref h5, .int 0, .int 0])), (h3, .inr (2, [.ref h6, .ref h7, .ref h2, .int 0, .int 0, .int 0, .int 0, .int 0])), (h6, .inl (y0, 16, .inl u))]) (va_A [(h0, .inr (11, [.ref h1, .ref h2, .ref h3, .ref h4, .ref h5, .int 0, .int 0])), (h3, .inr (2, [.ref h6, .ref h7, .ref h2, .int 0, .int 0, .int 0, .int 0, .int 0])), (h6, .inl (y0, 16, .inl (fun _ => 0)))] sz)) 0 0 (va_A [(h0, .inr (11, [.ref h1, .ref h2, .ref h3, .ref h4, .ref h5, .int 0, .int 0])), (h3, .inr (2, [.ref h6, .ref h7, .ref h2, .int 0, .int 0, .int 0, .int 0, .int 0])), (h6, .inl (y0, 16, .inl (fun _ => 0)))] sz) := by
  refine Met.ofW (cc := cX11_set) (maxL := 3) (ret := none) (by decide) rfl ?_
  intro p e s m args below meth c s₁ B hml hv
  obtain ⟨rfl, hsz, hP, hK, hD0⟩ := hv
  have hx := B.exec
  have hb := B.bytes
  have hr := B.returns
  have hts0 := atoms_spec (ws := Cond.code yX11_set cX11_set 3 none :: lw_G) B.pre
  have hG : ∀ w ∈ lw_G, w.before _ s = true := fun w h => hts0 w (List.mem_cons_of_mem _ h)
  have hown : s.vm.findClass RX11 = some m.cls := findClass_of_methodNamed B.named
  have hlocks := B.notSynchronized
  subst hsz
  have hD := hD0.self (sz := s.heap.size)
  generalize hAe : va_A [(h0, .inr (11, [.ref h1, .ref h2, .ref h3, .ref h4, .ref h5, .int 0, .int 0])), (h3, .inr (2, [.ref h6, .ref h7, .ref h2, .int 0, .int 0, .int 0, .int 0, .int 0])), (h6, .inl (y0, 16, .inl (fun _ => 0)))] s.heap.size = A at hD ⊢
  have hA : ∀ q : Nat, s.heap.size ≤ q → A q := fun q h => by rw [← hAe]; exact Or.inr h
  have hS : va_S A s.heap s.heap [] := va_S.rf
  have hP : va_P (dC, dI) vwCl [(h0, .inr (11, [.ref h1, .ref h2, .ref h3, .ref h4, .ref h5, .int 0, .int 0])), (h3, .inr (2, [.ref h6, .ref h7, .ref h2, .int 0, .int 0, .int 0, .int 0, .int 0])), (h6, .inl (y0, 16, .inl (fun _ => 0)))] s.heap := hP
  have hl := lv_entry ([.ref h0, .int x0, .int x1]) (n := 3) (Nat.le_of_ble_eq_true rfl)
  rw [lg_entry_eq]
  generalize (lg_sl ([.ref h0, .int x0, .int x1]) ++ List.replicate (3 - (lg_sl ([.ref h0, .int x0, .int x1])).length) Slot.unset).toArray = ls at hl ⊢
  have hl : lv_has ls 3 [(0, .ref h0), (1, .int x0), (2, .int x1)] := hl
  refine lv_iload_n hx hb dX11_set_0 rfl (lv_at hl 1 rfl) ?_
  refine lv_if_lt (tgt := 10) hx hb dX11_set_1 (by decide) (fun c => absurd c (iv_nlt ix0 (by decide : iv 0 0 0) (by decide))) (fun _ => ?_)
  refine lv_iload_n hx hb dX11_set_4 rfl (lv_at hl 1 rfl) ?_
  refine lv_bipush (v := 16) hx hb dX11_set_5 (by decide) ?_
  refine lv_icmp_lt (tgt := 20) hx hb dX11_set_7 (by decide) (fun _ => ?_) (fun c => absurd (iv_lt ix0 (by decide : iv 16 16 16) (by decide)) c)
  refine lv_aload_n hx hb dX11_set_20 rfl (lv_at hl 0 rfl) ?_
  refine va_get (D := (dC, dI)) (ci := 11) (v := .ref h3) (C := RX11) (T := TX11) (N := 7) hx hb hG inGX11 hown hK hP 0 rfl rfl 2 (by decide) (hG _ wd_397) (fun _ h9 => h9) rfl dX11_set_21 ?_
  refine lv_iload_n hx hb dX11_set_24 rfl (lv_at hl 1 rfl) ?_
  refine lv_iload_n hx hb dX11_set_25 rfl (lv_at hl 2 rfl) ?_
  have hPc := hP.sub (ws' := [(h3, .inr (2, [.ref h6, .ref h7, .ref h2, .int 0, .int 0, .int 0, .int 0, .int 0])), (h6, .inl (y0, 16, .inl (fun _ => 0)))]) [1, 2] rfl
  have hDc := hD.sub (ws' := [(h3, .inr (2, [.ref h6, .ref h7, .ref h2, .int 0, .int 0, .int 0, .int 0, .int 0])), (h6, .inl (y0, 16, .inl (fun _ => 0)))]) [1, 2] (by decide) rfl
  have hKc := hK.sub (tys' := [(y0, .int)]) [0] rfl
  have hFc := va_free (wc := [(h3, .inr (2, [.ref h6, .ref h7, .ref h2, .int 0, .int 0, .int 0, .int 0, .int 0])), (h6, .inl (y0, 16, .inl (fun _ => 0)))]) hD hS hA [1, 2] rfl
  refine va_callv (va_runV (As := [.int x0, .int x1]) (rest := []) ⟨hx, hb, hml, hown, hG⟩ (cX2_writeRegister_2 l dC dI h3 h6 h7 h2 y0 s.heap.size x0 x1 ix0) (cwV 2 hG (gV wd_1149 wd_826 wd_827 wd_6 wd_828) rfl rfl rfl (by decide +kernel) ⟨Nat.le_of_ble_eq_true rfl, Nat.le_of_ble_eq_true rfl⟩) ⟨fun a U g mk q => by obtain ⟨q0, q1, qP, qK, qD⟩ := q; exact ⟨q0, q1, qP, va_K.moved (u := U) (U := U.calling g mk a) (Vm.Alike.refl U.vm) qK, qD⟩, va_recv hKc hPc (ci := 2) (q0 := 0) rfl rfl, fun U hU hW => ⟨rfl, by rw [hU], by rw [hU]; exact hPc, va_K.moved hW.alike hKc, hDc.weaken (fun _ _ _ _ => trivial)⟩⟩ rfl rfl hl.1 rfl (lv_room (Nat.le_of_ble_eq_true rfl)) dX11_set_26 ⟨by decide, by decide⟩) hS (fun q _ h => hFc q h) hFc (fun u2 t H1 locs ht hvm hw hB hz1 hk1 hS => ?_)
  obtain ⟨u2_0, rfl⟩ : ∃ z, z = u2 := ⟨_, rfl⟩
  have hw : (∀ j, iv (u2_0 j) 0 65535) ∧ True := hw
  obtain ⟨iu2_0, -⟩ := hw
  obtain ⟨hP1, hK1, hD1⟩ := hB
  rw [ht] at hP1
  have hK1 := va_K.moved hvm.symm hK1
  obtain ⟨hP, hD⟩ := va_join (wr := [(h0, .inr (11, [.ref h1, .ref h2, .ref h3, .ref h4, .ref h5, .int 0, .int 0]))]) (w1 := [(h3, .inr (2, [.ref h6, .ref h7, .ref h2, .int 0, .int 0, .int 0, .int 0, .int 0])), (h6, .inl (y0, 16, .inl u2_0))]) hP hD [1, 2] [0] rfl rfl (by decide) (by decide) hk1 hFc hP1 hD1
  have hK := (hK.sub (tys' := []) [] rfl).app hK1
  generalize H1 = H at hP hS ⊢
  have hP : va_P (dC, dI) vwCl [(h0, .inr (11, [.ref h1, .ref h2, .ref h3, .ref h4, .ref h5, .int 0, .int 0])), (h3, .inr (2, [.ref h6, .ref h7, .ref h2, .int 0, .int 0, .int 0, .int 0, .int 0])), (h6, .inl (y0, 16, .inl u2_0))] H := hP
  have hD : va_D A [(h0, .inr (11, [.ref h1, .ref h2, .ref h3, .ref h4, .ref h5, .int 0, .int 0])), (h3, .inr (2, [.ref h6, .ref h7, .ref h2, .int 0, .int 0, .int 0, .int 0, .int 0])), (h6, .inl (y0, 16, .inl u2_0))] := hD
  have hK : va_K (dC, dI) vwCl [(y0, .int)] s := hK
  have hP9 := hP.sub (ws' := [(h0, .inr (11, [.ref h1, .ref h2, .ref h3, .ref h4, .ref h5, .int 0, .int 0])), (h3, .inr (2, [.ref h6, .ref h7, .ref h2, .int 0, .int 0, .int 0, .int 0, .int 0])), (h6, .inl (y0, 16, .inl u2_0))]) [0, 1, 2] rfl
  have hD9 := hD.sub (ws' := [(h0, .inr (11, [.ref h1, .ref h2, .ref h3, .ref h4, .ref h5, .int 0, .int 0])), (h3, .inr (2, [.ref h6, .ref h7, .ref h2, .int 0, .int 0, .int 0, .int 0, .int 0])), (h6, .inl (y0, 16, .inl u2_0))]) [0, 1, 2] (by decide) rfl
  have hK9 := hK.sub (tys' := [(y0, .int)]) [0] rfl
  exact W.vret hx hb hr (fun t ht hW => ⟨⟨u2_0, rfl, ⟨(fun j => iv_w (iu2_0 j) (by decide) (by decide)), trivial⟩, by rw [ht]; exact hP9, va_K.moved hW.alike hK9, hD9⟩, hS.F ht⟩) hS.2.2 dX11_set_29
set_option maxHeartbeats 4000000 in
set_option maxRecDepth 100000 in
theorem cL_set_3 (l : Launch) (dC : Nat → ClassId) (dI : Nat → Nat → Nat) (h0 h1 h2 h3 h4 h5 h6 h7 : Nat) (y0 : ClassId) (sz : Nat) (x0 x1 : Int32) (ix0 : iv x0 0 15) : Met l yL_set (Cond.codeWith yL_set cL_set 4 (some .int) [(0, 6, 9, 19)] :: lw_G) ({ frames := 2, cells := 0, slots := 0, locals := 44 }) (va_Pc [.ref h0, .int x0, .int x1] (fun U => U.heap.size = sz ∧ va_P (dC, dI) vwCl [(h0, .inr (11, [.ref h1, .ref h2, .ref h3, .ref h4, .ref h5, .int 0, .int 0])), (h3, .inr (2, [.ref h6, .ref h7, .ref h2, .int 0, .int 0, .int 0, .int 0, .int 0])), (h6, .inl (y0, 16, .inl (fun _ => 0)))] U.heap ∧ va_K (dC, dI) vwCl [(y0, .int)] U ∧ va_D (fun _ => True) [(h0, .inr (11, [.ref h1, .ref h2, .ref h3, .ref h4, .ref h5, .int 0, .int 0])), (h3, .inr (2, [.ref h6, .ref h7, .ref h2, .int 0, .int 0, .int 0, .int 0, .int 0])), (h6, .inl (y0, 16, .inl (fun _ => 0)))])) (va_Qi (fun (r : Int32) (u : (Nat → Int32)) => r = 0 ∧ (∀ j, iv (u j) 0 65535) ∧ True) (fun (u : (Nat → Int32)) (t : State) => va_P (dC, dI) vwCl [(h0, .inr (11, [.ref h1, .ref h2, .ref h3, .ref h4, .ref h5, .int 0, .int 0])), (h3, .inr (2, [.ref h6, .ref h7, .ref h2, .int 0, .int 0, .int 0, .int 0, .int 0])), (h6, .inl (y0, 16, .inl u))] t.heap ∧ va_K (dC, dI) vwCl [(y0, .int)] t ∧ va_D (va_A [(h0, .inr (11, [.ref h1, .ref h2, .ref h3, .ref h4, .ref h5, .int 0, .int 0])), (h3, .inr (2, [.ref h6, .ref h7, .ref h2, .int 0, .int 0, .int 0, .int 0, .int 0])), (h6, .inl (y0, 16, .inl (fun _ => 0)))] sz) [(h0, .inr (11, [.ref h1, .ref h2, .ref h3, .ref h4, .ref h5, .int 0, .int 0])), (h3, .inr (2, [.ref h6, .ref h7, .ref h2, .int 0, .int 0, .int 0, .int 0, .int 0])), (h6, .inl (y0, 16, .inl u))]) (va_A [(h0, .inr (11, [.ref h1, .ref h2, .ref h3, .ref h4, .ref h5, .int 0, .int 0])), (h3, .inr (2, [.ref h6, .ref h7, .ref h2, .int 0, .int 0, .int 0, .int 0, .int 0])), (h6, .inl (y0, 16, .inl (fun _ => 0)))] sz)) 0 0 (va_A [(h0, .inr (11, [.ref h1, .ref h2, .ref h3, .ref h4, .ref h5, .int 0, .int 0])), (h3, .inr (2, [.ref h6, .ref h7, .ref h2, .int 0, .int 0, .int 0, .int 0, .int 0])), (h6, .inl (y0, 16, .inl (fun _ => 0)))] sz) := by
  refine va_MetW (cc := cL_set) (maxL := 4) (ret := (some .int)) (by decide) rfl ?_
  intro p e s m args below meth c s₁ B hml hv
  obtain ⟨rfl, hsz, hP, hK, hD0⟩ := hv
  have hx := B.exec
  have hb := B.bytes
  have hr := B.returns
  have hts0 := atoms_spec (ws := Cond.codeWith yL_set cL_set 4 (some .int) [(0, 6, 9, 19)] :: lw_G) B.pre
  have htab := vx_table (x := x) B (hts0 _ List.mem_cons_self)
  have hG : ∀ w ∈ lw_G, w.before _ s = true := fun w h => hts0 w (List.mem_cons_of_mem _ h)
  have hown : s.vm.findClass RL = some m.cls := findClass_of_methodNamed B.named
  have hlocks := B.notSynchronized
  subst hsz
  have hD := hD0.self (sz := s.heap.size)
  generalize hAe : va_A [(h0, .inr (11, [.ref h1, .ref h2, .ref h3, .ref h4, .ref h5, .int 0, .int 0])), (h3, .inr (2, [.ref h6, .ref h7, .ref h2, .int 0, .int 0, .int 0, .int 0, .int 0])), (h6, .inl (y0, 16, .inl (fun _ => 0)))] s.heap.size = A at hD ⊢
  have hA : ∀ q : Nat, s.heap.size ≤ q → A q := fun q h => by rw [← hAe]; exact Or.inr h
  have hS : va_S A s.heap s.heap [] := va_S.rf
  have hP : va_P (dC, dI) vwCl [(h0, .inr (11, [.ref h1, .ref h2, .ref h3, .ref h4, .ref h5, .int 0, .int 0])), (h3, .inr (2, [.ref h6, .ref h7, .ref h2, .int 0, .int 0, .int 0, .int 0, .int 0])), (h6, .inl (y0, 16, .inl (fun _ => 0)))] s.heap := hP
  have hl := lv_entry ([.ref h0, .int x0, .int x1]) (n := 4) (Nat.le_of_ble_eq_true rfl)
  rw [lg_entry_eq]
  generalize (lg_sl ([.ref h0, .int x0, .int x1]) ++ List.replicate (4 - (lg_sl ([.ref h0, .int x0, .int x1])).length) Slot.unset).toArray = ls at hl ⊢
  have hl : lv_has ls 4 [(0, .ref h0), (1, .int x0), (2, .int x1)] := hl
  refine lv_aload_n hx hb dL_set_0 rfl (lv_at hl 0 rfl) ?_
  refine lv_iload_n hx hb dL_set_1 rfl (lv_at hl 1 rfl) ?_
  refine lv_iload_n hx hb dL_set_2 rfl (lv_at hl 2 rfl) ?_
  have hPc := hP.sub (ws' := [(h0, .inr (11, [.ref h1, .ref h2, .ref h3, .ref h4, .ref h5, .int 0, .int 0])), (h3, .inr (2, [.ref h6, .ref h7, .ref h2, .int 0, .int 0, .int 0, .int 0, .int 0])), (h6, .inl (y0, 16, .inl (fun _ => 0)))]) [0, 1, 2] rfl
  have hDc := hD.sub (ws' := [(h0, .inr (11, [.ref h1, .ref h2, .ref h3, .ref h4, .ref h5, .int 0, .int 0])), (h3, .inr (2, [.ref h6, .ref h7, .ref h2, .int 0, .int 0, .int 0, .int 0, .int 0])), (h6, .inl (y0, 16, .inl (fun _ => 0)))]) [0, 1, 2] (by decide) rfl
  have hKc := hK.sub (tys' := [(y0, .int)]) [0] rfl
  have hFc := va_free (wc := [(h0, .inr (11, [.ref h1, .ref h2, .ref h3, .ref h4, .ref h5, .int 0, .int 0])), (h3, .inr (2, [.ref h6, .ref h7, .ref h2, .int 0, .int 0, .int 0, .int 0, .int 0])), (h6, .inl (y0, 16, .inl (fun _ => 0)))]) hD hS hA [0, 1, 2] rfl
  refine va_callv (va_runV (As := [.int x0, .int x1]) (rest := []) ⟨hx, hb, hml, hown, hG⟩ (cX11_set_3 l dC dI h0 h1 h2 h3 h4 h5 h6 h7 y0 s.heap.size x0 x1 ix0) (cwV 2 hG (gV wd_1145 wd_1146 wd_1147 wd_1 wd_1148) rfl rfl rfl (by decide +kernel) ⟨Nat.le_of_ble_eq_true rfl, Nat.le_of_ble_eq_true rfl⟩) ⟨fun a U g mk q => by obtain ⟨q0, q1, qP, qK, qD⟩ := q; exact ⟨q0, q1, qP, va_K.moved (u := U) (U := U.calling g mk a) (Vm.Alike.refl U.vm) qK, qD⟩, va_recv hKc hPc (ci := 11) (q0 := 0) rfl rfl, fun U hU hW => ⟨rfl, by rw [hU], by rw [hU]; exact hPc, va_K.moved hW.alike hKc, hDc.weaken (fun _ _ _ _ => trivial)⟩⟩ rfl rfl hl.1 rfl (lv_room (Nat.le_of_ble_eq_true rfl)) dL_set_3 ⟨by decide, by decide⟩) hS (fun q _ h => hFc q h) hFc (fun u2 t H1 locs ht hvm hw hB hz1 hk1 hS => ?_)
  obtain ⟨u2_0, rfl⟩ : ∃ z, z = u2 := ⟨_, rfl⟩
  have hw : (∀ j, iv (u2_0 j) 0 65535) ∧ True := hw
  obtain ⟨iu2_0, -⟩ := hw
  obtain ⟨hP1, hK1, hD1⟩ := hB
  rw [ht] at hP1
  have hK1 := va_K.moved hvm.symm hK1
  obtain ⟨hP, hD⟩ := va_join (wr := []) (w1 := [(h0, .inr (11, [.ref h1, .ref h2, .ref h3, .ref h4, .ref h5, .int 0, .int 0])), (h3, .inr (2, [.ref h6, .ref h7, .ref h2, .int 0, .int 0, .int 0, .int 0, .int 0])), (h6, .inl (y0, 16, .inl u2_0))]) hP hD [0, 1, 2] [] rfl rfl (by decide) (by decide) hk1 hFc hP1 hD1
  have hK := (hK.sub (tys' := []) [] rfl).app hK1
  generalize H1 = H at hP hS ⊢
  have hP : va_P (dC, dI) vwCl [(h0, .inr (11, [.ref h1, .ref h2, .ref h3, .ref h4, .ref h5, .int 0, .int 0])), (h3, .inr (2, [.ref h6, .ref h7, .ref h2, .int 0, .int 0, .int 0, .int 0, .int 0])), (h6, .inl (y0, 16, .inl u2_0))] H := hP
  have hD : va_D A [(h0, .inr (11, [.ref h1, .ref h2, .ref h3, .ref h4, .ref h5, .int 0, .int 0])), (h3, .inr (2, [.ref h6, .ref h7, .ref h2, .int 0, .int 0, .int 0, .int 0, .int 0])), (h6, .inl (y0, 16, .inl u2_0))] := hD
  have hK : va_K (dC, dI) vwCl [(y0, .int)] s := hK
  refine lv_goto (tgt := 12) hx hb dL_set_6 (by decide) ?_
  refine lv_iconst (v := 0) hx hb dL_set_12 (by decide) ?_
  have hP9 := hP.sub (ws' := [(h0, .inr (11, [.ref h1, .ref h2, .ref h3, .ref h4, .ref h5, .int 0, .int 0])), (h3, .inr (2, [.ref h6, .ref h7, .ref h2, .int 0, .int 0, .int 0, .int 0, .int 0])), (h6, .inl (y0, 16, .inl u2_0))]) [0, 1, 2] rfl
  have hD9 := hD.sub (ws' := [(h0, .inr (11, [.ref h1, .ref h2, .ref h3, .ref h4, .ref h5, .int 0, .int 0])), (h3, .inr (2, [.ref h6, .ref h7, .ref h2, .int 0, .int 0, .int 0, .int 0, .int 0])), (h6, .inl (y0, 16, .inl u2_0))]) [0, 1, 2] (by decide) rfl
  have hK9 := hK.sub (tys' := [(y0, .int)]) [0] rfl
  exact W.iret (v := 0) hx hb hr (fun t ht hW => ⟨⟨0, u2_0, rfl, ⟨rfl, (fun j => iv_w (iu2_0 j) (by decide) (by decide)), trivial⟩, by rw [ht]; exact hP9, va_K.moved hW.alike hK9, hD9⟩, hS.F ht⟩) hS.2.2 dL_set_13
set_option maxHeartbeats 4000000 in
set_option maxRecDepth 100000 in
theorem cX11_peek_1 (l : Launch) (hst : l.stackTraces = false) (dC : Nat → ClassId) (dI : Nat → Nat → Nat) (adK adV : Nat → Nat) (h0 h1 h2 h3 h4 h5 : Nat) (sz : Nat) (x0 : Int32) (ix0 : iv x0 (-2147483648) (-1)) : vx_Met l yX11_peek (Cond.code yX11_peek cX11_peek 2 (some .int) :: lw_G) ({ frames := 6, cells := 1, slots := 6, locals := 82 }) (va_Pc [.ref h0, .int x0] (fun U => U.heap.size = sz ∧ va_P (dC, dI) vwCl [(h0, .inr (11, [.ref h1, .ref h2, .ref h3, .ref h4, .ref h5, .int 0, .int 0]))] U.heap ∧ va_K (dC, dI) vwCl [] U ∧ va_D (fun _ => True) [(h0, .inr (11, [.ref h1, .ref h2, .ref h3, .ref h4, .ref h5, .int 0, .int 0]))] ∧ ev adK adV (va_A [(h0, .inr (11, [.ref h1, .ref h2, .ref h3, .ref h4, .ref h5, .int 0, .int 0]))] sz) U U.heap)) (va_Qi (fun (_ : Int32) (_ : Unit) => False) (fun _ _ => True) (va_A [(h0, .inr (11, [.ref h1, .ref h2, .ref h3, .ref h4, .ref h5, .int 0, .int 0]))] sz)) (vx_X (fun (_ : Unit) => True) (fun (E : String) (_ : Unit) (t : State) => E = "java/lang/IndexOutOfBoundsException" ∧ va_P (dC, dI) vwCl [(h0, .inr (11, [.ref h1, .ref h2, .ref h3, .ref h4, .ref h5, .int 0, .int 0]))] t.heap ∧ va_K (dC, dI) vwCl [] t ∧ va_D (va_A [(h0, .inr (11, [.ref h1, .ref h2, .ref h3, .ref h4, .ref h5, .int 0, .int 0]))] sz) [(h0, .inr (11, [.ref h1, .ref h2, .ref h3, .ref h4, .ref h5, .int 0, .int 0]))]) (va_A [(h0, .inr (11, [.ref h1, .ref h2, .ref h3, .ref h4, .ref h5, .int 0, .int 0]))] sz)) 1 6 (va_A [(h0, .inr (11, [.ref h1, .ref h2, .ref h3, .ref h4, .ref h5, .int 0, .int 0]))] sz) := by
  refine vx_ofW (cc := cX11_peek) (maxL := 2) (ret := (some .int)) (by decide) rfl ?_
  intro p e s m args below meth c s₁ B hml htab hv
  obtain ⟨rfl, hsz, hP, hK, hD0, hE⟩ := hv
  have hx := B.exec
  have hb := B.bytes
  have hr := B.returns
  have hts0 := atoms_spec (ws := Cond.code yX11_peek cX11_peek 2 (some .int) :: lw_G) B.pre
  have hG : ∀ w ∈ lw_G, w.before _ s = true := fun w h => hts0 w (List.mem_cons_of_mem _ h)
  have hown : s.vm.findClass RX11 = some m.cls := findClass_of_methodNamed B.named
  have hlocks := B.notSynchronized
  subst hsz
  have hD := hD0.self (sz := s.heap.size)
  generalize hAe : va_A [(h0, .inr (11, [.ref h1, .ref h2, .ref h3, .ref h4, .ref h5, .int 0, .int 0]))] s.heap.size = A at hD hE ⊢
  have hA : ∀ q : Nat, s.heap.size ≤ q → A q := fun q h => by rw [← hAe]; exact Or.inr h
  have hS : va_S A s.heap s.heap [] := va_S.rf
  have hP : va_P (dC, dI) vwCl [(h0, .inr (11, [.ref h1, .ref h2, .ref h3, .ref h4, .ref h5, .int 0, .int 0]))] s.heap := hP
  have hl := lv_entry ([.ref h0, .int x0]) (n := 2) (Nat.le_of_ble_eq_true rfl)
  rw [lg_entry_eq]
  generalize (lg_sl ([.ref h0, .int x0]) ++ List.replicate (2 - (lg_sl ([.ref h0, .int x0])).length) Slot.unset).toArray = ls at hl ⊢
  have hl : lv_has ls 2 [(0, .ref h0), (1, .int x0)] := hl
  refine lv_iload_n hx hb dX11_peek_0 rfl (lv_at hl 1 rfl) ?_
  refine lv_if_lt (tgt := 10) hx hb dX11_peek_1 (by decide) (fun _ => ?_) (fun c => absurd (iv_lt ix0 (by decide : iv 0 0 0) (by decide)) c)
  have hP9 := hP.sub (ws' := [(h0, .inr (11, [.ref h1, .ref h2, .ref h3, .ref h4, .ref h5, .int 0, .int 0]))]) [0] rfl
  have hD9 := hD.sub (ws' := [(h0, .inr (11, [.ref h1, .ref h2, .ref h3, .ref h4, .ref h5, .int 0, .int 0]))]) [0] (by decide) rfl
  have hK9 := hK.sub (tys' := []) [] rfl
  refine vx_throwS (own := RX11) (cls := "java/lang/IndexOutOfBoundsException") (text := evT4) (names := ["java/lang/RuntimeException", "java/lang/Exception"]) hx hb hst hown (by decide) (by decide) (hG _ wd_1126) (hG _ wd_24) (evR4 hE) (evA1 hE hG) evG1_106 hE.2.2.2.1 hE.2.2.2.2.1 hS (by rw [hml]; exact hl.1) dX11_peek_10 dX11_peek_13 dX11_peek_14 dX11_peek_16 dX11_peek_19 (fun x hx9 => (htab x hx9).elim) (by decide) (by decide) (by decide) (by decide) hlocks (fun t hvm9 hz9 hk9 => ⟨(), trivial, ⟨rfl, hP9.kept (fun k q hk => hk9 q.1 (vx_lt hP9 hk)), va_K.moved hvm9 hK9, hD9⟩, Nat.le_trans hS.1 hz9, fun q hq hA9 => (hk9 q (Nat.lt_of_lt_of_le hq hS.1)).trans (hS.2.1 q hq hA9)⟩) hS.2.2 (by decide) (by decide)
set_option maxHeartbeats 4000000 in
set_option maxRecDepth 100000 in
theorem cL_peek_1 (l : Launch) (hst : l.stackTraces = false) (dC : Nat → ClassId) (dI : Nat → Nat → Nat) (adK adV : Nat → Nat) (h0 h1 h2 h3 h4 h5 h6 : Nat) (sz : Nat) (x0 : Int32) (ix0 : iv x0 (-2147483648) (-1)) : Met l yL_peek (Cond.codeWith yL_peek cL_peek 4 (some .int) [(0, 9, 12, 19)] :: lw_G) ({ frames := 7, cells := 1, slots := 6, locals := 103 }) (va_Pc [.ref h0, .int x0, .ref h1] (fun U => U.heap.size = sz ∧ va_P (dC, dI) vwCl [(h0, .inr (11, [.ref h2, .ref h3, .ref h4, .ref h5, .ref h6, .int 0, .int 0]))] U.heap ∧ va_K (dC, dI) vwCl [] U ∧ va_D (fun _ => True) [(h0, .inr (11, [.ref h2, .ref h3, .ref h4, .ref h5, .ref h6, .int 0, .int 0]))] ∧ ev adK adV (va_A [(h0, .inr (11, [.ref h2, .ref h3, .ref h4, .ref h5, .ref h6, .int 0, .int 0]))] sz) U U.heap)) (va_Qi (fun (r : Int32) (u : Unit) => r = 1 ∧ True) (fun (u : Unit) (t : State) => va_P (dC, dI) vwCl [(h0, .inr (11, [.ref h2, .ref h3, .ref h4, .ref h5, .ref h6, .int 0, .int 0]))] t.heap ∧ va_K (dC, dI) vwCl [] t ∧ va_D (va_A [(h0, .inr (11, [.ref h2, .ref h3, .ref h4, .ref h5, .ref h6, .int 0, .int 0]))] sz) [(h0, .inr (11, [.ref h2, .ref h3, .ref h4, .ref h5, .ref h6, .int 0, .int 0]))]) (va_A [(h0, .inr (11, [.ref h2, .ref h3, .ref h4, .ref h5, .ref h6, .int 0, .int 0]))] sz)) 1 6 (va_A [(h0, .inr (11, [.ref h2, .ref h3, .ref h4, .ref h5, .ref h6, .int 0, .int 0]))] sz) := by
  refine va_MetW (cc := cL_peek) (maxL := 4) (ret := (some .int)) (by decide) rfl ?_
  intro p e s m args below meth c s₁ B hml hv
  obtain ⟨rfl, hsz, hP, hK, hD0, hE⟩ := hv
  have hx := B.exec
  have hb := B.bytes
  have hr := B.returns
  have hts0 := atoms_spec (ws := Cond.codeWith yL_peek cL_peek 4 (some .int) [(0, 9, 12, 19)] :: lw_G) B.pre
  have htab := vx_table (x := x) B (hts0 _ List.mem_cons_self)
  have hG : ∀ w ∈ lw_G, w.before _ s = true := fun w h => hts0 w (List.mem_cons_of_mem _ h)
  have hown : s.vm.findClass RL = some m.cls := findClass_of_methodNamed B.named
  have hlocks := B.notSynchronized
  subst hsz
  have hD := hD0.self (sz := s.heap.size)
  generalize hAe : va_A [(h0, .inr (11, [.ref h2, .ref h3, .ref h4, .ref h5, .ref h6, .int 0, .int 0]))] s.heap.size = A at hD hE ⊢
  have hA : ∀ q : Nat, s.heap.size ≤ q → A q := fun q h => by rw [← hAe]; exact Or.inr h
  have hS : va_S A s.heap s.heap [] := va_S.rf
  have hP : va_P (dC, dI) vwCl [(h0, .inr (11, [.ref h2, .ref h3, .ref h4, .ref h5, .ref h6, .int 0, .int 0]))] s.heap := hP
  have hl := lv_entry ([.ref h0, .int x0, .ref h1]) (n := 4) (Nat.le_of_ble_eq_true rfl)
  rw [lg_entry_eq]
  generalize (lg_sl ([.ref h0, .int x0, .ref h1]) ++ List.replicate (4 - (lg_sl ([.ref h0, .int x0, .ref h1])).length) Slot.unset).toArray = ls at hl ⊢
  have hl : lv_has ls 4 [(0, .ref h0), (1, .int x0), (2, .ref h1)] := hl
  refine lv_aload_n hx hb dL_peek_0 rfl (lv_at hl 2 rfl) ?_
  refine lv_iconst (v := 0) hx hb dL_peek_1 (by decide) ?_
  refine lv_aload_n hx hb dL_peek_2 rfl (lv_at hl 0 rfl) ?_
  refine lv_iload_n hx hb dL_peek_3 rfl (lv_at hl 1 rfl) ?_
  have hPc := hP.sub (ws' := [(h0, .inr (11, [.ref h2, .ref h3, .ref h4, .ref h5, .ref h6, .int 0, .int 0]))]) [0] rfl
  have hDc := hD.sub (ws' := [(h0, .inr (11, [.ref h2, .ref h3, .ref h4, .ref h5, .ref h6, .int 0, .int 0]))]) [0] (by decide) rfl
  have hKc := hK.sub (tys' := []) [] rfl
  have hFc := va_free (wc := [(h0, .inr (11, [.ref h2, .ref h3, .ref h4, .ref h5, .ref h6, .int 0, .int 0]))]) hD hS hA [0] rfl
  refine vx_calli (vx_runV (As := [.int x0]) (rest := [.int 0, .ref h1]) ⟨hx, hb, hml, hown, hG⟩ (cX11_peek_1 l hst dC dI adK adV h0 h2 h3 h4 h5 h6 s.heap.size x0 ix0) (cwV 1 hG (gV wd_1153 wd_1154 wd_1155 wd_1 wd_1156) rfl rfl rfl (by decide +kernel) ⟨Nat.le_of_ble_eq_true rfl, Nat.le_of_ble_eq_true rfl⟩) ⟨fun a U g mk q => by obtain ⟨q0, q1, qP, qK, qD, qE⟩ := q; exact ⟨q0, q1, qP, va_K.moved (u := U) (U := U.calling g mk a) (Vm.Alike.refl U.vm) qK, qD, qE.same rfl⟩, va_recv hKc hPc (ci := 11) (q0 := 0) rfl rfl, fun U hU hW => ⟨rfl, by rw [hU], by rw [hU]; exact hPc, va_K.moved hW.alike hKc, hDc.weaken (fun _ _ _ _ => trivial), by rw [hU]; exact ((hE.kept hS.2.1).narrow hFc).warm hW⟩⟩ rfl rfl hl.1 rfl (lv_room (Nat.le_of_ble_eq_true rfl)) dL_peek_4 ⟨by decide, by decide⟩) hS (fun q _ h => hFc q h) hFc (fun q _ h => hFc q h) (fun E9 ce q1 u9 t H1 locs ht hvm hpx hB hz1 hk1 hS hce hcv hcl => ?_) (fun r u t H1 locs ht hvm hw hB hz1 hk1 hS => hw.elim)
  obtain ⟨rfl, hP1, hK1, hD1⟩ := hB
  rw [ht] at hP1
  have hK1 := va_K.moved hvm.symm hK1
  obtain ⟨hP, hD⟩ := va_join (wr := []) (w1 := [(h0, .inr (11, [.ref h2, .ref h3, .ref h4, .ref h5, .ref h6, .int 0, .int 0]))]) hP hD [0] [] rfl rfl (by decide) (by decide) hk1 hFc hP1 hD1
  have hK := (hK.sub (tys' := []) [] rfl).app hK1
  generalize H1 = H at hP hS hce ⊢
  have hP : va_P (dC, dI) vwCl [(h0, .inr (11, [.ref h2, .ref h3, .ref h4, .ref h5, .ref h6, .int 0, .int 0]))] H := hP
  have hD : va_D A [(h0, .inr (11, [.ref h2, .ref h3, .ref h4, .ref h5, .ref h6, .int 0, .int 0]))] := hD
  have hK : va_K (dC, dI) vwCl [] s := hK
  refine vx_widen (k := 1) (n := 6) (by decide) (by decide) ?_
  refine vx_catch (name := "java/lang/IndexOutOfBoundsException") hown [] { startPc := 0, endPc := 9, handlerPc := 12, catchType := 19 } [] (by rw [htab]; rfl) (fun z hz => nomatch hz) (by decide) (by decide) (hG _ wd_1121) (evC1 hE) hce hcv hcl ?_
  refine lv_astore_n (lv' := [(3, .ref q1), (0, .ref h0), (1, .int x0), (2, .ref h1)]) hx hb dL_peek_12 rfl hl (by decide) rfl (fun ls hl => ?_)
  refine lv_iconst (v := 1) hx hb dL_peek_13 (by decide) ?_
  have hP9 := hP.sub (ws' := [(h0, .inr (11, [.ref h2, .ref h3, .ref h4, .ref h5, .ref h6, .int 0, .int 0]))]) [0] rfl
  have hD9 := hD.sub (ws' := [(h0, .inr (11, [.ref h2, .ref h3, .ref h4, .ref h5, .ref h6, .int 0, .int 0]))]) [0] (by decide) rfl
  have hK9 := hK.sub (tys' := []) [] rfl
  refine W.widen (k := 1) (n := 6) (by decide) (by decide) ?_
  exact W.iret (v := 1) hx hb hr (fun t ht hW => ⟨⟨1, (), rfl, ⟨rfl, trivial⟩, by rw [ht]; exact hP9, va_K.moved hW.alike hK9, hD9⟩, hS.F ht⟩) hS.2.2 dL_peek_14
set_option maxHeartbeats 4000000 in
set_option maxRecDepth 100000 in
theorem cX11_peek_2 (l : Launch) (hst : l.stackTraces = false) (dC : Nat → ClassId) (dI : Nat → Nat → Nat) (adK adV : Nat → Nat) (h0 h1 h2 h3 h4 h5 : Nat) (sz : Nat) (x0 : Int32) (ix0 : iv x0 65536 2147483647) : vx_Met l yX11_peek (Cond.code yX11_peek cX11_peek 2 (some .int) :: lw_G) ({ frames := 6, cells := 1, slots := 6, locals := 82 }) (va_Pc [.ref h0, .int x0] (fun U => U.heap.size = sz ∧ va_P (dC, dI) vwCl [(h0, .inr (11, [.ref h1, .ref h2, .ref h3, .ref h4, .ref h5, .int 0, .int 0]))] U.heap ∧ va_K (dC, dI) vwCl [] U ∧ va_D (fun _ => True) [(h0, .inr (11, [.ref h1, .ref h2, .ref h3, .ref h4, .ref h5, .int 0, .int 0]))] ∧ ev adK adV (va_A [(h0, .inr (11, [.ref h1, .ref h2, .ref h3, .ref h4, .ref h5, .int 0, .int 0]))] sz) U U.heap)) (va_Qi (fun (_ : Int32) (_ : Unit) => False) (fun _ _ => True) (va_A [(h0, .inr (11, [.ref h1, .ref h2, .ref h3, .ref h4, .ref h5, .int 0, .int 0]))] sz)) (vx_X (fun (_ : Unit) => True) (fun (E : String) (_ : Unit) (t : State) => E = "java/lang/IndexOutOfBoundsException" ∧ va_P (dC, dI) vwCl [(h0, .inr (11, [.ref h1, .ref h2, .ref h3, .ref h4, .ref h5, .int 0, .int 0]))] t.heap ∧ va_K (dC, dI) vwCl [] t ∧ va_D (va_A [(h0, .inr (11, [.ref h1, .ref h2, .ref h3, .ref h4, .ref h5, .int 0, .int 0]))] sz) [(h0, .inr (11, [.ref h1, .ref h2, .ref h3, .ref h4, .ref h5, .int 0, .int 0]))]) (va_A [(h0, .inr (11, [.ref h1, .ref h2, .ref h3, .ref h4, .ref h5, .int 0, .int 0]))] sz)) 1 6 (va_A [(h0, .inr (11, [.ref h1, .ref h2, .ref h3, .ref h4, .ref h5, .int 0, .int 0]))] sz) := by
  refine vx_ofW (cc := cX11_peek) (maxL := 2) (ret := (some .int)) (by decide) rfl ?_
  intro p e s m args below meth c s₁ B hml htab hv
  obtain ⟨rfl, hsz, hP, hK, hD0, hE⟩ := hv
  have hx := B.exec
  have hb := B.bytes
  have hr := B.returns
  have hts0 := atoms_spec (ws := Cond.code yX11_peek cX11_peek 2 (some .int) :: lw_G) B.pre
  have hG : ∀ w ∈ lw_G, w.before _ s = true := fun w h => hts0 w (List.mem_cons_of_mem _ h)
  have hown : s.vm.findClass RX11 = some m.cls := findClass_of_methodNamed B.named
  have hlocks := B.notSynchronized
  subst hsz
  have hD := hD0.self (sz := s.heap.size)
  generalize hAe : va_A [(h0, .inr (11, [.ref h1, .ref h2, .ref h3, .ref h4, .ref h5, .int 0, .int 0]))] s.heap.size = A at hD hE ⊢
  have hA : ∀ q : Nat, s.heap.size ≤ q → A q := fun q h => by rw [← hAe]; exact Or.inr h
  have hS : va_S A s.heap s.heap [] := va_S.rf
  have hP : va_P (dC, dI) vwCl [(h0, .inr (11, [.ref h1, .ref h2, .ref h3, .ref h4, .ref h5, .int 0, .int 0]))] s.heap := hP
  have hl := lv_entry ([.ref h0, .int x0]) (n := 2) (Nat.le_of_ble_eq_true rfl)
  rw [lg_entry_eq]
  generalize (lg_sl ([.ref h0, .int x0]) ++ List.replicate (2 - (lg_sl ([.ref h0, .int x0])).length) Slot.unset).toArray = ls at hl ⊢
  have hl : lv_has ls 2 [(0, .ref h0), (1, .int x0)] := hl
  refine lv_iload_n hx hb dX11_peek_0 rfl (lv_at hl 1 rfl) ?_
  refine lv_if_lt (tgt := 10) hx hb dX11_peek_1 (by decide) (fun c => absurd c (iv_nlt ix0 (by decide : iv 0 0 0) (by decide))) (fun _ => ?_)
  refine lv_iload_n hx hb dX11_peek_4 rfl (lv_at hl 1 rfl) ?_
  refine lv_ldc hx hb hown (hG _ wd_1157) dX11_peek_5 ?_
  refine lv_icmp_lt (tgt := 20) hx hb dX11_peek_7 (by decide) (fun c => absurd c (iv_nlt ix0 (by decide : iv 65536 65536 65536) (by decide))) (fun _ => ?_)
  have hP9 := hP.sub (ws' := [(h0, .inr (11, [.ref h1, .ref h2, .ref h3, .ref h4, .ref h5, .int 0, .int 0]))]) [0] rfl
  have hD9 := hD.sub (ws' := [(h0, .inr (11, [.ref h1, .ref h2, .ref h3, .ref h4, .ref h5, .int 0, .int 0]))]) [0] (by decide) rfl
  have hK9 := hK.sub (tys' := []) [] rfl
  refine vx_throwS (own := RX11) (cls := "java/lang/IndexOutOfBoundsException") (text := evT4) (names := ["java/lang/RuntimeException", "java/lang/Exception"]) hx hb hst hown (by decide) (by decide) (hG _ wd_1126) (hG _ wd_24) (evR4 hE) (evA1 hE hG) evG1_106 hE.2.2.2.1 hE.2.2.2.2.1 hS (by rw [hml]; exact hl.1) dX11_peek_10 dX11_peek_13 dX11_peek_14 dX11_peek_16 dX11_peek_19 (fun x hx9 => (htab x hx9).elim) (by decide) (by decide) (by decide) (by decide) hlocks (fun t hvm9 hz9 hk9 => ⟨(), trivial, ⟨rfl, hP9.kept (fun k q hk => hk9 q.1 (vx_lt hP9 hk)), va_K.moved hvm9 hK9, hD9⟩, Nat.le_trans hS.1 hz9, fun q hq hA9 => (hk9 q (Nat.lt_of_lt_of_le hq hS.1)).trans (hS.2.1 q hq hA9)⟩) hS.2.2 (by decide) (by decide)
set_option maxHeartbeats 4000000 in
set_option maxRecDepth 100000 in
theorem cL_peek_2 (l : Launch) (hst : l.stackTraces = false) (dC : Nat → ClassId) (dI : Nat → Nat → Nat) (adK adV : Nat → Nat) (h0 h1 h2 h3 h4 h5 h6 : Nat) (sz : Nat) (x0 : Int32) (ix0 : iv x0 65536 2147483647) : Met l yL_peek (Cond.codeWith yL_peek cL_peek 4 (some .int) [(0, 9, 12, 19)] :: lw_G) ({ frames := 7, cells := 1, slots := 6, locals := 103 }) (va_Pc [.ref h0, .int x0, .ref h1] (fun U => U.heap.size = sz ∧ va_P (dC, dI) vwCl [(h0, .inr (11, [.ref h2, .ref h3, .ref h4, .ref h5, .ref h6, .int 0, .int 0]))] U.heap ∧ va_K (dC, dI) vwCl [] U ∧ va_D (fun _ => True) [(h0, .inr (11, [.ref h2, .ref h3, .ref h4, .ref h5, .ref h6, .int 0, .int 0]))] ∧ ev adK adV (va_A [(h0, .inr (11, [.ref h2, .ref h3, .ref h4, .ref h5, .ref h6, .int 0, .int 0]))] sz) U U.heap)) (va_Qi (fun (r : Int32) (u : Unit) => r = 1 ∧ True) (fun (u : Unit) (t : State) => va_P (dC, dI) vwCl [(h0, .inr (11, [.ref h2, .ref h3, .ref h4, .ref h5, .ref h6, .int 0, .int 0]))] t.heap ∧ va_K (dC, dI) vwCl [] t ∧ va_D (va_A [(h0, .inr (11, [.ref h2, .ref h3, .ref h4, .ref h5, .ref h6, .int 0, .int 0]))] sz) [(h0, .inr (11, [.ref h2, .ref h3, .ref h4, .ref h5, .ref h6, .int 0, .int 0]))]) (va_A [(h0, .inr (11, [.ref h2, .ref h3, .ref h4, .ref h5, .ref h6, .int 0, .int 0]))] sz)) 1 6 (va_A [(h0, .inr (11, [.ref h2, .ref h3, .ref h4, .ref h5, .ref h6, .int 0, .int 0]))] sz) := by
  refine va_MetW (cc := cL_peek) (maxL := 4) (ret := (some .int)) (by decide) rfl ?_
  intro p e s m args below meth c s₁ B hml hv
  obtain ⟨rfl, hsz, hP, hK, hD0, hE⟩ := hv
  have hx := B.exec
  have hb := B.bytes
  have hr := B.returns
  have hts0 := atoms_spec (ws := Cond.codeWith yL_peek cL_peek 4 (some .int) [(0, 9, 12, 19)] :: lw_G) B.pre
  have htab := vx_table (x := x) B (hts0 _ List.mem_cons_self)
  have hG : ∀ w ∈ lw_G, w.before _ s = true := fun w h => hts0 w (List.mem_cons_of_mem _ h)
  have hown : s.vm.findClass RL = some m.cls := findClass_of_methodNamed B.named
  have hlocks := B.notSynchronized
  subst hsz
  have hD := hD0.self (sz := s.heap.size)
  generalize hAe : va_A [(h0, .inr (11, [.ref h2, .ref h3, .ref h4, .ref h5, .ref h6, .int 0, .int 0]))] s.heap.size = A at hD hE ⊢
  have hA : ∀ q : Nat, s.heap.size ≤ q → A q := fun q h => by rw [← hAe]; exact Or.inr h
  have hS : va_S A s.heap s.heap [] := va_S.rf
  have hP : va_P (dC, dI) vwCl [(h0, .inr (11, [.ref h2, .ref h3, .ref h4, .ref h5, .ref h6, .int 0, .int 0]))] s.heap := hP
  have hl := lv_entry ([.ref h0, .int x0, .ref h1]) (n := 4) (Nat.le_of_ble_eq_true rfl)
  rw [lg_entry_eq]
  generalize (lg_sl ([.ref h0, .int x0, .ref h1]) ++ List.replicate (4 - (lg_sl ([.ref h0, .int x0, .ref h1])).length) Slot.unset).toArray = ls at hl ⊢
  have hl : lv_has ls 4 [(0, .ref h0), (1, .int x0), (2, .ref h1)] := hl
  refine lv_aload_n hx hb dL_peek_0 rfl (lv_at hl 2 rfl) ?_
  refine lv_iconst (v := 0) hx hb dL_peek_1 (by decide) ?_
  refine lv_aload_n hx hb dL_peek_2 rfl (lv_at hl 0 rfl) ?_
  refine lv_iload_n hx hb dL_peek_3 rfl (lv_at hl 1 rfl) ?_
  have hPc := hP.sub (ws' := [(h0, .inr (11, [.ref h2, .ref h3, .ref h4, .ref h5, .ref h6, .int 0, .int 0]))]) [0] rfl
  have hDc := hD.sub (ws' := [(h0, .inr (11, [.ref h2, .ref h3, .ref h4, .ref h5, .ref h6, .int 0, .int 0]))]) [0] (by decide) rfl
  have hKc := hK.sub (tys' := []) [] rfl
  have hFc := va_free (wc := [(h0, .inr (11, [.ref h2, .ref h3, .ref h4, .ref h5, .ref h6, .int 0, .int 0]))]) hD hS hA [0] rfl
  refine vx_calli (vx_runV (As := [.int x0]) (rest := [.int 0, .ref h1]) ⟨hx, hb, hml, hown, hG⟩ (cX11_peek_2 l hst dC dI adK adV h0 h2 h3 h4 h5 h6 s.heap.size x0 ix0) (cwV 1 hG (gV wd_1153 wd_1154 wd_1155 wd_1 wd_1156) rfl rfl rfl (by decide +kernel) ⟨Nat.le_of_ble_eq_true rfl, Nat.le_of_ble_eq_true rfl⟩) ⟨fun a U g mk q => by obtain ⟨q0, q1, qP, qK, qD, qE⟩ := q; exact ⟨q0, q1, qP, va_K.moved (u := U) (U := U.calling g mk a) (Vm.Alike.refl U.vm) qK, qD, qE.same rfl⟩, va_recv hKc hPc (ci := 11) (q0 := 0) rfl rfl, fun U hU hW => ⟨rfl, by rw [hU], by rw [hU]; exact hPc, va_K.moved hW.alike hKc, hDc.weaken (fun _ _ _ _ => trivial), by rw [hU]; exact ((hE.kept hS.2.1).narrow hFc).warm hW⟩⟩ rfl rfl hl.1 rfl (lv_room (Nat.le_of_ble_eq_true rfl)) dL_peek_4 ⟨by decide, by decide⟩) hS (fun q _ h => hFc q h) hFc (fun q _ h => hFc q h) (fun E9 ce q1 u9 t H1 locs ht hvm hpx hB hz1 hk1 hS hce hcv hcl => ?_) (fun r u t H1 locs ht hvm hw hB hz1 hk1 hS => hw.elim)
  obtain ⟨rfl, hP1, hK1, hD1⟩ := hB
  rw [ht] at hP1
  have hK1 := va_K.moved hvm.symm hK1
  obtain ⟨hP, hD⟩ := va_join (wr := []) (w1 := [(h0, .inr (11, [.ref h2, .ref h3, .ref h4, .ref h5, .ref h6, .int 0, .int 0]))]) hP hD [0] [] rfl rfl (by decide) (by decide) hk1 hFc hP1 hD1
  have hK := (hK.sub (tys' := []) [] rfl).app hK1
  generalize H1 = H at hP hS hce ⊢
  have hP : va_P (dC, dI) vwCl [(h0, .inr (11, [.ref h2, .ref h3, .ref h4, .ref h5, .ref h6, .int 0, .int 0]))] H := hP
  have hD : va_D A [(h0, .inr (11, [.ref h2, .ref h3, .ref h4, .ref h5, .ref h6, .int 0, .int 0]))] := hD
  have hK : va_K (dC, dI) vwCl [] s := hK
  refine vx_widen (k := 1) (n := 6) (by decide) (by decide) ?_
  refine vx_catch (name := "java/lang/IndexOutOfBoundsException") hown [] { startPc := 0, endPc := 9, handlerPc := 12, catchType := 19 } [] (by rw [htab]; rfl) (fun z hz => nomatch hz) (by decide) (by decide) (hG _ wd_1121) (evC1 hE) hce hcv hcl ?_
  refine lv_astore_n (lv' := [(3, .ref q1), (0, .ref h0), (1, .int x0), (2, .ref h1)]) hx hb dL_peek_12 rfl hl (by decide) rfl (fun ls hl => ?_)
  refine lv_iconst (v := 1) hx hb dL_peek_13 (by decide) ?_
  have hP9 := hP.sub (ws' := [(h0, .inr (11, [.ref h2, .ref h3, .ref h4, .ref h5, .ref h6, .int 0, .int 0]))]) [0] rfl
  have hD9 := hD.sub (ws' := [(h0, .inr (11, [.ref h2, .ref h3, .ref h4, .ref h5, .ref h6, .int 0, .int 0]))]) [0] (by decide) rfl
  have hK9 := hK.sub (tys' := []) [] rfl
  refine W.widen (k := 1) (n := 6) (by decide) (by decide) ?_
  exact W.iret (v := 1) hx hb hr (fun t ht hW => ⟨⟨1, (), rfl, ⟨rfl, trivial⟩, by rw [ht]; exact hP9, va_K.moved hW.alike hK9, hD9⟩, hS.F ht⟩) hS.2.2 dL_peek_14
set_option maxHeartbeats 4000000 in
set_option maxRecDepth 100000 in
theorem cX9_word_1 (l : Launch) (dC : Nat → ClassId) (dI : Nat → Nat → Nat) (h0 h1 h2 : Nat) (sz : Nat) (x0 : Int32) (ix0 : iv x0 288 303) : Met l yX9_word (Cond.code yX9_word cX9_word 2 (some .int) :: lw_G) ({ frames := 0, cells := 0, slots := 0, locals := 0 }) (va_Pc [.ref h0, .int x0] (fun U => U.heap.size = sz ∧ va_P (dC, dI) vwCl [(h0, .inr (9, [.ref h1, .ref h2, .int 0, .int 0, .int 0, .int 0]))] U.heap ∧ va_K (dC, dI) vwCl [] U ∧ va_D (fun _ => True) [(h0, .inr (9, [.ref h1, .ref h2, .int 0, .int 0, .int 0, .int 0]))])) (va_Qi (fun (r : Int32) (u : Unit) => r = 0 ∧ True) (fun (u : Unit) (t : State) => va_P (dC, dI) vwCl [(h0, .inr (9, [.ref h1, .ref h2, .int 0, .int 0, .int 0, .int 0]))] t.heap ∧ va_K (dC, dI) vwCl [] t ∧ va_D (va_A [(h0, .inr (9, [.ref h1, .ref h2, .int 0, .int 0, .int 0, .int 0]))] sz) [(h0, .inr (9, [.ref h1, .ref h2, .int 0, .int 0, .int 0, .int 0]))]) (va_A [(h0, .inr (9, [.ref h1, .ref h2, .int 0, .int 0, .int 0, .int 0]))] sz)) 0 0 (va_A [(h0, .inr (9, [.ref h1, .ref h2, .int 0, .int 0, .int 0, .int 0]))] sz) := by
  refine Met.ofW (cc := cX9_word) (maxL := 2) (ret := (some .int)) (by decide) rfl ?_
  intro p e s m args below meth c s₁ B hml hv
  obtain ⟨rfl, hsz, hP, hK, hD0⟩ := hv
  have hx := B.exec
  have hb := B.bytes
  have hr := B.returns
  have hts0 := atoms_spec (ws := Cond.code yX9_word cX9_word 2 (some .int) :: lw_G) B.pre
  have hG : ∀ w ∈ lw_G, w.before _ s = true := fun w h => hts0 w (List.mem_cons_of_mem _ h)
  have hown : s.vm.findClass RX9 = some m.cls := findClass_of_methodNamed B.named
  have hlocks := B.notSynchronized
  subst hsz
  have hD := hD0.self (sz := s.heap.size)
  generalize hAe : va_A [(h0, .inr (9, [.ref h1, .ref h2, .int 0, .int 0, .int 0, .int 0]))] s.heap.size = A at hD ⊢
  have hA : ∀ q : Nat, s.heap.size ≤ q → A q := fun q h => by rw [← hAe]; exact Or.inr h
  have hS : va_S A s.heap s.heap [] := va_S.rf
  have hP : va_P (dC, dI) vwCl [(h0, .inr (9, [.ref h1, .ref h2, .int 0, .int 0, .int 0, .int 0]))] s.heap := hP
  have hl := lv_entry ([.ref h0, .int x0]) (n := 2) (Nat.le_of_ble_eq_true rfl)
  rw [lg_entry_eq]
  generalize (lg_sl ([.ref h0, .int x0]) ++ List.replicate (2 - (lg_sl ([.ref h0, .int x0])).length) Slot.unset).toArray = ls at hl ⊢
  have hl : lv_has ls 2 [(0, .ref h0), (1, .int x0)] := hl
  refine lv_iload_n hx hb dX9_word_0 rfl (lv_at hl 1 rfl) ?_
  refine lv_sipush (v := 352) hx hb dX9_word_1 (by decide) ?_
  refine lv_icmp_ne (tgt := 12) hx hb dX9_word_4 (by decide) (fun _ => ?_) (fun c => absurd c (iv_ne ix0 (by decide : iv 352 352 352) (by decide)))
  refine lv_iload_n hx hb dX9_word_12 rfl (lv_at hl 1 rfl) ?_
  refine lv_sipush (v := 354) hx hb dX9_word_13 (by decide) ?_
  refine lv_icmp_lt (tgt := 39) hx hb dX9_word_16 (by decide) (fun _ => ?_) (fun c => absurd (iv_lt ix0 (by decide : iv 354 354 354) (by decide)) c)
  refine lv_iload_n hx hb dX9_word_39 rfl (lv_at hl 1 rfl) ?_
  refine lv_sipush (v := 368) hx hb dX9_word_40 (by decide) ?_
  refine lv_icmp_ne (tgt := 51) hx hb dX9_word_43 (by decide) (fun _ => ?_) (fun c => absurd c (iv_ne ix0 (by decide : iv 368 368 368) (by decide)))
  refine lv_iload_n hx hb dX9_word_51 rfl (lv_at hl 1 rfl) ?_
  refine lv_sipush (v := 370) hx hb dX9_word_52 (by decide) ?_
  refine lv_icmp_lt (tgt := 78) hx hb dX9_word_55 (by decide) (fun _ => ?_) (fun c => absurd (iv_lt ix0 (by decide : iv 370 370 370) (by decide)) c)
  refine lv_iconst (v := 0) hx hb dX9_word_78 (by decide) ?_
  have hP9 := hP.sub (ws' := [(h0, .inr (9, [.ref h1, .ref h2, .int 0, .int 0, .int 0, .int 0]))]) [0] rfl
  have hD9 := hD.sub (ws' := [(h0, .inr (9, [.ref h1, .ref h2, .int 0, .int 0, .int 0, .int 0]))]) [0] (by decide) rfl
  have hK9 := hK.sub (tys' := []) [] rfl
  exact W.iret (v := 0) hx hb hr (fun t ht hW => ⟨⟨0, (), rfl, ⟨rfl, trivial⟩, by rw [ht]; exact hP9, va_K.moved hW.alike hK9, hD9⟩, hS.F ht⟩) hS.2.2 dX9_word_79
set_option maxHeartbeats 4000000 in
set_option maxRecDepth 100000 in
theorem cX9_word_2 (l : Launch) (dC : Nat → ClassId) (dI : Nat → Nat → Nat) (h0 h1 h2 : Nat) (y0 y1 : ClassId) (sz : Nat) (x0 : Int32) (ix0 : iv x0 319 511) : Met l yX9_word (Cond.code yX9_word cX9_word 2 (some .int) :: lw_G) ({ frames := 0, cells := 0, slots := 0, locals := 0 }) (va_Pc [.ref h0, .int x0] (fun U => U.heap.size = sz ∧ va_P (dC, dI) vwCl [(h0, .inr (9, [.ref h1, .ref h2, .int 0, .int 0, .int 0, .int 0])), (h2, .inl (y0, 3, .inl (fun _ => 0))), (h1, .inl (y1, 3, .inl (fun _ => 0)))] U.heap ∧ va_K (dC, dI) vwCl [(y0, .int), (y1, .int)] U ∧ va_D (fun _ => True) [(h0, .inr (9, [.ref h1, .ref h2, .int 0, .int 0, .int 0, .int 0])), (h2, .inl (y0, 3, .inl (fun _ => 0))), (h1, .inl (y1, 3, .inl (fun _ => 0)))])) (va_Qi (fun (r : Int32) (u : Unit) => r = 0 ∧ True) (fun (u : Unit) (t : State) => va_P (dC, dI) vwCl [(h0, .inr (9, [.ref h1, .ref h2, .int 0, .int 0, .int 0, .int 0])), (h2, .inl (y0, 3, .inl (fun _ => 0))), (h1, .inl (y1, 3, .inl (fun _ => 0)))] t.heap ∧ va_K (dC, dI) vwCl [(y0, .int), (y1, .int)] t ∧ va_D (va_A [(h0, .inr (9, [.ref h1, .ref h2, .int 0, .int 0, .int 0, .int 0])), (h2, .inl (y0, 3, .inl (fun _ => 0))), (h1, .inl (y1, 3, .inl (fun _ => 0)))] sz) [(h0, .inr (9, [.ref h1, .ref h2, .int 0, .int 0, .int 0, .int 0])), (h2, .inl (y0, 3, .inl (fun _ => 0))), (h1, .inl (y1, 3, .inl (fun _ => 0)))]) (va_A [(h0, .inr (9, [.ref h1, .ref h2, .int 0, .int 0, .int 0, .int 0])), (h2, .inl (y0, 3, .inl (fun _ => 0))), (h1, .inl (y1, 3, .inl (fun _ => 0)))] sz)) 0 0 (va_A [(h0, .inr (9, [.ref h1, .ref h2, .int 0, .int 0, .int 0, .int 0])), (h2, .inl (y0, 3, .inl (fun _ => 0))), (h1, .inl (y1, 3, .inl (fun _ => 0)))] sz) := by
  refine Met.ofW (cc := cX9_word) (maxL := 2) (ret := (some .int)) (by decide) rfl ?_
  intro p e s m args below meth c s₁ B hml hv
  obtain ⟨rfl, hsz, hP, hK, hD0⟩ := hv
  have hx := B.exec
  have hb := B.bytes
  have hr := B.returns
  have hts0 := atoms_spec (ws := Cond.code yX9_word cX9_word 2 (some .int) :: lw_G) B.pre
  have hG : ∀ w ∈ lw_G, w.before _ s = true := fun w h => hts0 w (List.mem_cons_of_mem _ h)
  have hown : s.vm.findClass RX9 = some m.cls := findClass_of_methodNamed B.named
  have hlocks := B.notSynchronized
  subst hsz
  have hD := hD0.self (sz := s.heap.size)
  generalize hAe : va_A [(h0, .inr (9, [.ref h1, .ref h2, .int 0, .int 0, .int 0, .int 0])), (h2, .inl (y0, 3, .inl (fun _ => 0))), (h1, .inl (y1, 3, .inl (fun _ => 0)))] s.heap.size = A at hD ⊢
  have hA : ∀ q : Nat, s.heap.size ≤ q → A q := fun q h => by rw [← hAe]; exact Or.inr h
  have hS : va_S A s.heap s.heap [] := va_S.rf
  have hP : va_P (dC, dI) vwCl [(h0, .inr (9, [.ref h1, .ref h2, .int 0, .int 0, .int 0, .int 0])), (h2, .inl (y0, 3, .inl (fun _ => 0))), (h1, .inl (y1, 3, .inl (fun _ => 0)))] s.heap := hP
  have hl := lv_entry ([.ref h0, .int x0]) (n := 2) (Nat.le_of_ble_eq_true rfl)
  rw [lg_entry_eq]
  generalize (lg_sl ([.ref h0, .int x0]) ++ List.replicate (2 - (lg_sl ([.ref h0, .int x0])).length) Slot.unset).toArray = ls at hl ⊢
  have hl : lv_has ls 2 [(0, .ref h0), (1, .int x0)] := hl
  refine lv_iload_n hx hb dX9_word_0 rfl (lv_at hl 1 rfl) ?_
  refine lv_sipush (v := 352) hx hb dX9_word_1 (by decide) ?_
  refine lv_icmp_ne (tgt := 12) hx hb dX9_word_4 (by decide) (fun c1 => ?_) (fun c1 => ?_)
  · skip
    refine lv_iload_n hx hb dX9_word_12 rfl (lv_at hl 1 rfl) ?_
    refine lv_sipush (v := 354) hx hb dX9_word_13 (by decide) ?_
    refine lv_icmp_lt (tgt := 39) hx hb dX9_word_16 (by decide) (fun c2 => ?_) (fun c2 => ?_)
    · skip
      have j3 : iv x0 319 353 := iv_ltL ix0 (by decide : iv 354 354 354) c2 (by decide)
      refine lv_iload_n hx hb dX9_word_39 rfl (lv_at hl 1 rfl) ?_
      refine lv_sipush (v := 368) hx hb dX9_word_40 (by decide) ?_
      refine lv_icmp_ne (tgt := 51) hx hb dX9_word_43 (by decide) (fun _ => ?_) (fun c => absurd c (iv_ne j3 (by decide : iv 368 368 368) (by decide)))
      refine lv_iload_n hx hb dX9_word_51 rfl (lv_at hl 1 rfl) ?_
      refine lv_sipush (v := 370) hx hb dX9_word_52 (by decide) ?_
      refine lv_icmp_lt (tgt := 78) hx hb dX9_word_55 (by decide) (fun _ => ?_) (fun c => absurd (iv_lt j3 (by decide : iv 370 370 370) (by decide)) c)
      refine lv_iconst (v := 0) hx hb dX9_word_78 (by decide) ?_
      have hP9 := hP.sub (ws' := [(h0, .inr (9, [.ref h1, .ref h2, .int 0, .int 0, .int 0, .int 0])), (h2, .inl (y0, 3, .inl (fun _ => 0))), (h1, .inl (y1, 3, .inl (fun _ => 0)))]) [0, 1, 2] rfl
      have hD9 := hD.sub (ws' := [(h0, .inr (9, [.ref h1, .ref h2, .int 0, .int 0, .int 0, .int 0])), (h2, .inl (y0, 3, .inl (fun _ => 0))), (h1, .inl (y1, 3, .inl (fun _ => 0)))]) [0, 1, 2] (by decide) rfl
      have hK9 := hK.sub (tys' := [(y0, .int), (y1, .int)]) [0, 1] rfl
      exact W.iret (v := 0) hx hb hr (fun t ht hW => ⟨⟨0, (), rfl, ⟨rfl, trivial⟩, by rw [ht]; exact hP9, va_K.moved hW.alike hK9, hD9⟩, hS.F ht⟩) hS.2.2 dX9_word_79
    · skip
      have j4 : iv x0 354 511 := iv_nltL ix0 (by decide : iv 354 354 354) c2 (by decide)
      refine lv_iload_n hx hb dX9_word_19 rfl (lv_at hl 1 rfl) ?_
      refine lv_sipush (v := 358) hx hb dX9_word_20 (by decide) ?_
      refine lv_icmp_gt (tgt := 39) hx hb dX9_word_23 (by decide) (fun c5 => ?_) (fun c5 => ?_)
      · skip
        have j6 : iv x0 359 511 := iv_ltR (by decide : iv 358 358 358) j4 c5 (by decide)
        refine lv_iload_n hx hb dX9_word_39 rfl (lv_at hl 1 rfl) ?_
        refine lv_sipush (v := 368) hx hb dX9_word_40 (by decide) ?_
        refine lv_icmp_ne (tgt := 51) hx hb dX9_word_43 (by decide) (fun c7 => ?_) (fun c7 => ?_)
        · skip
          refine lv_iload_n hx hb dX9_word_51 rfl (lv_at hl 1 rfl) ?_
          refine lv_sipush (v := 370) hx hb dX9_word_52 (by decide) ?_
          refine lv_icmp_lt (tgt := 78) hx hb dX9_word_55 (by decide) (fun c8 => ?_) (fun c8 => ?_)
          · skip
            have j9 : iv x0 359 369 := iv_ltL j6 (by decide : iv 370 370 370) c8 (by decide)
            refine lv_iconst (v := 0) hx hb dX9_word_78 (by decide) ?_
            have hP9 := hP.sub (ws' := [(h0, .inr (9, [.ref h1, .ref h2, .int 0, .int 0, .int 0, .int 0])), (h2, .inl (y0, 3, .inl (fun _ => 0))), (h1, .inl (y1, 3, .inl (fun _ => 0)))]) [0, 1, 2] rfl
            have hD9 := hD.sub (ws' := [(h0, .inr (9, [.ref h1, .ref h2, .int 0, .int 0, .int 0, .int 0])), (h2, .inl (y0, 3, .inl (fun _ => 0))), (h1, .inl (y1, 3, .inl (fun _ => 0)))]) [0, 1, 2] (by decide) rfl
            have hK9 := hK.sub (tys' := [(y0, .int), (y1, .int)]) [0, 1] rfl
            exact W.iret (v := 0) hx hb hr (fun t ht hW => ⟨⟨0, (), rfl, ⟨rfl, trivial⟩, by rw [ht]; exact hP9, va_K.moved hW.alike hK9, hD9⟩, hS.F ht⟩) hS.2.2 dX9_word_79
          · skip
            have j10 : iv x0 370 511 := iv_nltL j6 (by decide : iv 370 370 370) c8 (by decide)
            refine lv_iload_n hx hb dX9_word_58 rfl (lv_at hl 1 rfl) ?_
            refine lv_sipush (v := 374) hx hb dX9_word_59 (by decide) ?_
            refine lv_icmp_gt (tgt := 78) hx hb dX9_word_62 (by decide) (fun c11 => ?_) (fun c11 => ?_)
            · skip
              have j12 : iv x0 375 511 := iv_ltR (by decide : iv 374 374 374) j10 c11 (by decide)
              refine lv_iconst (v := 0) hx hb dX9_word_78 (by decide) ?_
              have hP9 := hP.sub (ws' := [(h0, .inr (9, [.ref h1, .ref h2, .int 0, .int 0, .int 0, .int 0])), (h2, .inl (y0, 3, .inl (fun _ => 0))), (h1, .inl (y1, 3, .inl (fun _ => 0)))]) [0, 1, 2] rfl
              have hD9 := hD.sub (ws' := [(h0, .inr (9, [.ref h1, .ref h2, .int 0, .int 0, .int 0, .int 0])), (h2, .inl (y0, 3, .inl (fun _ => 0))), (h1, .inl (y1, 3, .inl (fun _ => 0)))]) [0, 1, 2] (by decide) rfl
              have hK9 := hK.sub (tys' := [(y0, .int), (y1, .int)]) [0, 1] rfl
              exact W.iret (v := 0) hx hb hr (fun t ht hW => ⟨⟨0, (), rfl, ⟨rfl, trivial⟩, by rw [ht]; exact hP9, va_K.moved hW.alike hK9, hD9⟩, hS.F ht⟩) hS.2.2 dX9_word_79
            · skip
              have j13 : iv x0 370 374 := iv_nltR (by decide : iv 374 374 374) j10 c11 (by decide)
              refine lv_aload_n hx hb dX9_word_65 rfl (lv_at hl 0 rfl) ?_
              refine va_get (D := (dC, dI)) (ci := 9) (v := .ref h2) (C := RX9) (T := TX9) (N := 6) hx hb hG inGX9 hown hK hP 0 rfl rfl 1 (by decide) (hG _ wd_96) (fun _ h9 => h9) rfl dX9_word_66 ?_
              refine lv_iload_n hx hb dX9_word_69 rfl (lv_at hl 1 rfl) ?_
              refine lv_sipush (v := 370) hx hb dX9_word_70 (by decide) ?_
              refine lv_isub hx hb dX9_word_73 ?_
              refine lv_topi (fun v14 ev14 => ?_)
              have iv14 : iv v14 0 4 := iv_eq ev14 (iv_sub j13 (by decide : iv 370 370 370) (by decide) (by decide))
              refine lv_iconst (v := 1) hx hb dX9_word_74 (by decide) ?_
              refine lv_ishr hx hb dX9_word_75 ?_
              refine lv_topi (fun v15 ev15 => ?_)
              have iv15 : iv v15 0 2 := iv_eq ev15 (iv_shr 1 (by decide) iv14 (by decide) (by decide))
              refine va_iald hx hb hK hP 1 0 rfl rfl (iv_in iv15 (by decide) (by decide) : vp_in v15 3) dX9_word_76 ?_
              refine lv_val (y := 0) rfl ?_
              have hP9 := hP.sub (ws' := [(h0, .inr (9, [.ref h1, .ref h2, .int 0, .int 0, .int 0, .int 0])), (h2, .inl (y0, 3, .inl (fun _ => 0))), (h1, .inl (y1, 3, .inl (fun _ => 0)))]) [0, 1, 2] rfl
              have hD9 := hD.sub (ws' := [(h0, .inr (9, [.ref h1, .ref h2, .int 0, .int 0, .int 0, .int 0])), (h2, .inl (y0, 3, .inl (fun _ => 0))), (h1, .inl (y1, 3, .inl (fun _ => 0)))]) [0, 1, 2] (by decide) rfl
              have hK9 := hK.sub (tys' := [(y0, .int), (y1, .int)]) [0, 1] rfl
              exact W.iret (v := 0) hx hb hr (fun t ht hW => ⟨⟨0, (), rfl, ⟨rfl, trivial⟩, by rw [ht]; exact hP9, va_K.moved hW.alike hK9, hD9⟩, hS.F ht⟩) hS.2.2 dX9_word_77
        · skip
          subst c7
          refine lv_aload_n hx hb dX9_word_46 rfl (lv_at hl 0 rfl) ?_
          refine va_get (D := (dC, dI)) (ci := 9) (v := .int 0) (C := RX9) (T := TX9) (N := 6) hx hb hG inGX9 hown hK hP 0 rfl rfl 3 (by decide) (hG _ wd_98) (fun _ h9 => h9) rfl dX9_word_47 ?_
          have hP9 := hP.sub (ws' := [(h0, .inr (9, [.ref h1, .ref h2, .int 0, .int 0, .int 0, .int 0])), (h2, .inl (y0, 3, .inl (fun _ => 0))), (h1, .inl (y1, 3, .inl (fun _ => 0)))]) [0, 1, 2] rfl
          have hD9 := hD.sub (ws' := [(h0, .inr (9, [.ref h1, .ref h2, .int 0, .int 0, .int 0, .int 0])), (h2, .inl (y0, 3, .inl (fun _ => 0))), (h1, .inl (y1, 3, .inl (fun _ => 0)))]) [0, 1, 2] (by decide) rfl
          have hK9 := hK.sub (tys' := [(y0, .int), (y1, .int)]) [0, 1] rfl
          exact W.iret (v := 0) hx hb hr (fun t ht hW => ⟨⟨0, (), rfl, ⟨rfl, trivial⟩, by rw [ht]; exact hP9, va_K.moved hW.alike hK9, hD9⟩, hS.F ht⟩) hS.2.2 dX9_word_50
      · skip
        have j16 : iv x0 354 358 := iv_nltR (by decide : iv 358 358 358) j4 c5 (by decide)
        refine lv_aload_n hx hb dX9_word_26 rfl (lv_at hl 0 rfl) ?_
        refine va_get (D := (dC, dI)) (ci := 9) (v := .ref h1) (C := RX9) (T := TX9) (N := 6) hx hb hG inGX9 hown hK hP 0 rfl rfl 0 (by decide) (hG _ wd_95) (fun _ h9 => h9) rfl dX9_word_27 ?_
        refine lv_iload_n hx hb dX9_word_30 rfl (lv_at hl 1 rfl) ?_
        refine lv_sipush (v := 354) hx hb dX9_word_31 (by decide) ?_
        refine lv_isub hx hb dX9_word_34 ?_
        refine lv_topi (fun v17 ev17 => ?_)
        have iv17 : iv v17 0 4 := iv_eq ev17 (iv_sub j16 (by decide : iv 354 354 354) (by decide) (by decide))
        refine lv_iconst (v := 1) hx hb dX9_word_35 (by decide) ?_
        refine lv_ishr hx hb dX9_word_36 ?_
        refine lv_topi (fun v18 ev18 => ?_)
        have iv18 : iv v18 0 2 := iv_eq ev18 (iv_shr 1 (by decide) iv17 (by decide) (by decide))
        refine va_iald hx hb hK hP 2 1 rfl rfl (iv_in iv18 (by decide) (by decide) : vp_in v18 3) dX9_word_37 ?_
        refine lv_val (y := 0) rfl ?_
        have hP9 := hP.sub (ws' := [(h0, .inr (9, [.ref h1, .ref h2, .int 0, .int 0, .int 0, .int 0])), (h2, .inl (y0, 3, .inl (fun _ => 0))), (h1, .inl (y1, 3, .inl (fun _ => 0)))]) [0, 1, 2] rfl
        have hD9 := hD.sub (ws' := [(h0, .inr (9, [.ref h1, .ref h2, .int 0, .int 0, .int 0, .int 0])), (h2, .inl (y0, 3, .inl (fun _ => 0))), (h1, .inl (y1, 3, .inl (fun _ => 0)))]) [0, 1, 2] (by decide) rfl
        have hK9 := hK.sub (tys' := [(y0, .int), (y1, .int)]) [0, 1] rfl
        exact W.iret (v := 0) hx hb hr (fun t ht hW => ⟨⟨0, (), rfl, ⟨rfl, trivial⟩, by rw [ht]; exact hP9, va_K.moved hW.alike hK9, hD9⟩, hS.F ht⟩) hS.2.2 dX9_word_38
  · skip
    subst c1
    refine lv_aload_n hx hb dX9_word_7 rfl (lv_at hl 0 rfl) ?_
    refine va_get (D := (dC, dI)) (ci := 9) (v := .int 0) (C := RX9) (T := TX9) (N := 6) hx hb hG inGX9 hown hK hP 0 rfl rfl 2 (by decide) (hG _ wd_97) (fun _ h9 => h9) rfl dX9_word_8 ?_
    have hP9 := hP.sub (ws' := [(h0, .inr (9, [.ref h1, .ref h2, .int 0, .int 0, .int 0, .int 0])), (h2, .inl (y0, 3, .inl (fun _ => 0))), (h1, .inl (y1, 3, .inl (fun _ => 0)))]) [0, 1, 2] rfl
    have hD9 := hD.sub (ws' := [(h0, .inr (9, [.ref h1, .ref h2, .int 0, .int 0, .int 0, .int 0])), (h2, .inl (y0, 3, .inl (fun _ => 0))), (h1, .inl (y1, 3, .inl (fun _ => 0)))]) [0, 1, 2] (by decide) rfl
    have hK9 := hK.sub (tys' := [(y0, .int), (y1, .int)]) [0, 1] rfl
    exact W.iret (v := 0) hx hb hr (fun t ht hW => ⟨⟨0, (), rfl, ⟨rfl, trivial⟩, by rw [ht]; exact hP9, va_K.moved hW.alike hK9, hD9⟩, hS.F ht⟩) hS.2.2 dX9_word_11
set_option maxHeartbeats 4000000 in
set_option maxRecDepth 100000 in
theorem cX5_word_1 (l : Launch) (dC : Nat → ClassId) (dI : Nat → Nat → Nat) (h0 : Nat) (sz : Nat) (x0 : Int32) (ix0 : iv x0 304 318) : Met l yX5_word (Cond.code yX5_word cX5_word 2 (some .int) :: lw_G) ({ frames := 0, cells := 0, slots := 0, locals := 0 }) (va_Pc [.ref h0, .int x0] (fun U => U.heap.size = sz ∧ va_P (dC, dI) vwCl [(h0, .inr (5, [.int 304, .int 0, .int 0, .int 0, .int 0, .int 0]))] U.heap ∧ va_K (dC, dI) vwCl [] U ∧ va_D (fun _ => True) [(h0, .inr (5, [.int 304, .int 0, .int 0, .int 0, .int 0, .int 0]))])) (va_Qi (fun (r : Int32) (u : Unit) => r = 0 ∧ True) (fun (u : Unit) (t : State) => va_P (dC, dI) vwCl [(h0, .inr (5, [.int 304, .int 0, .int 0, .int 0, .int 0, .int 0]))] t.heap ∧ va_K (dC, dI) vwCl [] t ∧ va_D (va_A [(h0, .inr (5, [.int 304, .int 0, .int 0, .int 0, .int 0, .int 0]))] sz) [(h0, .inr (5, [.int 304, .int 0, .int 0, .int 0, .int 0, .int 0]))]) (va_A [(h0, .inr (5, [.int 304, .int 0, .int 0, .int 0, .int 0, .int 0]))] sz)) 0 0 (va_A [(h0, .inr (5, [.int 304, .int 0, .int 0, .int 0, .int 0, .int 0]))] sz) := by
  refine Met.ofW (cc := cX5_word) (maxL := 2) (ret := (some .int)) (by decide) rfl ?_
  intro p e s m args below meth c s₁ B hml hv
  obtain ⟨rfl, hsz, hP, hK, hD0⟩ := hv
  have hx := B.exec
  have hb := B.bytes
  have hr := B.returns
  have hts0 := atoms_spec (ws := Cond.code yX5_word cX5_word 2 (some .int) :: lw_G) B.pre
  have hG : ∀ w ∈ lw_G, w.before _ s = true := fun w h => hts0 w (List.mem_cons_of_mem _ h)
  have hown : s.vm.findClass RX5 = some m.cls := findClass_of_methodNamed B.named
  have hlocks := B.notSynchronized
  subst hsz
  have hD := hD0.self (sz := s.heap.size)
  generalize hAe : va_A [(h0, .inr (5, [.int 304, .int 0, .int 0, .int 0, .int 0, .int 0]))] s.heap.size = A at hD ⊢
  have hA : ∀ q : Nat, s.heap.size ≤ q → A q := fun q h => by rw [← hAe]; exact Or.inr h
  have hS : va_S A s.heap s.heap [] := va_S.rf
  have hP : va_P (dC, dI) vwCl [(h0, .inr (5, [.int 304, .int 0, .int 0, .int 0, .int 0, .int 0]))] s.heap := hP
  have hl := lv_entry ([.ref h0, .int x0]) (n := 2) (Nat.le_of_ble_eq_true rfl)
  rw [lg_entry_eq]
  generalize (lg_sl ([.ref h0, .int x0]) ++ List.replicate (2 - (lg_sl ([.ref h0, .int x0])).length) Slot.unset).toArray = ls at hl ⊢
  have hl : lv_has ls 2 [(0, .ref h0), (1, .int x0)] := hl
  refine lv_iload_n hx hb dX5_word_0 rfl (lv_at hl 1 rfl) ?_
  have s1x : x0 = 304 ∨ x0 = 305 ∨ x0 = 306 ∨ x0 = 307 ∨ x0 = 308 ∨ x0 = 309 ∨ x0 = 310 ∨ x0 = 311 ∨ x0 = 312 ∨ x0 = 313 ∨ x0 = 314 ∨ x0 = 315 ∨ x0 = 316 ∨ x0 = 317 ∨ x0 = 318 := by
    have := ix0
    have : x0.toInt = 304 ∨ x0.toInt = 305 ∨ x0.toInt = 306 ∨ x0.toInt = 307 ∨ x0.toInt = 308 ∨ x0.toInt = 309 ∨ x0.toInt = 310 ∨ x0.toInt = 311 ∨ x0.toInt = 312 ∨ x0.toInt = 313 ∨ x0.toInt = 314 ∨ x0.toInt = 315 ∨ x0.toInt = 316 ∨ x0.toInt = 317 ∨ x0.toInt = 318 := by omega
    rcases this with q | q | q | q | q | q | q | q | q | q | q | q | q | q | q
    · exact Or.inl (Int32.toInt_inj.mp q)
    · exact Or.inr (Or.inl (Int32.toInt_inj.mp q))
    · exact Or.inr (Or.inr (Or.inl (Int32.toInt_inj.mp q)))
    · exact Or.inr (Or.inr (Or.inr (Or.inl (Int32.toInt_inj.mp q))))
    · exact Or.inr (Or.inr (Or.inr (Or.inr (Or.inl (Int32.toInt_inj.mp q)))))
    · exact Or.inr (Or.inr (Or.inr (Or.inr (Or.inr (Or.inl (Int32.toInt_inj.mp q))))))
    · exact Or.inr (Or.inr (Or.inr (Or.inr (Or.inr (Or.inr (Or.inl (Int32.toInt_inj.mp q)))))))
    · exact Or.inr (Or.inr (Or.inr (Or.inr (Or.inr (Or.inr (Or.inr (Or.inl (Int32.toInt_inj.mp q))))))))
    · exact Or.inr (Or.inr (Or.inr (Or.inr (Or.inr (Or.inr (Or.inr (Or.inr (Or.inl (Int32.toInt_inj.mp q)))))))))
    · exact Or.inr (Or.inr (Or.inr (Or.inr (Or.inr (Or.inr (Or.inr (Or.inr (Or.inr (Or.inl (Int32.toInt_inj.mp q))))))))))
    · exact Or.inr (Or.inr (Or.inr (Or.inr (Or.inr (Or.inr (Or.inr (Or.inr (Or.inr (Or.inr (Or.inl (Int32.toInt_inj.mp q)))))))))))
    · exact Or.inr (Or.inr (Or.inr (Or.inr (Or.inr (Or.inr (Or.inr (Or.inr (Or.inr (Or.inr (Or.inr (Or.inl (Int32.toInt_inj.mp q))))))))))))
    · exact Or.inr (Or.inr (Or.inr (Or.inr (Or.inr (Or.inr (Or.inr (Or.inr (Or.inr (Or.inr (Or.inr (Or.inr (Or.inl (Int32.toInt_inj.mp q)))))))))))))
    · exact Or.inr (Or.inr (Or.inr (Or.inr (Or.inr (Or.inr (Or.inr (Or.inr (Or.inr (Or.inr (Or.inr (Or.inr (Or.inr (Or.inl (Int32.toInt_inj.mp q))))))))))))))
    · exact Or.inr (Or.inr (Or.inr (Or.inr (Or.inr (Or.inr (Or.inr (Or.inr (Or.inr (Or.inr (Or.inr (Or.inr (Or.inr (Or.inr ((Int32.toInt_inj.mp q)))))))))))))))
  rcases s1x with rfl | rfl | rfl | rfl | rfl | rfl | rfl | rfl | rfl | rfl | rfl | rfl | rfl | rfl | rfl
  · skip
    refine lv_tableIn (off := 75) (tgt := 76) hx hb dX5_word_1 (by decide) (by decide) (by decide) (by decide) ?_
    refine lv_aload_n hx hb dX5_word_76 rfl (lv_at hl 0 rfl) ?_
    refine va_get (D := (dC, dI)) (ci := 5) (v := .int 0) (C := RX5) (T := TX5) (N := 6) hx hb hG inGX5 hown hK hP 0 rfl rfl 1 (by decide) (hG _ wd_71) (fun _ h9 => h9) rfl dX5_word_77 ?_
    have hP9 := hP.sub (ws' := [(h0, .inr (5, [.int 304, .int 0, .int 0, .int 0, .int 0, .int 0]))]) [0] rfl
    have hD9 := hD.sub (ws' := [(h0, .inr (5, [.int 304, .int 0, .int 0, .int 0, .int 0, .int 0]))]) [0] (by decide) rfl
    have hK9 := hK.sub (tys' := []) [] rfl
    exact W.iret (v := 0) hx hb hr (fun t ht hW => ⟨⟨0, (), rfl, ⟨rfl, trivial⟩, by rw [ht]; exact hP9, va_K.moved hW.alike hK9, hD9⟩, hS.F ht⟩) hS.2.2 dX5_word_80
  · skip
    refine lv_tableIn (off := 100) (tgt := 101) hx hb dX5_word_1 (by decide) (by decide) (by decide) (by decide) ?_
    refine lv_iconst (v := 0) hx hb dX5_word_101 (by decide) ?_
    have hP9 := hP.sub (ws' := [(h0, .inr (5, [.int 304, .int 0, .int 0, .int 0, .int 0, .int 0]))]) [0] rfl
    have hD9 := hD.sub (ws' := [(h0, .inr (5, [.int 304, .int 0, .int 0, .int 0, .int 0, .int 0]))]) [0] (by decide) rfl
    have hK9 := hK.sub (tys' := []) [] rfl
    exact W.iret (v := 0) hx hb hr (fun t ht hW => ⟨⟨0, (), rfl, ⟨rfl, trivial⟩, by rw [ht]; exact hP9, va_K.moved hW.alike hK9, hD9⟩, hS.F ht⟩) hS.2.2 dX5_word_102
  · skip
    refine lv_tableIn (off := 75) (tgt := 76) hx hb dX5_word_1 (by decide) (by decide) (by decide) (by decide) ?_
    refine lv_aload_n hx hb dX5_word_76 rfl (lv_at hl 0 rfl) ?_
    refine va_get (D := (dC, dI)) (ci := 5) (v := .int 0) (C := RX5) (T := TX5) (N := 6) hx hb hG inGX5 hown hK hP 0 rfl rfl 1 (by decide) (hG _ wd_71) (fun _ h9 => h9) rfl dX5_word_77 ?_
    have hP9 := hP.sub (ws' := [(h0, .inr (5, [.int 304, .int 0, .int 0, .int 0, .int 0, .int 0]))]) [0] rfl
    have hD9 := hD.sub (ws' := [(h0, .inr (5, [.int 304, .int 0, .int 0, .int 0, .int 0, .int 0]))]) [0] (by decide) rfl
    have hK9 := hK.sub (tys' := []) [] rfl
    exact W.iret (v := 0) hx hb hr (fun t ht hW => ⟨⟨0, (), rfl, ⟨rfl, trivial⟩, by rw [ht]; exact hP9, va_K.moved hW.alike hK9, hD9⟩, hS.F ht⟩) hS.2.2 dX5_word_80
  · skip
    refine lv_tableIn (off := 100) (tgt := 101) hx hb dX5_word_1 (by decide) (by decide) (by decide) (by decide) ?_
    refine lv_iconst (v := 0) hx hb dX5_word_101 (by decide) ?_
    have hP9 := hP.sub (ws' := [(h0, .inr (5, [.int 304, .int 0, .int 0, .int 0, .int 0, .int 0]))]) [0] rfl
    have hD9 := hD.sub (ws' := [(h0, .inr (5, [.int 304, .int 0, .int 0, .int 0, .int 0, .int 0]))]) [0] (by decide) rfl
    have hK9 := hK.sub (tys' := []) [] rfl
    exact W.iret (v := 0) hx hb hr (fun t ht hW => ⟨⟨0, (), rfl, ⟨rfl, trivial⟩, by rw [ht]; exact hP9, va_K.moved hW.alike hK9, hD9⟩, hS.F ht⟩) hS.2.2 dX5_word_102
  · skip
    refine lv_tableIn (off := 75) (tgt := 76) hx hb dX5_word_1 (by decide) (by decide) (by decide) (by decide) ?_
    refine lv_aload_n hx hb dX5_word_76 rfl (lv_at hl 0 rfl) ?_
    refine va_get (D := (dC, dI)) (ci := 5) (v := .int 0) (C := RX5) (T := TX5) (N := 6) hx hb hG inGX5 hown hK hP 0 rfl rfl 1 (by decide) (hG _ wd_71) (fun _ h9 => h9) rfl dX5_word_77 ?_
    have hP9 := hP.sub (ws' := [(h0, .inr (5, [.int 304, .int 0, .int 0, .int 0, .int 0, .int 0]))]) [0] rfl
    have hD9 := hD.sub (ws' := [(h0, .inr (5, [.int 304, .int 0, .int 0, .int 0, .int 0, .int 0]))]) [0] (by decide) rfl
    have hK9 := hK.sub (tys' := []) [] rfl
    exact W.iret (v := 0) hx hb hr (fun t ht hW => ⟨⟨0, (), rfl, ⟨rfl, trivial⟩, by rw [ht]; exact hP9, va_K.moved hW.alike hK9, hD9⟩, hS.F ht⟩) hS.2.2 dX5_word_80
  · skip
    refine lv_tableIn (off := 100) (tgt := 101) hx hb dX5_word_1 (by decide) (by decide) (by decide) (by decide) ?_
    refine lv_iconst (v := 0) hx hb dX5_word_101 (by decide) ?_
    have hP9 := hP.sub (ws' := [(h0, .inr (5, [.int 304, .int 0, .int 0, .int 0, .int 0, .int 0]))]) [0] rfl
    have hD9 := hD.sub (ws' := [(h0, .inr (5, [.int 304, .int 0, .int 0, .int 0, .int 0, .int 0]))]) [0] (by decide) rfl
    have hK9 := hK.sub (tys' := []) [] rfl
    exact W.iret (v := 0) hx hb hr (fun t ht hW => ⟨⟨0, (), rfl, ⟨rfl, trivial⟩, by rw [ht]; exact hP9, va_K.moved hW.alike hK9, hD9⟩, hS.F ht⟩) hS.2.2 dX5_word_102
  · skip
    refine lv_tableIn (off := 100) (tgt := 101) hx hb dX5_word_1 (by decide) (by decide) (by decide) (by decide) ?_
    refine lv_iconst (v := 0) hx hb dX5_word_101 (by decide) ?_
    have hP9 := hP.sub (ws' := [(h0, .inr (5, [.int 304, .int 0, .int 0, .int 0, .int 0, .int 0]))]) [0] rfl
    have hD9 := hD.sub (ws' := [(h0, .inr (5, [.int 304, .int 0, .int 0, .int 0, .int 0, .int 0]))]) [0] (by decide) rfl
    have hK9 := hK.sub (tys' := []) [] rfl
    exact W.iret (v := 0) hx hb hr (fun t ht hW => ⟨⟨0, (), rfl, ⟨rfl, trivial⟩, by rw [ht]; exact hP9, va_K.moved hW.alike hK9, hD9⟩, hS.F ht⟩) hS.2.2 dX5_word_102
  · skip
    refine lv_tableIn (off := 100) (tgt := 101) hx hb dX5_word_1 (by decide) (by decide) (by decide) (by decide) ?_
    refine lv_iconst (v := 0) hx hb dX5_word_101 (by decide) ?_
    have hP9 := hP.sub (ws' := [(h0, .inr (5, [.int 304, .int 0, .int 0, .int 0, .int 0, .int 0]))]) [0] rfl
    have hD9 := hD.sub (ws' := [(h0, .inr (5, [.int 304, .int 0, .int 0, .int 0, .int 0, .int 0]))]) [0] (by decide) rfl
    have hK9 := hK.sub (tys' := []) [] rfl
    exact W.iret (v := 0) hx hb hr (fun t ht hW => ⟨⟨0, (), rfl, ⟨rfl, trivial⟩, by rw [ht]; exact hP9, va_K.moved hW.alike hK9, hD9⟩, hS.F ht⟩) hS.2.2 dX5_word_102
  · skip
    refine lv_tableIn (off := 80) (tgt := 81) hx hb dX5_word_1 (by decide) (by decide) (by decide) (by decide) ?_
    refine lv_aload_n hx hb dX5_word_81 rfl (lv_at hl 0 rfl) ?_
    refine va_get (D := (dC, dI)) (ci := 5) (v := .int 0) (C := RX5) (T := TX5) (N := 6) hx hb hG inGX5 hown hK hP 0 rfl rfl 2 (by decide) (hG _ wd_72) (fun _ h9 => h9) rfl dX5_word_82 ?_
    have hP9 := hP.sub (ws' := [(h0, .inr (5, [.int 304, .int 0, .int 0, .int 0, .int 0, .int 0]))]) [0] rfl
    have hD9 := hD.sub (ws' := [(h0, .inr (5, [.int 304, .int 0, .int 0, .int 0, .int 0, .int 0]))]) [0] (by decide) rfl
    have hK9 := hK.sub (tys' := []) [] rfl
    exact W.iret (v := 0) hx hb hr (fun t ht hW => ⟨⟨0, (), rfl, ⟨rfl, trivial⟩, by rw [ht]; exact hP9, va_K.moved hW.alike hK9, hD9⟩, hS.F ht⟩) hS.2.2 dX5_word_85
  · skip
    refine lv_tableIn (off := 100) (tgt := 101) hx hb dX5_word_1 (by decide) (by decide) (by decide) (by decide) ?_
    refine lv_iconst (v := 0) hx hb dX5_word_101 (by decide) ?_
    have hP9 := hP.sub (ws' := [(h0, .inr (5, [.int 304, .int 0, .int 0, .int 0, .int 0, .int 0]))]) [0] rfl
    have hD9 := hD.sub (ws' := [(h0, .inr (5, [.int 304, .int 0, .int 0, .int 0, .int 0, .int 0]))]) [0] (by decide) rfl
    have hK9 := hK.sub (tys' := []) [] rfl
    exact W.iret (v := 0) hx hb hr (fun t ht hW => ⟨⟨0, (), rfl, ⟨rfl, trivial⟩, by rw [ht]; exact hP9, va_K.moved hW.alike hK9, hD9⟩, hS.F ht⟩) hS.2.2 dX5_word_102
  · skip
    refine lv_tableIn (off := 85) (tgt := 86) hx hb dX5_word_1 (by decide) (by decide) (by decide) (by decide) ?_
    refine lv_aload_n hx hb dX5_word_86 rfl (lv_at hl 0 rfl) ?_
    refine va_get (D := (dC, dI)) (ci := 5) (v := .int 0) (C := RX5) (T := TX5) (N := 6) hx hb hG inGX5 hown hK hP 0 rfl rfl 3 (by decide) (hG _ wd_73) (fun _ h9 => h9) rfl dX5_word_87 ?_
    have hP9 := hP.sub (ws' := [(h0, .inr (5, [.int 304, .int 0, .int 0, .int 0, .int 0, .int 0]))]) [0] rfl
    have hD9 := hD.sub (ws' := [(h0, .inr (5, [.int 304, .int 0, .int 0, .int 0, .int 0, .int 0]))]) [0] (by decide) rfl
    have hK9 := hK.sub (tys' := []) [] rfl
    exact W.iret (v := 0) hx hb hr (fun t ht hW => ⟨⟨0, (), rfl, ⟨rfl, trivial⟩, by rw [ht]; exact hP9, va_K.moved hW.alike hK9, hD9⟩, hS.F ht⟩) hS.2.2 dX5_word_90
  · skip
    refine lv_tableIn (off := 100) (tgt := 101) hx hb dX5_word_1 (by decide) (by decide) (by decide) (by decide) ?_
    refine lv_iconst (v := 0) hx hb dX5_word_101 (by decide) ?_
    have hP9 := hP.sub (ws' := [(h0, .inr (5, [.int 304, .int 0, .int 0, .int 0, .int 0, .int 0]))]) [0] rfl
    have hD9 := hD.sub (ws' := [(h0, .inr (5, [.int 304, .int 0, .int 0, .int 0, .int 0, .int 0]))]) [0] (by decide) rfl
    have hK9 := hK.sub (tys' := []) [] rfl
    exact W.iret (v := 0) hx hb hr (fun t ht hW => ⟨⟨0, (), rfl, ⟨rfl, trivial⟩, by rw [ht]; exact hP9, va_K.moved hW.alike hK9, hD9⟩, hS.F ht⟩) hS.2.2 dX5_word_102
  · skip
    refine lv_tableIn (off := 90) (tgt := 91) hx hb dX5_word_1 (by decide) (by decide) (by decide) (by decide) ?_
    refine lv_aload_n hx hb dX5_word_91 rfl (lv_at hl 0 rfl) ?_
    refine va_get (D := (dC, dI)) (ci := 5) (v := .int 0) (C := RX5) (T := TX5) (N := 6) hx hb hG inGX5 hown hK hP 0 rfl rfl 4 (by decide) (hG _ wd_74) (fun _ h9 => h9) rfl dX5_word_92 ?_
    have hP9 := hP.sub (ws' := [(h0, .inr (5, [.int 304, .int 0, .int 0, .int 0, .int 0, .int 0]))]) [0] rfl
    have hD9 := hD.sub (ws' := [(h0, .inr (5, [.int 304, .int 0, .int 0, .int 0, .int 0, .int 0]))]) [0] (by decide) rfl
    have hK9 := hK.sub (tys' := []) [] rfl
    exact W.iret (v := 0) hx hb hr (fun t ht hW => ⟨⟨0, (), rfl, ⟨rfl, trivial⟩, by rw [ht]; exact hP9, va_K.moved hW.alike hK9, hD9⟩, hS.F ht⟩) hS.2.2 dX5_word_95
  · skip
    refine lv_tableIn (off := 100) (tgt := 101) hx hb dX5_word_1 (by decide) (by decide) (by decide) (by decide) ?_
    refine lv_iconst (v := 0) hx hb dX5_word_101 (by decide) ?_
    have hP9 := hP.sub (ws' := [(h0, .inr (5, [.int 304, .int 0, .int 0, .int 0, .int 0, .int 0]))]) [0] rfl
    have hD9 := hD.sub (ws' := [(h0, .inr (5, [.int 304, .int 0, .int 0, .int 0, .int 0, .int 0]))]) [0] (by decide) rfl
    have hK9 := hK.sub (tys' := []) [] rfl
    exact W.iret (v := 0) hx hb hr (fun t ht hW => ⟨⟨0, (), rfl, ⟨rfl, trivial⟩, by rw [ht]; exact hP9, va_K.moved hW.alike hK9, hD9⟩, hS.F ht⟩) hS.2.2 dX5_word_102
  · skip
    refine lv_tableIn (off := 95) (tgt := 96) hx hb dX5_word_1 (by decide) (by decide) (by decide) (by decide) ?_
    refine lv_aload_n hx hb dX5_word_96 rfl (lv_at hl 0 rfl) ?_
    refine va_get (D := (dC, dI)) (ci := 5) (v := .int 0) (C := RX5) (T := TX5) (N := 6) hx hb hG inGX5 hown hK hP 0 rfl rfl 5 (by decide) (hG _ wd_75) (fun _ h9 => h9) rfl dX5_word_97 ?_
    have hP9 := hP.sub (ws' := [(h0, .inr (5, [.int 304, .int 0, .int 0, .int 0, .int 0, .int 0]))]) [0] rfl
    have hD9 := hD.sub (ws' := [(h0, .inr (5, [.int 304, .int 0, .int 0, .int 0, .int 0, .int 0]))]) [0] (by decide) rfl
    have hK9 := hK.sub (tys' := []) [] rfl
    exact W.iret (v := 0) hx hb hr (fun t ht hW => ⟨⟨0, (), rfl, ⟨rfl, trivial⟩, by rw [ht]; exact hP9, va_K.moved hW.alike hK9, hD9⟩, hS.F ht⟩) hS.2.2 dX5_word_100
set_option maxHeartbeats 4000000 in
set_option maxRecDepth 100000 in
theorem cX9_vector_1 (l : Launch) (dC : Nat → ClassId) (dI : Nat → Nat → Nat) (h0 h1 h2 : Nat) (y0 : ClassId) (sz : Nat) : Met l yX9_vector (Cond.code yX9_vector cX9_vector 1 (some .int) :: lw_G) ({ frames := 0, cells := 0, slots := 0, locals := 0 }) (va_Pc [.ref h0] (fun U => U.heap.size = sz ∧ va_P (dC, dI) vwCl [(h0, .inr (9, [.ref h1, .ref h2, .int 0, .int 0, .int 0, .int 0])), (h1, .inl (y0, 3, .inl (fun _ => 0)))] U.heap ∧ va_K (dC, dI) vwCl [(y0, .int)] U ∧ va_D (fun _ => True) [(h0, .inr (9, [.ref h1, .ref h2, .int 0, .int 0, .int 0, .int 0])), (h1, .inl (y0, 3, .inl (fun _ => 0)))])) (va_Qi (fun (r : Int32) (u : Unit) => r = 0 ∧ True) (fun (u : Unit) (t : State) => va_P (dC, dI) vwCl [(h0, .inr (9, [.ref h1, .ref h2, .int 0, .int 0, .int 0, .int 0])), (h1, .inl (y0, 3, .inl (fun _ => 0)))] t.heap ∧ va_K (dC, dI) vwCl [(y0, .int)] t ∧ va_D (va_A [(h0, .inr (9, [.ref h1, .ref h2, .int 0, .int 0, .int 0, .int 0])), (h1, .inl (y0, 3, .inl (fun _ => 0)))] sz) [(h0, .inr (9, [.ref h1, .ref h2, .int 0, .int 0, .int 0, .int 0])), (h1, .inl (y0, 3, .inl (fun _ => 0)))]) (va_A [(h0, .inr (9, [.ref h1, .ref h2, .int 0, .int 0, .int 0, .int 0])), (h1, .inl (y0, 3, .inl (fun _ => 0)))] sz)) 0 0 (va_A [(h0, .inr (9, [.ref h1, .ref h2, .int 0, .int 0, .int 0, .int 0])), (h1, .inl (y0, 3, .inl (fun _ => 0)))] sz) := by
  refine Met.ofW (cc := cX9_vector) (maxL := 1) (ret := (some .int)) (by decide) rfl ?_
  intro p e s m args below meth c s₁ B hml hv
  obtain ⟨rfl, hsz, hP, hK, hD0⟩ := hv
  have hx := B.exec
  have hb := B.bytes
  have hr := B.returns
  have hts0 := atoms_spec (ws := Cond.code yX9_vector cX9_vector 1 (some .int) :: lw_G) B.pre
  have hG : ∀ w ∈ lw_G, w.before _ s = true := fun w h => hts0 w (List.mem_cons_of_mem _ h)
  have hown : s.vm.findClass RX9 = some m.cls := findClass_of_methodNamed B.named
  have hlocks := B.notSynchronized
  subst hsz
  have hD := hD0.self (sz := s.heap.size)
  generalize hAe : va_A [(h0, .inr (9, [.ref h1, .ref h2, .int 0, .int 0, .int 0, .int 0])), (h1, .inl (y0, 3, .inl (fun _ => 0)))] s.heap.size = A at hD ⊢
  have hA : ∀ q : Nat, s.heap.size ≤ q → A q := fun q h => by rw [← hAe]; exact Or.inr h
  have hS : va_S A s.heap s.heap [] := va_S.rf
  have hP : va_P (dC, dI) vwCl [(h0, .inr (9, [.ref h1, .ref h2, .int 0, .int 0, .int 0, .int 0])), (h1, .inl (y0, 3, .inl (fun _ => 0)))] s.heap := hP
  have hl := lv_entry ([.ref h0]) (n := 1) (Nat.le_of_ble_eq_true rfl)
  rw [lg_entry_eq]
  generalize (lg_sl ([.ref h0]) ++ List.replicate (1 - (lg_sl ([.ref h0])).length) Slot.unset).toArray = ls at hl ⊢
  have hl : lv_has ls 1 [(0, .ref h0)] := hl
  refine lv_aload_n hx hb dX9_vector_0 rfl (lv_at hl 0 rfl) ?_
  refine va_get (D := (dC, dI)) (ci := 9) (v := .ref h1) (C := RX9) (T := TX9) (N := 6) hx hb hG inGX9 hown hK hP 0 rfl rfl 0 (by decide) (hG _ wd_95) (fun _ h9 => h9) rfl dX9_vector_1 ?_
  refine lv_iconst (v := 1) hx hb dX9_vector_4 (by decide) ?_
  refine va_iald hx hb hK hP 1 0 rfl rfl (iv_in (by decide : iv 1 1 1) (by decide) (by decide) : vp_in 1 3) dX9_vector_5 ?_
  refine lv_val (y := 0) rfl ?_
  refine lv_bipush (v := 17) hx hb dX9_vector_6 (by decide) ?_
  refine lv_icmp_ne (tgt := 13) hx hb dX9_vector_8 (by decide) (fun _ => ?_) (fun c => absurd c (by decide))
  refine lv_aload_n hx hb dX9_vector_13 rfl (lv_at hl 0 rfl) ?_
  refine va_get (D := (dC, dI)) (ci := 9) (v := .ref h1) (C := RX9) (T := TX9) (N := 6) hx hb hG inGX9 hown hK hP 0 rfl rfl 0 (by decide) (hG _ wd_95) (fun _ h9 => h9) rfl dX9_vector_14 ?_
  refine lv_iconst (v := 2) hx hb dX9_vector_17 (by decide) ?_
  refine va_iald hx hb hK hP 1 0 rfl rfl (iv_in (by decide : iv 2 2 2) (by decide) (by decide) : vp_in 2 3) dX9_vector_18 ?_
  refine lv_val (y := 0) rfl ?_
  refine lv_bipush (v := 17) hx hb dX9_vector_19 (by decide) ?_
  refine lv_icmp_ne (tgt := 26) hx hb dX9_vector_21 (by decide) (fun _ => ?_) (fun c => absurd c (by decide))
  refine lv_aload_n hx hb dX9_vector_26 rfl (lv_at hl 0 rfl) ?_
  refine va_get (D := (dC, dI)) (ci := 9) (v := .int 0) (C := RX9) (T := TX9) (N := 6) hx hb hG inGX9 hown hK hP 0 rfl rfl 2 (by decide) (hG _ wd_97) (fun _ h9 => h9) rfl dX9_vector_27 ?_
  refine lv_iconst (v := 3) hx hb dX9_vector_30 (by decide) ?_
  refine lv_iand hx hb dX9_vector_31 ?_
  refine lv_val (y := 0) (by decide +kernel) ?_
  refine lv_iconst (v := 3) hx hb dX9_vector_32 (by decide) ?_
  refine lv_icmp_ne (tgt := 41) hx hb dX9_vector_33 (by decide) (fun _ => ?_) (fun c => absurd c (by decide))
  refine lv_iconst (v := 0) hx hb dX9_vector_41 (by decide) ?_
  have hP9 := hP.sub (ws' := [(h0, .inr (9, [.ref h1, .ref h2, .int 0, .int 0, .int 0, .int 0])), (h1, .inl (y0, 3, .inl (fun _ => 0)))]) [0, 1] rfl
  have hD9 := hD.sub (ws' := [(h0, .inr (9, [.ref h1, .ref h2, .int 0, .int 0, .int 0, .int 0])), (h1, .inl (y0, 3, .inl (fun _ => 0)))]) [0, 1] (by decide) rfl
  have hK9 := hK.sub (tys' := [(y0, .int)]) [0] rfl
  exact W.iret (v := 0) hx hb hr (fun t ht hW => ⟨⟨0, (), rfl, ⟨rfl, trivial⟩, by rw [ht]; exact hP9, va_K.moved hW.alike hK9, hD9⟩, hS.F ht⟩) hS.2.2 dX9_vector_42
