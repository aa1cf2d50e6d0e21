set_option maxHeartbeats 4000000 in
set_option maxRecDepth 100000 in
theorem cX11_list_3 (l : Launch) (dC : Nat → ClassId) (dI : Nat → Nat → Nat) (adK adV : Nat → Nat) (h0 h1 h2 h3 h4 h5 h6 h7 h8 h9 h10 h11 h12 : Nat) (y0 y1 y2 y3 : ClassId) (sz : Nat) (x0 : Int32) (ix0 : iv x0 0 65535) : Met l yX11_list (Cond.code yX11_list cX11_list 3 (some .int) :: lw_G) ({ frames := 7, cells := 0, slots := 0, locals := 151 }) (va_Pc [.ref h0, .int x0] (fun U => U.heap.size = sz ∧ va_P (dC, dI) vwCl [(h0, .inr (11, [.ref h1, .ref h2, .ref h3, .ref h4, .ref h5, .int 0, .int 0])), (h5, .inr (8, [.ref h6, .ref h2, .int 0, .int 0, .int 0])), (h2, .inr (1, [.ref h7, .ref h8, .ref h9, .ref h10])), (h7, .inl (y0, 32768, .inl (fun _ => 0))), (h10, .inr (9, [.ref h11, .ref h12, .int 0, .int 0, .int 0, .int 0])), (h12, .inl (y1, 3, .inl (fun _ => 0))), (h11, .inl (y2, 3, .inl (fun _ => 0))), (h9, .inr (5, [.int 304, .int 0, .int 0, .int 0, .int 0, .int 0])), (h8, .inr (7, [.int 0, .int 0, .int 0, .int 0, .int 0])), (h6, .inl (y3, 64, .inl (fun _ => 0)))] U.heap ∧ va_K (dC, dI) vwCl [(y0, .int), (y1, .int), (y2, .int), (y3, .int)] U ∧ va_D (fun _ => True) [(h0, .inr (11, [.ref h1, .ref h2, .ref h3, .ref h4, .ref h5, .int 0, .int 0])), (h5, .inr (8, [.ref h6, .ref h2, .int 0, .int 0, .int 0])), (h2, .inr (1, [.ref h7, .ref h8, .ref h9, .ref h10])), (h7, .inl (y0, 32768, .inl (fun _ => 0))), (h10, .inr (9, [.ref h11, .ref h12, .int 0, .int 0, .int 0, .int 0])), (h12, .inl (y1, 3, .inl (fun _ => 0))), (h11, .inl (y2, 3, .inl (fun _ => 0))), (h9, .inr (5, [.int 304, .int 0, .int 0, .int 0, .int 0, .int 0])), (h8, .inr (7, [.int 0, .int 0, .int 0, .int 0, .int 0])), (h6, .inl (y3, 64, .inl (fun _ => 0)))] ∧ ev adK adV (va_A [(h0, .inr (11, [.ref h1, .ref h2, .ref h3, .ref h4, .ref h5, .int 0, .int 0])), (h5, .inr (8, [.ref h6, .ref h2, .int 0, .int 0, .int 0])), (h2, .inr (1, [.ref h7, .ref h8, .ref h9, .ref h10])), (h7, .inl (y0, 32768, .inl (fun _ => 0))), (h10, .inr (9, [.ref h11, .ref h12, .int 0, .int 0, .int 0, .int 0])), (h12, .inl (y1, 3, .inl (fun _ => 0))), (h11, .inl (y2, 3, .inl (fun _ => 0))), (h9, .inr (5, [.int 304, .int 0, .int 0, .int 0, .int 0, .int 0])), (h8, .inr (7, [.int 0, .int 0, .int 0, .int 0, .int 0])), (h6, .inl (y3, 64, .inl (fun _ => 0)))] sz) U U.heap)) (va_Qi (fun (r : Int32) (u : Int32 × Int32 × (Nat → Int32)) => r = 6 ∧ iv u.1 0 65535 ∧ iv u.2.1 2 65536 ∧ (∀ j, iv (u.2.2 j) 0 119) ∧ u.2.2 0 = 119 ∧ u.2.2 1 = 111 ∧ u.2.2 2 = 114 ∧ u.2.2 3 = 100 ∧ u.2.2 4 = 32 ∧ u.2.2 5 = 48 ∧ True) (fun (u : Int32 × Int32 × (Nat → Int32)) (t : State) => va_P (dC, dI) vwCl [(h0, .inr (11, [.ref h1, .ref h2, .ref h3, .ref h4, .ref h5, .int 0, .int 0])), (h5, .inr (8, [.ref h6, .ref h2, .int 6, .int u.1, .int u.2.1])), (h2, .inr (1, [.ref h7, .ref h8, .ref h9, .ref h10])), (h7, .inl (y0, 32768, .inl (fun _ => 0))), (h10, .inr (9, [.ref h11, .ref h12, .int 0, .int 0, .int 0, .int 0])), (h12, .inl (y1, 3, .inl (fun _ => 0))), (h11, .inl (y2, 3, .inl (fun _ => 0))), (h9, .inr (5, [.int 304, .int 0, .int 0, .int 0, .int 0, .int 0])), (h8, .inr (7, [.int 0, .int 0, .int 0, .int 0, .int 0])), (h6, .inl (y3, 64, .inl u.2.2))] t.heap ∧ va_K (dC, dI) vwCl [(y0, .int), (y1, .int), (y2, .int), (y3, .int)] t ∧ va_D (va_A [(h0, .inr (11, [.ref h1, .ref h2, .ref h3, .ref h4, .ref h5, .int 0, .int 0])), (h5, .inr (8, [.ref h6, .ref h2, .int 0, .int 0, .int 0])), (h2, .inr (1, [.ref h7, .ref h8, .ref h9, .ref h10])), (h7, .inl (y0, 32768, .inl (fun _ => 0))), (h10, .inr (9, [.ref h11, .ref h12, .int 0, .int 0, .int 0, .int 0])), (h12, .inl (y1, 3, .inl (fun _ => 0))), (h11, .inl (y2, 3, .inl (fun _ => 0))), (h9, .inr (5, [.int 304, .int 0, .int 0, .int 0, .int 0, .int 0])), (h8, .inr (7, [.int 0, .int 0, .int 0, .int 0, .int 0])), (h6, .inl (y3, 64, .inl (fun _ => 0)))] sz) [(h0, .inr (11, [.ref h1, .ref h2, .ref h3, .ref h4, .ref h5, .int 0, .int 0])), (h5, .inr (8, [.ref h6, .ref h2, .int 6, .int u.1, .int u.2.1])), (h2, .inr (1, [.ref h7, .ref h8, .ref h9, .ref h10])), (h7, .inl (y0, 32768, .inl (fun _ => 0))), (h10, .inr (9, [.ref h11, .ref h12, .int 0, .int 0, .int 0, .int 0])), (h12, .inl (y1, 3, .inl (fun _ => 0))), (h11, .inl (y2, 3, .inl (fun _ => 0))), (h9, .inr (5, [.int 304, .int 0, .int 0, .int 0, .int 0, .int 0])), (h8, .inr (7, [.int 0, .int 0, .int 0, .int 0, .int 0])), (h6, .inl (y3, 64, .inl u.2.2))]) (va_A [(h0, .inr (11, [.ref h1, .ref h2, .ref h3, .ref h4, .ref h5, .int 0, .int 0])), (h5, .inr (8, [.ref h6, .ref h2, .int 0, .int 0, .int 0])), (h2, .inr (1, [.ref h7, .ref h8, .ref h9, .ref h10])), (h7, .inl (y0, 32768, .inl (fun _ => 0))), (h10, .inr (9, [.ref h11, .ref h12, .int 0, .int 0, .int 0, .int 0])), (h12, .inl (y1, 3, .inl (fun _ => 0))), (h11, .inl (y2, 3, .inl (fun _ => 0))), (h9, .inr (5, [.int 304, .int 0, .int 0, .int 0, .int 0, .int 0])), (h8, .inr (7, [.int 0, .int 0, .int 0, .int 0, .int 0])), (h6, .inl (y3, 64, .inl (fun _ => 0)))] sz)) 0 0 (va_A [(h0, .inr (11, [.ref h1, .ref h2, .ref h3, .ref h4, .ref h5, .int 0, .int 0])), (h5, .inr (8, [.ref h6, .ref h2, .int 0, .int 0, .int 0])), (h2, .inr (1, [.ref h7, .ref h8, .ref h9, .ref h10])), (h7, .inl (y0, 32768, .inl (fun _ => 0))), (h10, .inr (9, [.ref h11, .ref h12, .int 0, .int 0, .int 0, .int 0])), (h12, .inl (y1, 3, .inl (fun _ => 0))), (h11, .inl (y2, 3, .inl (fun _ => 0))), (h9, .inr (5, [.int 304, .int 0, .int 0, .int 0, .int 0, .int 0])), (h8, .inr (7, [.int 0, .int 0, .int 0, .int 0, .int 0])), (h6, .inl (y3, 64, .inl (fun _ => 0)))] sz) := by
  refine Met.ofW (cc := cX11_list) (maxL := 3) (ret := (some .int)) (by decide) rfl ?_
  intro p e s m args below meth c s₁ B hml hv
  obtain ⟨rfl, hsz, hP, hK, hD0, hE⟩ := hv
  have hx := B.exec
  have hb := B.bytes
  have hr := B.returns
  have hts0 := atoms_spec (ws := Cond.code yX11_list cX11_list 3 (some .int) :: lw_G) B.pre
  have hG : ∀ w ∈ lw_G, w.before _ s = true := fun w h => hts0 w (List.mem_cons_of_mem _ h)
  have hown : s.vm.findClass RX11 = some m.cls := findClass_of_methodNamed B.named
  have hlocks := B.notSynchronized
  subst hsz
  have hD := hD0.self (sz := s.heap.size)
  generalize hAe : va_A [(h0, .inr (11, [.ref h1, .ref h2, .ref h3, .ref h4, .ref h5, .int 0, .int 0])), (h5, .inr (8, [.ref h6, .ref h2, .int 0, .int 0, .int 0])), (h2, .inr (1, [.ref h7, .ref h8, .ref h9, .ref h10])), (h7, .inl (y0, 32768, .inl (fun _ => 0))), (h10, .inr (9, [.ref h11, .ref h12, .int 0, .int 0, .int 0, .int 0])), (h12, .inl (y1, 3, .inl (fun _ => 0))), (h11, .inl (y2, 3, .inl (fun _ => 0))), (h9, .inr (5, [.int 304, .int 0, .int 0, .int 0, .int 0, .int 0])), (h8, .inr (7, [.int 0, .int 0, .int 0, .int 0, .int 0])), (h6, .inl (y3, 64, .inl (fun _ => 0)))] s.heap.size = A at hD hE ⊢
  have hA : ∀ q : Nat, s.heap.size ≤ q → A q := fun q h => by rw [← hAe]; exact Or.inr h
  have hS : va_S A s.heap s.heap [] := va_S.rf
  have hP : va_P (dC, dI) vwCl [(h0, .inr (11, [.ref h1, .ref h2, .ref h3, .ref h4, .ref h5, .int 0, .int 0])), (h5, .inr (8, [.ref h6, .ref h2, .int 0, .int 0, .int 0])), (h2, .inr (1, [.ref h7, .ref h8, .ref h9, .ref h10])), (h7, .inl (y0, 32768, .inl (fun _ => 0))), (h10, .inr (9, [.ref h11, .ref h12, .int 0, .int 0, .int 0, .int 0])), (h12, .inl (y1, 3, .inl (fun _ => 0))), (h11, .inl (y2, 3, .inl (fun _ => 0))), (h9, .inr (5, [.int 304, .int 0, .int 0, .int 0, .int 0, .int 0])), (h8, .inr (7, [.int 0, .int 0, .int 0, .int 0, .int 0])), (h6, .inl (y3, 64, .inl (fun _ => 0)))] s.heap := hP
  have hl := lv_entry ([.ref h0, .int x0]) (n := 3) (Nat.le_of_ble_eq_true rfl)
  rw [lg_entry_eq]
  generalize (lg_sl ([.ref h0, .int x0]) ++ List.replicate (3 - (lg_sl ([.ref h0, .int x0])).length) Slot.unset).toArray = ls at hl ⊢
  have hl : lv_has ls 3 [(0, .ref h0), (1, .int x0)] := hl
  refine lv_iload_n hx hb dX11_list_0 rfl (lv_at hl 1 rfl) ?_
  refine lv_if_lt (tgt := 10) hx hb dX11_list_1 (by decide) (fun c => absurd c (iv_nlt ix0 (by decide : iv 0 0 0) (by decide))) (fun _ => ?_)
  refine lv_iload_n hx hb dX11_list_4 rfl (lv_at hl 1 rfl) ?_
  refine lv_ldc hx hb hown (hG _ wd_1157) dX11_list_5 ?_
  refine lv_icmp_lt (tgt := 20) hx hb dX11_list_7 (by decide) (fun _ => ?_) (fun c => absurd (iv_lt ix0 (by decide : iv 65536 65536 65536) (by decide)) c)
  refine lv_iload_n hx hb dX11_list_20 rfl (lv_at hl 1 rfl) ?_
  refine lv_ldc hx hb hown (hG _ wd_1178) dX11_list_21 ?_
  refine lv_iand hx hb dX11_list_23 ?_
  refine lv_topi (fun v1 ev1 => ?_)
  have iv1 : iv v1 0 65534 := iv_eq ev1 (iv_and (x := x0) (iv_w (by decide : iv 65534 65534 65534) (by decide) (by decide) : iv 65534 0 65534))
  refine lv_istore_n (lv' := [(2, .int v1), (0, .ref h0), (1, .int x0)]) hx hb dX11_list_24 rfl hl (by decide) rfl (fun ls hl => ?_)
  refine lv_aload_n hx hb dX11_list_25 rfl (lv_at hl 1 rfl) ?_
  refine va_get (D := (dC, dI)) (ci := 11) (v := .ref h5) (C := RX11) (T := TX11) (N := 7) hx hb hG inGX11 hown hK hP 0 rfl rfl 4 (by decide) (hG _ wd_399) (fun _ h9 => h9) rfl dX11_list_26 ?_
  refine lv_iload_n hx hb dX11_list_29 rfl (lv_at hl 0 rfl) ?_
  have hPc := hP.sub (ws' := [(h5, .inr (8, [.ref h6, .ref h2, .int 0, .int 0, .int 0])), (h2, .inr (1, [.ref h7, .ref h8, .ref h9, .ref h10])), (h7, .inl (y0, 32768, .inl (fun _ => 0))), (h10, .inr (9, [.ref h11, .ref h12, .int 0, .int 0, .int 0, .int 0])), (h12, .inl (y1, 3, .inl (fun _ => 0))), (h11, .inl (y2, 3, .inl (fun _ => 0))), (h9, .inr (5, [.int 304, .int 0, .int 0, .int 0, .int 0, .int 0])), (h8, .inr (7, [.int 0, .int 0, .int 0, .int 0, .int 0]))]) [1, 2, 3, 4, 5, 6, 7, 8] rfl
  have hDc := hD.sub (ws' := [(h5, .inr (8, [.ref h6, .ref h2, .int 0, .int 0, .int 0])), (h2, .inr (1, [.ref h7, .ref h8, .ref h9, .ref h10])), (h7, .inl (y0, 32768, .inl (fun _ => 0))), (h10, .inr (9, [.ref h11, .ref h12, .int 0, .int 0, .int 0, .int 0])), (h12, .inl (y1, 3, .inl (fun _ => 0))), (h11, .inl (y2, 3, .inl (fun _ => 0))), (h9, .inr (5, [.int 304, .int 0, .int 0, .int 0, .int 0, .int 0])), (h8, .inr (7, [.int 0, .int 0, .int 0, .int 0, .int 0]))]) [1, 2, 3, 4, 5, 6, 7, 8] (by decide) rfl
  have hKc := hK.sub (tys' := [(y0, .int), (y1, .int), (y2, .int)]) [0, 1, 2] rfl
  have hFc := va_free (wc := [(h5, .inr (8, [.ref h6, .ref h2, .int 0, .int 0, .int 0])), (h2, .inr (1, [.ref h7, .ref h8, .ref h9, .ref h10])), (h7, .inl (y0, 32768, .inl (fun _ => 0))), (h10, .inr (9, [.ref h11, .ref h12, .int 0, .int 0, .int 0, .int 0])), (h12, .inl (y1, 3, .inl (fun _ => 0))), (h11, .inl (y2, 3, .inl (fun _ => 0))), (h9, .inr (5, [.int 304, .int 0, .int 0, .int 0, .int 0, .int 0])), (h8, .inr (7, [.int 0, .int 0, .int 0, .int 0, .int 0]))]) hD hS hA [1, 2, 3, 4, 5, 6, 7, 8] rfl
  refine va_calli (va_runV (As := [.int v1]) (rest := []) ⟨hx, hb, hml, hown, hG⟩ (cX8_tellCode_1 l dC dI h5 h6 h2 h7 h8 h9 h10 h11 h12 y0 y1 y2 s.heap.size v1 iv1) (cwV 1 hG (gV wd_1179 wd_1180 wd_1181 wd_16 wd_1182) rfl rfl rfl (by decide +kernel) ⟨Nat.le_of_ble_eq_true rfl, Nat.le_of_ble_eq_true rfl⟩) ⟨fun a U g mk q => by obtain ⟨q0, q1, qP, qK, qD⟩ := q; exact ⟨q0, q1, qP, va_K.moved (u := U) (U := U.calling g mk a) (Vm.Alike.refl U.vm) qK, qD⟩, va_recv hKc hPc (ci := 8) (q0 := 0) rfl rfl, fun U hU hW => ⟨rfl, by rw [hU], by rw [hU]; exact hPc, va_K.moved hW.alike hKc, hDc.weaken (fun _ _ _ _ => trivial)⟩⟩ rfl rfl hl.1 rfl (lv_room (Nat.le_of_ble_eq_true rfl)) dX11_list_30 ⟨by decide, by decide⟩) hS (fun q _ h => hFc q h) hFc (fun r2 u3 t H1 locs ht hvm hw hB hz1 hk1 hS => ?_)
  obtain ⟨u3_0, u3_1⟩ := u3
  have hw : r2 = 0 ∧ iv u3_0 0 65535 ∧ iv u3_1 2 65536 ∧ True := hw
  obtain ⟨er2, iu3_0, iu3_1, -⟩ := hw
  obtain ⟨hP1, hK1, hD1⟩ := hB
  rw [ht] at hP1
  have hK1 := va_K.moved hvm.symm hK1
  obtain ⟨hP, hD⟩ := va_join (wr := [(h0, .inr (11, [.ref h1, .ref h2, .ref h3, .ref h4, .ref h5, .int 0, .int 0])), (h6, .inl (y3, 64, .inl (fun _ => 0)))]) (w1 := [(h5, .inr (8, [.ref h6, .ref h2, .int 0, .int u3_0, .int u3_1])), (h2, .inr (1, [.ref h7, .ref h8, .ref h9, .ref h10])), (h7, .inl (y0, 32768, .inl (fun _ => 0))), (h10, .inr (9, [.ref h11, .ref h12, .int 0, .int 0, .int 0, .int 0])), (h12, .inl (y1, 3, .inl (fun _ => 0))), (h11, .inl (y2, 3, .inl (fun _ => 0))), (h9, .inr (5, [.int 304, .int 0, .int 0, .int 0, .int 0, .int 0])), (h8, .inr (7, [.int 0, .int 0, .int 0, .int 0, .int 0]))]) hP hD [1, 2, 3, 4, 5, 6, 7, 8] [0, 9] rfl rfl (by decide) (by decide) hk1 hFc hP1 hD1
  have hK := (hK.sub (tys' := [(y3, .int)]) [3] rfl).app hK1
  generalize H1 = H at hP hS ⊢
  have hP : va_P (dC, dI) vwCl [(h0, .inr (11, [.ref h1, .ref h2, .ref h3, .ref h4, .ref h5, .int 0, .int 0])), (h6, .inl (y3, 64, .inl (fun _ => 0))), (h5, .inr (8, [.ref h6, .ref h2, .int 0, .int u3_0, .int u3_1])), (h2, .inr (1, [.ref h7, .ref h8, .ref h9, .ref h10])), (h7, .inl (y0, 32768, .inl (fun _ => 0))), (h10, .inr (9, [.ref h11, .ref h12, .int 0, .int 0, .int 0, .int 0])), (h12, .inl (y1, 3, .inl (fun _ => 0))), (h11, .inl (y2, 3, .inl (fun _ => 0))), (h9, .inr (5, [.int 304, .int 0, .int 0, .int 0, .int 0, .int 0])), (h8, .inr (7, [.int 0, .int 0, .int 0, .int 0, .int 0]))] H := hP
  have hD : va_D A [(h0, .inr (11, [.ref h1, .ref h2, .ref h3, .ref h4, .ref h5, .int 0, .int 0])), (h6, .inl (y3, 64, .inl (fun _ => 0))), (h5, .inr (8, [.ref h6, .ref h2, .int 0, .int u3_0, .int u3_1])), (h2, .inr (1, [.ref h7, .ref h8, .ref h9, .ref h10])), (h7, .inl (y0, 32768, .inl (fun _ => 0))), (h10, .inr (9, [.ref h11, .ref h12, .int 0, .int 0, .int 0, .int 0])), (h12, .inl (y1, 3, .inl (fun _ => 0))), (h11, .inl (y2, 3, .inl (fun _ => 0))), (h9, .inr (5, [.int 304, .int 0, .int 0, .int 0, .int 0, .int 0])), (h8, .inr (7, [.int 0, .int 0, .int 0, .int 0, .int 0]))] := hD
  have hK : va_K (dC, dI) vwCl [(y3, .int), (y0, .int), (y1, .int), (y2, .int)] s := hK
  subst er2
  refine lv_if_ne (tgt := 44) hx hb dX11_list_33 (by decide) (fun c => absurd (by decide) c) (fun _ => ?_)
  refine lv_aload_n hx hb dX11_list_36 rfl (lv_at hl 1 rfl) ?_
  refine va_get (D := (dC, dI)) (ci := 11) (v := .ref h5) (C := RX11) (T := TX11) (N := 7) hx hb hG inGX11 hown hK hP 0 rfl rfl 4 (by decide) (hG _ wd_399) (fun _ h9 => h9) rfl dX11_list_37 ?_
  refine lv_iload_n hx hb dX11_list_40 rfl (lv_at hl 0 rfl) ?_
  have hPc := hP.sub (ws' := [(h5, .inr (8, [.ref h6, .ref h2, .int 0, .int u3_0, .int u3_1])), (h6, .inl (y3, 64, .inl (fun _ => 0))), (h2, .inr (1, [.ref h7, .ref h8, .ref h9, .ref h10])), (h7, .inl (y0, 32768, .inl (fun _ => 0))), (h10, .inr (9, [.ref h11, .ref h12, .int 0, .int 0, .int 0, .int 0])), (h12, .inl (y1, 3, .inl (fun _ => 0))), (h11, .inl (y2, 3, .inl (fun _ => 0))), (h9, .inr (5, [.int 304, .int 0, .int 0, .int 0, .int 0, .int 0])), (h8, .inr (7, [.int 0, .int 0, .int 0, .int 0, .int 0]))]) [2, 1, 3, 4, 5, 6, 7, 8, 9] rfl
  have hDc := hD.sub (ws' := [(h5, .inr (8, [.ref h6, .ref h2, .int 0, .int u3_0, .int u3_1])), (h6, .inl (y3, 64, .inl (fun _ => 0))), (h2, .inr (1, [.ref h7, .ref h8, .ref h9, .ref h10])), (h7, .inl (y0, 32768, .inl (fun _ => 0))), (h10, .inr (9, [.ref h11, .ref h12, .int 0, .int 0, .int 0, .int 0])), (h12, .inl (y1, 3, .inl (fun _ => 0))), (h11, .inl (y2, 3, .inl (fun _ => 0))), (h9, .inr (5, [.int 304, .int 0, .int 0, .int 0, .int 0, .int 0])), (h8, .inr (7, [.int 0, .int 0, .int 0, .int 0, .int 0]))]) [2, 1, 3, 4, 5, 6, 7, 8, 9] (by decide) rfl
  have hKc := hK.sub (tys' := [(y3, .int), (y0, .int), (y1, .int), (y2, .int)]) [0, 1, 2, 3] rfl
  have hFc := va_free (wc := [(h5, .inr (8, [.ref h6, .ref h2, .int 0, .int u3_0, .int u3_1])), (h6, .inl (y3, 64, .inl (fun _ => 0))), (h2, .inr (1, [.ref h7, .ref h8, .ref h9, .ref h10])), (h7, .inl (y0, 32768, .inl (fun _ => 0))), (h10, .inr (9, [.ref h11, .ref h12, .int 0, .int 0, .int 0, .int 0])), (h12, .inl (y1, 3, .inl (fun _ => 0))), (h11, .inl (y2, 3, .inl (fun _ => 0))), (h9, .inr (5, [.int 304, .int 0, .int 0, .int 0, .int 0, .int 0])), (h8, .inr (7, [.int 0, .int 0, .int 0, .int 0, .int 0]))]) hD hS hA [2, 1, 3, 4, 5, 6, 7, 8, 9] rfl
  refine va_callv (va_runV (As := [.int v1]) (rest := []) ⟨hx, hb, hml, hown, hG⟩ (cX8_tellWord_1 l dC dI adK adV h5 h6 h2 h7 h8 h9 h10 h11 h12 y3 y0 y1 y2 H.size v1 u3_0 u3_1 iv1 iu3_0 iu3_1) (cwV 1 hG (gV wd_1233 wd_1234 wd_1235 wd_16 wd_1236) rfl rfl rfl (by decide +kernel) ⟨Nat.le_of_ble_eq_true rfl, Nat.le_of_ble_eq_true rfl⟩) ⟨fun a U g mk q => by obtain ⟨q0, q1, qP, qK, qD, qE⟩ := q; exact ⟨q0, q1, qP, va_K.moved (u := U) (U := U.calling g mk a) (Vm.Alike.refl U.vm) qK, qD, qE.same rfl⟩, va_recv hKc hPc (ci := 8) (q0 := 0) rfl rfl, fun U hU hW => ⟨rfl, by rw [hU], by rw [hU]; exact hPc, va_K.moved hW.alike hKc, hDc.weaken (fun _ _ _ _ => trivial), by rw [hU]; exact ((hE.kept hS.2.1).narrow hFc).warm hW⟩⟩ rfl rfl hl.1 rfl (lv_room (Nat.le_of_ble_eq_true rfl)) dX11_list_41 ⟨by decide, by decide⟩) hS (fun q _ h => hFc q h) hFc (fun u5 t H1 locs ht hvm hw hB hz1 hk1 hS => ?_)
  obtain ⟨u5_0, u5_1⟩ := u5
  have hw : iv u5_0 0 65535 ∧ (∀ j, iv (u5_1 j) 0 119) ∧ u5_1 0 = 119 ∧ u5_1 1 = 111 ∧ u5_1 2 = 114 ∧ u5_1 3 = 100 ∧ u5_1 4 = 32 ∧ u5_1 5 = 48 ∧ True := hw
  obtain ⟨iu5_0, iu5_1, ku5_1_0, ku5_1_1, ku5_1_2, ku5_1_3, ku5_1_4, ku5_1_5, -⟩ := hw
  obtain ⟨hP1, hK1, hD1⟩ := hB
  rw [ht] at hP1
  have hK1 := va_K.moved hvm.symm hK1
  obtain ⟨hP, hD⟩ := va_join (wr := [(h0, .inr (11, [.ref h1, .ref h2, .ref h3, .ref h4, .ref h5, .int 0, .int 0]))]) (w1 := [(h5, .inr (8, [.ref h6, .ref h2, .int 6, .int u5_0, .int u3_1])), (h6, .inl (y3, 64, .inl u5_1)), (h2, .inr (1, [.ref h7, .ref h8, .ref h9, .ref h10])), (h7, .inl (y0, 32768, .inl (fun _ => 0))), (h10, .inr (9, [.ref h11, .ref h12, .int 0, .int 0, .int 0, .int 0])), (h12, .inl (y1, 3, .inl (fun _ => 0))), (h11, .inl (y2, 3, .inl (fun _ => 0))), (h9, .inr (5, [.int 304, .int 0, .int 0, .int 0, .int 0, .int 0])), (h8, .inr (7, [.int 0, .int 0, .int 0, .int 0, .int 0]))]) hP hD [2, 1, 3, 4, 5, 6, 7, 8, 9] [0] rfl rfl (by decide) (by decide) hk1 hFc hP1 hD1
  have hK := (hK.sub (tys' := []) [] rfl).app hK1
  generalize H1 = H at hP hS ⊢
  have hP : va_P (dC, dI) vwCl [(h0, .inr (11, [.ref h1, .ref h2, .ref h3, .ref h4, .ref h5, .int 0, .int 0])), (h5, .inr (8, [.ref h6, .ref h2, .int 6, .int u5_0, .int u3_1])), (h6, .inl (y3, 64, .inl u5_1)), (h2, .inr (1, [.ref h7, .ref h8, .ref h9, .ref h10])), (h7, .inl (y0, 32768, .inl (fun _ => 0))), (h10, .inr (9, [.ref h11, .ref h12, .int 0, .int 0, .int 0, .int 0])), (h12, .inl (y1, 3, .inl (fun _ => 0))), (h11, .inl (y2, 3, .inl (fun _ => 0))), (h9, .inr (5, [.int 304, .int 0, .int 0, .int 0, .int 0, .int 0])), (h8, .inr (7, [.int 0, .int 0, .int 0, .int 0, .int 0]))] H := hP
  have hD : va_D A [(h0, .inr (11, [.ref h1, .ref h2, .ref h3, .ref h4, .ref h5, .int 0, .int 0])), (h5, .inr (8, [.ref h6, .ref h2, .int 6, .int u5_0, .int u3_1])), (h6, .inl (y3, 64, .inl u5_1)), (h2, .inr (1, [.ref h7, .ref h8, .ref h9, .ref h10])), (h7, .inl (y0, 32768, .inl (fun _ => 0))), (h10, .inr (9, [.ref h11, .ref h12, .int 0, .int 0, .int 0, .int 0])), (h12, .inl (y1, 3, .inl (fun _ => 0))), (h11, .inl (y2, 3, .inl (fun _ => 0))), (h9, .inr (5, [.int 304, .int 0, .int 0, .int 0, .int 0, .int 0])), (h8, .inr (7, [.int 0, .int 0, .int 0, .int 0, .int 0]))] := hD
  have hK : va_K (dC, dI) vwCl [(y3, .int), (y0, .int), (y1, .int), (y2, .int)] s := hK
  refine lv_aload_n hx hb dX11_list_44 rfl (lv_at hl 1 rfl) ?_
  refine va_get (D := (dC, dI)) (ci := 11) (v := .ref h5) (C := RX11) (T := TX11) (N := 7) hx hb hG inGX11 hown hK hP 0 rfl rfl 4 (by decide) (hG _ wd_399) (fun _ h9 => h9) rfl dX11_list_45 ?_
  have hPc := hP.sub (ws' := [(h5, .inr (8, [.ref h6, .ref h2, .int 6, .int u5_0, .int u3_1]))]) [1] rfl
  have hDc := hD.sub (ws' := [(h5, .inr (8, [.ref h6, .ref h2, .int 6, .int u5_0, .int u3_1]))]) [1] (by decide) rfl
  have hKc := hK.sub (tys' := []) [] rfl
  have hFc := va_free (wc := [(h5, .inr (8, [.ref h6, .ref h2, .int 6, .int u5_0, .int u3_1]))]) hD hS hA [1] rfl
  refine va_calli (va_runV (As := []) (rest := []) ⟨hx, hb, hml, hown, hG⟩ (cX8_length_2 l dC dI h5 h6 h2 H.size u5_0 u3_1 iu5_0 iu3_1) (cwV 0 hG (gV wd_870 wd_871 wd_872 wd_16 wd_873) rfl rfl rfl (by decide +kernel) ⟨Nat.le_of_ble_eq_true rfl, Nat.le_of_ble_eq_true rfl⟩) ⟨fun a U g mk q => by obtain ⟨q0, q1, qP, qK, qD⟩ := q; exact ⟨q0, q1, qP, va_K.moved (u := U) (U := U.calling g mk a) (Vm.Alike.refl U.vm) qK, qD⟩, va_recv hKc hPc (ci := 8) (q0 := 0) rfl rfl, fun U hU hW => ⟨rfl, by rw [hU], by rw [hU]; exact hPc, va_K.moved hW.alike hKc, hDc.weaken (fun _ _ _ _ => trivial)⟩⟩ rfl rfl hl.1 rfl (lv_room (Nat.le_of_ble_eq_true rfl)) dX11_list_48 ⟨by decide, by decide⟩) hS (fun q _ h => hFc q h) hFc (fun r6 u7 t H1 locs ht hvm hw hB hz1 hk1 hS => ?_)
  have hw : r6 = 6 ∧ True := hw
  obtain ⟨er6, -⟩ := hw
  obtain ⟨hP1, hK1, hD1⟩ := hB
  rw [ht] at hP1
  have hK1 := va_K.moved hvm.symm hK1
  obtain ⟨hP, hD⟩ := va_join (wr := [(h0, .inr (11, [.ref h1, .ref h2, .ref h3, .ref h4, .ref h5, .int 0, .int 0])), (h6, .inl (y3, 64, .inl u5_1)), (h2, .inr (1, [.ref h7, .ref h8, .ref h9, .ref h10])), (h7, .inl (y0, 32768, .inl (fun _ => 0))), (h10, .inr (9, [.ref h11, .ref h12, .int 0, .int 0, .int 0, .int 0])), (h12, .inl (y1, 3, .inl (fun _ => 0))), (h11, .inl (y2, 3, .inl (fun _ => 0))), (h9, .inr (5, [.int 304, .int 0, .int 0, .int 0, .int 0, .int 0])), (h8, .inr (7, [.int 0, .int 0, .int 0, .int 0, .int 0]))]) (w1 := [(h5, .inr (8, [.ref h6, .ref h2, .int 6, .int u5_0, .int u3_1]))]) hP hD [1] [0, 2, 3, 4, 5, 6, 7, 8, 9] rfl rfl (by decide) (by decide) hk1 hFc hP1 hD1
  have hK := (hK.sub (tys' := [(y3, .int), (y0, .int), (y1, .int), (y2, .int)]) [0, 1, 2, 3] rfl).app hK1
  generalize H1 = H at hP hS ⊢
  have hP : va_P (dC, dI) vwCl [(h0, .inr (11, [.ref h1, .ref h2, .ref h3, .ref h4, .ref h5, .int 0, .int 0])), (h6, .inl (y3, 64, .inl u5_1)), (h2, .inr (1, [.ref h7, .ref h8, .ref h9, .ref h10])), (h7, .inl (y0, 32768, .inl (fun _ => 0))), (h10, .inr (9, [.ref h11, .ref h12, .int 0, .int 0, .int 0, .int 0])), (h12, .inl (y1, 3, .inl (fun _ => 0))), (h11, .inl (y2, 3, .inl (fun _ => 0))), (h9, .inr (5, [.int 304, .int 0, .int 0, .int 0, .int 0, .int 0])), (h8, .inr (7, [.int 0, .int 0, .int 0, .int 0, .int 0])), (h5, .inr (8, [.ref h6, .ref h2, .int 6, .int u5_0, .int u3_1]))] H := hP
  have hD : va_D A [(h0, .inr (11, [.ref h1, .ref h2, .ref h3, .ref h4, .ref h5, .int 0, .int 0])), (h6, .inl (y3, 64, .inl u5_1)), (h2, .inr (1, [.ref h7, .ref h8, .ref h9, .ref h10])), (h7, .inl (y0, 32768, .inl (fun _ => 0))), (h10, .inr (9, [.ref h11, .ref h12, .int 0, .int 0, .int 0, .int 0])), (h12, .inl (y1, 3, .inl (fun _ => 0))), (h11, .inl (y2, 3, .inl (fun _ => 0))), (h9, .inr (5, [.int 304, .int 0, .int 0, .int 0, .int 0, .int 0])), (h8, .inr (7, [.int 0, .int 0, .int 0, .int 0, .int 0])), (h5, .inr (8, [.ref h6, .ref h2, .int 6, .int u5_0, .int u3_1]))] := hD
  have hK : va_K (dC, dI) vwCl [(y3, .int), (y0, .int), (y1, .int), (y2, .int)] s := hK
  subst er6
  have hP9 := hP.sub (ws' := [(h0, .inr (11, [.ref h1, .ref h2, .ref h3, .ref h4, .ref h5, .int 0, .int 0])), (h5, .inr (8, [.ref h6, .ref h2, .int 6, .int u5_0, .int u3_1])), (h2, .inr (1, [.ref h7, .ref h8, .ref h9, .ref h10])), (h7, .inl (y0, 32768, .inl (fun _ => 0))), (h10, .inr (9, [.ref h11, .ref h12, .int 0, .int 0, .int 0, .int 0])), (h12, .inl (y1, 3, .inl (fun _ => 0))), (h11, .inl (y2, 3, .inl (fun _ => 0))), (h9, .inr (5, [.int 304, .int 0, .int 0, .int 0, .int 0, .int 0])), (h8, .inr (7, [.int 0, .int 0, .int 0, .int 0, .int 0])), (h6, .inl (y3, 64, .inl u5_1))]) [0, 9, 2, 3, 4, 5, 6, 7, 8, 1] rfl
  have hD9 := hD.sub (ws' := [(h0, .inr (11, [.ref h1, .ref h2, .ref h3, .ref h4, .ref h5, .int 0, .int 0])), (h5, .inr (8, [.ref h6, .ref h2, .int 6, .int u5_0, .int u3_1])), (h2, .inr (1, [.ref h7, .ref h8, .ref h9, .ref h10])), (h7, .inl (y0, 32768, .inl (fun _ => 0))), (h10, .inr (9, [.ref h11, .ref h12, .int 0, .int 0, .int 0, .int 0])), (h12, .inl (y1, 3, .inl (fun _ => 0))), (h11, .inl (y2, 3, .inl (fun _ => 0))), (h9, .inr (5, [.int 304, .int 0, .int 0, .int 0, .int 0, .int 0])), (h8, .inr (7, [.int 0, .int 0, .int 0, .int 0, .int 0])), (h6, .inl (y3, 64, .inl u5_1))]) [0, 9, 2, 3, 4, 5, 6, 7, 8, 1] (by decide) rfl
  have hK9 := hK.sub (tys' := [(y0, .int), (y1, .int), (y2, .int), (y3, .int)]) [1, 2, 3, 0] rfl
  exact W.iret (v := 6) hx hb hr (fun t ht hW => ⟨⟨6, (u5_0, u3_1, u5_1), rfl, ⟨rfl, iv_w iu5_0 (by decide) (by decide), iv_w iu3_1 (by decide) (by decide), (fun j => iv_w (iu5_1 j) (by decide) (by decide)), ku5_1_0, ku5_1_1, ku5_1_2, ku5_1_3, ku5_1_4, ku5_1_5, trivial⟩, by rw [ht]; exact hP9, va_K.moved hW.alike hK9, hD9⟩, hS.F ht⟩) hS.2.2 dX11_list_51
set_option maxHeartbeats 4000000 in
set_option maxRecDepth 100000 in
theorem cL_list_3 (l : Launch) (dC : Nat → ClassId) (dI : Nat → Nat → Nat) (adK adV : Nat → Nat) (h0 h1 h2 h3 h4 h5 h6 h7 h8 h9 h10 h11 h12 h13 : Nat) (y0 y1 y2 y3 y4 : ClassId) (sz : Nat) (x0 : Int32) (ix0 : iv x0 0 65535) : Met l yL_list (Cond.codeWith yL_list cL_list 4 (some .int) [(0, 9, 12, 19)] :: lw_G) ({ frames := 8, cells := 0, slots := 0, locals := 173 }) (va_Pc [.ref h0, .int x0, .ref h1] (fun U => U.heap.size = sz ∧ va_P (dC, dI) vwCl [(h0, .inr (11, [.ref h2, .ref h3, .ref h4, .ref h5, .ref h6, .int 0, .int 0])), (h6, .inr (8, [.ref h7, .ref h3, .int 0, .int 0, .int 0])), (h3, .inr (1, [.ref h8, .ref h9, .ref h10, .ref h11])), (h8, .inl (y0, 32768, .inl (fun _ => 0))), (h11, .inr (9, [.ref h12, .ref h13, .int 0, .int 0, .int 0, .int 0])), (h13, .inl (y1, 3, .inl (fun _ => 0))), (h12, .inl (y2, 3, .inl (fun _ => 0))), (h10, .inr (5, [.int 304, .int 0, .int 0, .int 0, .int 0, .int 0])), (h9, .inr (7, [.int 0, .int 0, .int 0, .int 0, .int 0])), (h7, .inl (y3, 64, .inl (fun _ => 0))), (h1, .inl (y4, 1, .inr (.inl (fun _ => 0))))] U.heap ∧ va_K (dC, dI) vwCl [(y0, .int), (y1, .int), (y2, .int), (y3, .int), (y4, .long)] U ∧ va_D (fun _ => True) [(h0, .inr (11, [.ref h2, .ref h3, .ref h4, .ref h5, .ref h6, .int 0, .int 0])), (h6, .inr (8, [.ref h7, .ref h3, .int 0, .int 0, .int 0])), (h3, .inr (1, [.ref h8, .ref h9, .ref h10, .ref h11])), (h8, .inl (y0, 32768, .inl (fun _ => 0))), (h11, .inr (9, [.ref h12, .ref h13, .int 0, .int 0, .int 0, .int 0])), (h13, .inl (y1, 3, .inl (fun _ => 0))), (h12, .inl (y2, 3, .inl (fun _ => 0))), (h10, .inr (5, [.int 304, .int 0, .int 0, .int 0, .int 0, .int 0])), (h9, .inr (7, [.int 0, .int 0, .int 0, .int 0, .int 0])), (h7, .inl (y3, 64, .inl (fun _ => 0))), (h1, .inl (y4, 1, .inr (.inl (fun _ => 0))))] ∧ ev adK adV (va_A [(h0, .inr (11, [.ref h2, .ref h3, .ref h4, .ref h5, .ref h6, .int 0, .int 0])), (h6, .inr (8, [.ref h7, .ref h3, .int 0, .int 0, .int 0])), (h3, .inr (1, [.ref h8, .ref h9, .ref h10, .ref h11])), (h8, .inl (y0, 32768, .inl (fun _ => 0))), (h11, .inr (9, [.ref h12, .ref h13, .int 0, .int 0, .int 0, .int 0])), (h13, .inl (y1, 3, .inl (fun _ => 0))), (h12, .inl (y2, 3, .inl (fun _ => 0))), (h10, .inr (5, [.int 304, .int 0, .int 0, .int 0, .int 0, .int 0])), (h9, .inr (7, [.int 0, .int 0, .int 0, .int 0, .int 0])), (h7, .inl (y3, 64, .inl (fun _ => 0))), (h1, .inl (y4, 1, .inr (.inl (fun _ => 0))))] sz) U U.heap)) (va_Qi (fun (r : Int32) (u : Int32 × Int32 × (Nat → Int32) × (Nat → Int64)) => r = 0 ∧ iv u.1 0 65535 ∧ iv u.2.1 2 65536 ∧ (∀ j, iv (u.2.2.1 j) 0 119) ∧ u.2.2.1 0 = 119 ∧ u.2.2.1 1 = 111 ∧ u.2.2.1 2 = 114 ∧ u.2.2.1 3 = 100 ∧ u.2.2.1 4 = 32 ∧ u.2.2.1 5 = 48 ∧ u.2.2.2 0 = 6 ∧ True) (fun (u : Int32 × Int32 × (Nat → Int32) × (Nat → Int64)) (t : State) => va_P (dC, dI) vwCl [(h0, .inr (11, [.ref h2, .ref h3, .ref h4, .ref h5, .ref h6, .int 0, .int 0])), (h6, .inr (8, [.ref h7, .ref h3, .int 6, .int u.1, .int u.2.1])), (h3, .inr (1, [.ref h8, .ref h9, .ref h10, .ref h11])), (h8, .inl (y0, 32768, .inl (fun _ => 0))), (h11, .inr (9, [.ref h12, .ref h13, .int 0, .int 0, .int 0, .int 0])), (h13, .inl (y1, 3, .inl (fun _ => 0))), (h12, .inl (y2, 3, .inl (fun _ => 0))), (h10, .inr (5, [.int 304, .int 0, .int 0, .int 0, .int 0, .int 0])), (h9, .inr (7, [.int 0, .int 0, .int 0, .int 0, .int 0])), (h7, .inl (y3, 64, .inl u.2.2.1)), (h1, .inl (y4, 1, .inr (.inl u.2.2.2)))] t.heap ∧ va_K (dC, dI) vwCl [(y0, .int), (y1, .int), (y2, .int), (y3, .int), (y4, .long)] t ∧ va_D (va_A [(h0, .inr (11, [.ref h2, .ref h3, .ref h4, .ref h5, .ref h6, .int 0, .int 0])), (h6, .inr (8, [.ref h7, .ref h3, .int 0, .int 0, .int 0])), (h3, .inr (1, [.ref h8, .ref h9, .ref h10, .ref h11])), (h8, .inl (y0, 32768, .inl (fun _ => 0))), (h11, .inr (9, [.ref h12, .ref h13, .int 0, .int 0, .int 0, .int 0])), (h13, .inl (y1, 3, .inl (fun _ => 0))), (h12, .inl (y2, 3, .inl (fun _ => 0))), (h10, .inr (5, [.int 304, .int 0, .int 0, .int 0, .int 0, .int 0])), (h9, .inr (7, [.int 0, .int 0, .int 0, .int 0, .int 0])), (h7, .inl (y3, 64, .inl (fun _ => 0))), (h1, .inl (y4, 1, .inr (.inl (fun _ => 0))))] sz) [(h0, .inr (11, [.ref h2, .ref h3, .ref h4, .ref h5, .ref h6, .int 0, .int 0])), (h6, .inr (8, [.ref h7, .ref h3, .int 6, .int u.1, .int u.2.1])), (h3, .inr (1, [.ref h8, .ref h9, .ref h10, .ref h11])), (h8, .inl (y0, 32768, .inl (fun _ => 0))), (h11, .inr (9, [.ref h12, .ref h13, .int 0, .int 0, .int 0, .int 0])), (h13, .inl (y1, 3, .inl (fun _ => 0))), (h12, .inl (y2, 3, .inl (fun _ => 0))), (h10, .inr (5, [.int 304, .int 0, .int 0, .int 0, .int 0, .int 0])), (h9, .inr (7, [.int 0, .int 0, .int 0, .int 0, .int 0])), (h7, .inl (y3, 64, .inl u.2.2.1)), (h1, .inl (y4, 1, .inr (.inl u.2.2.2)))]) (va_A [(h0, .inr (11, [.ref h2, .ref h3, .ref h4, .ref h5, .ref h6, .int 0, .int 0])), (h6, .inr (8, [.ref h7, .ref h3, .int 0, .int 0, .int 0])), (h3, .inr (1, [.ref h8, .ref h9, .ref h10, .ref h11])), (h8, .inl (y0, 32768, .inl (fun _ => 0))), (h11, .inr (9, [.ref h12, .ref h13, .int 0, .int 0, .int 0, .int 0])), (h13, .inl (y1, 3, .inl (fun _ => 0))), (h12, .inl (y2, 3, .inl (fun _ => 0))), (h10, .inr (5, [.int 304, .int 0, .int 0, .int 0, .int 0, .int 0])), (h9, .inr (7, [.int 0, .int 0, .int 0, .int 0, .int 0])), (h7, .inl (y3, 64, .inl (fun _ => 0))), (h1, .inl (y4, 1, .inr (.inl (fun _ => 0))))] sz)) 0 0 (va_A [(h0, .inr (11, [.ref h2, .ref h3, .ref h4, .ref h5, .ref h6, .int 0, .int 0])), (h6, .inr (8, [.ref h7, .ref h3, .int 0, .int 0, .int 0])), (h3, .inr (1, [.ref h8, .ref h9, .ref h10, .ref h11])), (h8, .inl (y0, 32768, .inl (fun _ => 0))), (h11, .inr (9, [.ref h12, .ref h13, .int 0, .int 0, .int 0, .int 0])), (h13, .inl (y1, 3, .inl (fun _ => 0))), (h12, .inl (y2, 3, .inl (fun _ => 0))), (h10, .inr (5, [.int 304, .int 0, .int 0, .int 0, .int 0, .int 0])), (h9, .inr (7, [.int 0, .int 0, .int 0, .int 0, .int 0])), (h7, .inl (y3, 64, .inl (fun _ => 0))), (h1, .inl (y4, 1, .inr (.inl (fun _ => 0))))] sz) := by
  refine va_MetW (cc := cL_list) (maxL := 4) (ret := (some .int)) (by decide) rfl ?_
  intro p e s m args below meth c s₁ B hml hv
  obtain ⟨rfl, hsz, hP, hK, hD0, hE⟩ := hv
  have hx := B.exec
  have hb := B.bytes
  have hr := B.returns
  have hts0 := atoms_spec (ws := Cond.codeWith yL_list cL_list 4 (some .int) [(0, 9, 12, 19)] :: lw_G) B.pre
  have htab := vx_table (x := x) B (hts0 _ List.mem_cons_self)
  have hG : ∀ w ∈ lw_G, w.before _ s = true := fun w h => hts0 w (List.mem_cons_of_mem _ h)
  have hown : s.vm.findClass RL = some m.cls := findClass_of_methodNamed B.named
  have hlocks := B.notSynchronized
  subst hsz
  have hD := hD0.self (sz := s.heap.size)
  generalize hAe : va_A [(h0, .inr (11, [.ref h2, .ref h3, .ref h4, .ref h5, .ref h6, .int 0, .int 0])), (h6, .inr (8, [.ref h7, .ref h3, .int 0, .int 0, .int 0])), (h3, .inr (1, [.ref h8, .ref h9, .ref h10, .ref h11])), (h8, .inl (y0, 32768, .inl (fun _ => 0))), (h11, .inr (9, [.ref h12, .ref h13, .int 0, .int 0, .int 0, .int 0])), (h13, .inl (y1, 3, .inl (fun _ => 0))), (h12, .inl (y2, 3, .inl (fun _ => 0))), (h10, .inr (5, [.int 304, .int 0, .int 0, .int 0, .int 0, .int 0])), (h9, .inr (7, [.int 0, .int 0, .int 0, .int 0, .int 0])), (h7, .inl (y3, 64, .inl (fun _ => 0))), (h1, .inl (y4, 1, .inr (.inl (fun _ => 0))))] s.heap.size = A at hD hE ⊢
  have hA : ∀ q : Nat, s.heap.size ≤ q → A q := fun q h => by rw [← hAe]; exact Or.inr h
  have hS : va_S A s.heap s.heap [] := va_S.rf
  have hP : va_P (dC, dI) vwCl [(h0, .inr (11, [.ref h2, .ref h3, .ref h4, .ref h5, .ref h6, .int 0, .int 0])), (h6, .inr (8, [.ref h7, .ref h3, .int 0, .int 0, .int 0])), (h3, .inr (1, [.ref h8, .ref h9, .ref h10, .ref h11])), (h8, .inl (y0, 32768, .inl (fun _ => 0))), (h11, .inr (9, [.ref h12, .ref h13, .int 0, .int 0, .int 0, .int 0])), (h13, .inl (y1, 3, .inl (fun _ => 0))), (h12, .inl (y2, 3, .inl (fun _ => 0))), (h10, .inr (5, [.int 304, .int 0, .int 0, .int 0, .int 0, .int 0])), (h9, .inr (7, [.int 0, .int 0, .int 0, .int 0, .int 0])), (h7, .inl (y3, 64, .inl (fun _ => 0))), (h1, .inl (y4, 1, .inr (.inl (fun _ => 0))))] s.heap := hP
  have hl := lv_entry ([.ref h0, .int x0, .ref h1]) (n := 4) (Nat.le_of_ble_eq_true rfl)
  rw [lg_entry_eq]
  generalize (lg_sl ([.ref h0, .int x0, .ref h1]) ++ List.replicate (4 - (lg_sl ([.ref h0, .int x0, .ref h1])).length) Slot.unset).toArray = ls at hl ⊢
  have hl : lv_has ls 4 [(0, .ref h0), (1, .int x0), (2, .ref h1)] := hl
  refine lv_aload_n hx hb dL_list_0 rfl (lv_at hl 2 rfl) ?_
  refine lv_iconst (v := 0) hx hb dL_list_1 (by decide) ?_
  refine lv_aload_n hx hb dL_list_2 rfl (lv_at hl 0 rfl) ?_
  refine lv_iload_n hx hb dL_list_3 rfl (lv_at hl 1 rfl) ?_
  have hPc := hP.sub (ws' := [(h0, .inr (11, [.ref h2, .ref h3, .ref h4, .ref h5, .ref h6, .int 0, .int 0])), (h6, .inr (8, [.ref h7, .ref h3, .int 0, .int 0, .int 0])), (h3, .inr (1, [.ref h8, .ref h9, .ref h10, .ref h11])), (h8, .inl (y0, 32768, .inl (fun _ => 0))), (h11, .inr (9, [.ref h12, .ref h13, .int 0, .int 0, .int 0, .int 0])), (h13, .inl (y1, 3, .inl (fun _ => 0))), (h12, .inl (y2, 3, .inl (fun _ => 0))), (h10, .inr (5, [.int 304, .int 0, .int 0, .int 0, .int 0, .int 0])), (h9, .inr (7, [.int 0, .int 0, .int 0, .int 0, .int 0])), (h7, .inl (y3, 64, .inl (fun _ => 0)))]) [0, 1, 2, 3, 4, 5, 6, 7, 8, 9] rfl
  have hDc := hD.sub (ws' := [(h0, .inr (11, [.ref h2, .ref h3, .ref h4, .ref h5, .ref h6, .int 0, .int 0])), (h6, .inr (8, [.ref h7, .ref h3, .int 0, .int 0, .int 0])), (h3, .inr (1, [.ref h8, .ref h9, .ref h10, .ref h11])), (h8, .inl (y0, 32768, .inl (fun _ => 0))), (h11, .inr (9, [.ref h12, .ref h13, .int 0, .int 0, .int 0, .int 0])), (h13, .inl (y1, 3, .inl (fun _ => 0))), (h12, .inl (y2, 3, .inl (fun _ => 0))), (h10, .inr (5, [.int 304, .int 0, .int 0, .int 0, .int 0, .int 0])), (h9, .inr (7, [.int 0, .int 0, .int 0, .int 0, .int 0])), (h7, .inl (y3, 64, .inl (fun _ => 0)))]) [0, 1, 2, 3, 4, 5, 6, 7, 8, 9] (by decide) rfl
  have hKc := hK.sub (tys' := [(y0, .int), (y1, .int), (y2, .int), (y3, .int)]) [0, 1, 2, 3] rfl
  have hFc := va_free (wc := [(h0, .inr (11, [.ref h2, .ref h3, .ref h4, .ref h5, .ref h6, .int 0, .int 0])), (h6, .inr (8, [.ref h7, .ref h3, .int 0, .int 0, .int 0])), (h3, .inr (1, [.ref h8, .ref h9, .ref h10, .ref h11])), (h8, .inl (y0, 32768, .inl (fun _ => 0))), (h11, .inr (9, [.ref h12, .ref h13, .int 0, .int 0, .int 0, .int 0])), (h13, .inl (y1, 3, .inl (fun _ => 0))), (h12, .inl (y2, 3, .inl (fun _ => 0))), (h10, .inr (5, [.int 304, .int 0, .int 0, .int 0, .int 0, .int 0])), (h9, .inr (7, [.int 0, .int 0, .int 0, .int 0, .int 0])), (h7, .inl (y3, 64, .inl (fun _ => 0)))]) hD hS hA [0, 1, 2, 3, 4, 5, 6, 7, 8, 9] rfl
  refine va_calli (va_runV (As := [.int x0]) (rest := [.int 0, .ref h1]) ⟨hx, hb, hml, hown, hG⟩ (cX11_list_3 l dC dI adK adV h0 h2 h3 h4 h5 h6 h7 h8 h9 h10 h11 h12 h13 y0 y1 y2 y3 s.heap.size x0 ix0) (cwV 1 hG (gV wd_1174 wd_1175 wd_1176 wd_1 wd_1177) rfl rfl rfl (by decide +kernel) ⟨Nat.le_of_ble_eq_true rfl, Nat.le_of_ble_eq_true rfl⟩) ⟨fun a U g mk q => by obtain ⟨q0, q1, qP, qK, qD, qE⟩ := q; exact ⟨q0, q1, qP, va_K.moved (u := U) (U := U.calling g mk a) (Vm.Alike.refl U.vm) qK, qD, qE.same rfl⟩, va_recv hKc hPc (ci := 11) (q0 := 0) rfl rfl, fun U hU hW => ⟨rfl, by rw [hU], by rw [hU]; exact hPc, va_K.moved hW.alike hKc, hDc.weaken (fun _ _ _ _ => trivial), by rw [hU]; exact ((hE.kept hS.2.1).narrow hFc).warm hW⟩⟩ rfl rfl hl.1 rfl (lv_room (Nat.le_of_ble_eq_true rfl)) dL_list_4 ⟨by decide, by decide⟩) hS (fun q _ h => hFc q h) hFc (fun r1 u2 t H1 locs ht hvm hw hB hz1 hk1 hS => ?_)
  obtain ⟨u2_0, u2_1, u2_2⟩ := u2
  have hw : r1 = 6 ∧ iv u2_0 0 65535 ∧ iv u2_1 2 65536 ∧ (∀ j, iv (u2_2 j) 0 119) ∧ u2_2 0 = 119 ∧ u2_2 1 = 111 ∧ u2_2 2 = 114 ∧ u2_2 3 = 100 ∧ u2_2 4 = 32 ∧ u2_2 5 = 48 ∧ True := hw
  obtain ⟨er1, iu2_0, iu2_1, iu2_2, ku2_2_0, ku2_2_1, ku2_2_2, ku2_2_3, ku2_2_4, ku2_2_5, -⟩ := hw
  obtain ⟨hP1, hK1, hD1⟩ := hB
  rw [ht] at hP1
  have hK1 := va_K.moved hvm.symm hK1
  obtain ⟨hP, hD⟩ := va_join (wr := [(h1, .inl (y4, 1, .inr (.inl (fun _ => 0))))]) (w1 := [(h0, .inr (11, [.ref h2, .ref h3, .ref h4, .ref h5, .ref h6, .int 0, .int 0])), (h6, .inr (8, [.ref h7, .ref h3, .int 6, .int u2_0, .int u2_1])), (h3, .inr (1, [.ref h8, .ref h9, .ref h10, .ref h11])), (h8, .inl (y0, 32768, .inl (fun _ => 0))), (h11, .inr (9, [.ref h12, .ref h13, .int 0, .int 0, .int 0, .int 0])), (h13, .inl (y1, 3, .inl (fun _ => 0))), (h12, .inl (y2, 3, .inl (fun _ => 0))), (h10, .inr (5, [.int 304, .int 0, .int 0, .int 0, .int 0, .int 0])), (h9, .inr (7, [.int 0, .int 0, .int 0, .int 0, .int 0])), (h7, .inl (y3, 64, .inl u2_2))]) hP hD [0, 1, 2, 3, 4, 5, 6, 7, 8, 9] [10] rfl rfl (by decide) (by decide) hk1 hFc hP1 hD1
  have hK := (hK.sub (tys' := [(y4, .long)]) [4] rfl).app hK1
  generalize H1 = H at hP hS ⊢
  have hP : va_P (dC, dI) vwCl [(h1, .inl (y4, 1, .inr (.inl (fun _ => 0)))), (h0, .inr (11, [.ref h2, .ref h3, .ref h4, .ref h5, .ref h6, .int 0, .int 0])), (h6, .inr (8, [.ref h7, .ref h3, .int 6, .int u2_0, .int u2_1])), (h3, .inr (1, [.ref h8, .ref h9, .ref h10, .ref h11])), (h8, .inl (y0, 32768, .inl (fun _ => 0))), (h11, .inr (9, [.ref h12, .ref h13, .int 0, .int 0, .int 0, .int 0])), (h13, .inl (y1, 3, .inl (fun _ => 0))), (h12, .inl (y2, 3, .inl (fun _ => 0))), (h10, .inr (5, [.int 304, .int 0, .int 0, .int 0, .int 0, .int 0])), (h9, .inr (7, [.int 0, .int 0, .int 0, .int 0, .int 0])), (h7, .inl (y3, 64, .inl u2_2))] H := hP
  have hD : va_D A [(h1, .inl (y4, 1, .inr (.inl (fun _ => 0)))), (h0, .inr (11, [.ref h2, .ref h3, .ref h4, .ref h5, .ref h6, .int 0, .int 0])), (h6, .inr (8, [.ref h7, .ref h3, .int 6, .int u2_0, .int u2_1])), (h3, .inr (1, [.ref h8, .ref h9, .ref h10, .ref h11])), (h8, .inl (y0, 32768, .inl (fun _ => 0))), (h11, .inr (9, [.ref h12, .ref h13, .int 0, .int 0, .int 0, .int 0])), (h13, .inl (y1, 3, .inl (fun _ => 0))), (h12, .inl (y2, 3, .inl (fun _ => 0))), (h10, .inr (5, [.int 304, .int 0, .int 0, .int 0, .int 0, .int 0])), (h9, .inr (7, [.int 0, .int 0, .int 0, .int 0, .int 0])), (h7, .inl (y3, 64, .inl u2_2))] := hD
  have hK : va_K (dC, dI) vwCl [(y4, .long), (y0, .int), (y1, .int), (y2, .int), (y3, .int)] s := hK
  subst er1
  refine lv_i2l (v := _) hx hb dL_list_7 rfl ?_
  refine lv_valL (y := 6) (by decide +kernel) ?_
  refine va_last hx hb hK hP hD hS 0 0 rfl rfl (iv_in (by decide : iv 0 0 0) (by decide) (by decide) : vp_in 0 1) dL_list_8 (fun H locs hP hD hS => ?_)
  have hP : va_P (dC, dI) vwCl [(h1, .inl (y4, 1, .inr (.inl (vp_updL (fun _ => 0) (0 : Int32).toNatClampNeg 6)))), (h0, .inr (11, [.ref h2, .ref h3, .ref h4, .ref h5, .ref h6, .int 0, .int 0])), (h6, .inr (8, [.ref h7, .ref h3, .int 6, .int u2_0, .int u2_1])), (h3, .inr (1, [.ref h8, .ref h9, .ref h10, .ref h11])), (h8, .inl (y0, 32768, .inl (fun _ => 0))), (h11, .inr (9, [.ref h12, .ref h13, .int 0, .int 0, .int 0, .int 0])), (h13, .inl (y1, 3, .inl (fun _ => 0))), (h12, .inl (y2, 3, .inl (fun _ => 0))), (h10, .inr (5, [.int 304, .int 0, .int 0, .int 0, .int 0, .int 0])), (h9, .inr (7, [.int 0, .int 0, .int 0, .int 0, .int 0])), (h7, .inl (y3, 64, .inl u2_2))] H := hP
  have hD : va_D A [(h1, .inl (y4, 1, .inr (.inl (vp_updL (fun _ => 0) (0 : Int32).toNatClampNeg 6)))), (h0, .inr (11, [.ref h2, .ref h3, .ref h4, .ref h5, .ref h6, .int 0, .int 0])), (h6, .inr (8, [.ref h7, .ref h3, .int 6, .int u2_0, .int u2_1])), (h3, .inr (1, [.ref h8, .ref h9, .ref h10, .ref h11])), (h8, .inl (y0, 32768, .inl (fun _ => 0))), (h11, .inr (9, [.ref h12, .ref h13, .int 0, .int 0, .int 0, .int 0])), (h13, .inl (y1, 3, .inl (fun _ => 0))), (h12, .inl (y2, 3, .inl (fun _ => 0))), (h10, .inr (5, [.int 304, .int 0, .int 0, .int 0, .int 0, .int 0])), (h9, .inr (7, [.int 0, .int 0, .int 0, .int 0, .int 0])), (h7, .inl (y3, 64, .inl u2_2))] := hD
  obtain ⟨f3, ef3⟩ : ∃ z, z = vp_updL (fun _ => 0) (0 : Int32).toNatClampNeg 6 := ⟨_, rfl⟩
  rw [← ef3] at hP hD
  refine lv_goto (tgt := 15) hx hb dL_list_9 (by decide) ?_
  refine lv_iconst (v := 0) hx hb dL_list_15 (by decide) ?_
  have hP9 := hP.sub (ws' := [(h0, .inr (11, [.ref h2, .ref h3, .ref h4, .ref h5, .ref h6, .int 0, .int 0])), (h6, .inr (8, [.ref h7, .ref h3, .int 6, .int u2_0, .int u2_1])), (h3, .inr (1, [.ref h8, .ref h9, .ref h10, .ref h11])), (h8, .inl (y0, 32768, .inl (fun _ => 0))), (h11, .inr (9, [.ref h12, .ref h13, .int 0, .int 0, .int 0, .int 0])), (h13, .inl (y1, 3, .inl (fun _ => 0))), (h12, .inl (y2, 3, .inl (fun _ => 0))), (h10, .inr (5, [.int 304, .int 0, .int 0, .int 0, .int 0, .int 0])), (h9, .inr (7, [.int 0, .int 0, .int 0, .int 0, .int 0])), (h7, .inl (y3, 64, .inl u2_2)), (h1, .inl (y4, 1, .inr (.inl f3)))]) [1, 2, 3, 4, 5, 6, 7, 8, 9, 10, 0] rfl
  have hD9 := hD.sub (ws' := [(h0, .inr (11, [.ref h2, .ref h3, .ref h4, .ref h5, .ref h6, .int 0, .int 0])), (h6, .inr (8, [.ref h7, .ref h3, .int 6, .int u2_0, .int u2_1])), (h3, .inr (1, [.ref h8, .ref h9, .ref h10, .ref h11])), (h8, .inl (y0, 32768, .inl (fun _ => 0))), (h11, .inr (9, [.ref h12, .ref h13, .int 0, .int 0, .int 0, .int 0])), (h13, .inl (y1, 3, .inl (fun _ => 0))), (h12, .inl (y2, 3, .inl (fun _ => 0))), (h10, .inr (5, [.int 304, .int 0, .int 0, .int 0, .int 0, .int 0])), (h9, .inr (7, [.int 0, .int 0, .int 0, .int 0, .int 0])), (h7, .inl (y3, 64, .inl u2_2)), (h1, .inl (y4, 1, .inr (.inl f3)))]) [1, 2, 3, 4, 5, 6, 7, 8, 9, 10, 0] (by decide) rfl
  have hK9 := hK.sub (tys' := [(y0, .int), (y1, .int), (y2, .int), (y3, .int), (y4, .long)]) [1, 2, 3, 4, 0] rfl
  exact W.iret (v := 0) hx hb hr (fun t ht hW => ⟨⟨0, (u2_0, u2_1, u2_2, f3), rfl, ⟨rfl, iv_w iu2_0 (by decide) (by decide), iv_w iu2_1 (by decide) (by decide), (fun j => iv_w (iu2_2 j) (by decide) (by decide)), ku2_2_0, ku2_2_1, ku2_2_2, ku2_2_3, ku2_2_4, ku2_2_5, (kuL ef3 (by decide)), trivial⟩, by rw [ht]; exact hP9, va_K.moved hW.alike hK9, hD9⟩, hS.F ht⟩) hS.2.2 dL_list_16
set_option maxHeartbeats 4000000 in
set_option maxRecDepth 100000 in
theorem cX11_octet_1 (l : Launch) (hst : l.stackTraces = false) (dC : Nat → ClassId) (dI : Nat → Nat → Nat) (adK adV : Nat → Nat) (h0 h1 h2 h3 h4 h5 : Nat) (sz : Nat) (x0 : Int32) (ix0 : iv x0 (-2147483648) (-1)) : vx_Met l yX11_octet (Cond.code yX11_octet cX11_octet 2 (some .int) :: lw_G) ({ frames := 6, cells := 1, slots := 6, locals := 82 }) (va_Pc [.ref h0, .int x0] (fun U => U.heap.size = sz ∧ va_P (dC, dI) vwCl [(h0, .inr (11, [.ref h1, .ref h2, .ref h3, .ref h4, .ref h5, .int 0, .int 0]))] U.heap ∧ va_K (dC, dI) vwCl [] U ∧ va_D (fun _ => True) [(h0, .inr (11, [.ref h1, .ref h2, .ref h3, .ref h4, .ref h5, .int 0, .int 0]))] ∧ ev adK adV (va_A [(h0, .inr (11, [.ref h1, .ref h2, .ref h3, .ref h4, .ref h5, .int 0, .int 0]))] sz) U U.heap)) (va_Qi (fun (_ : Int32) (_ : Unit) => False) (fun _ _ => True) (va_A [(h0, .inr (11, [.ref h1, .ref h2, .ref h3, .ref h4, .ref h5, .int 0, .int 0]))] sz)) (vx_X (fun (_ : Unit) => True) (fun (E : String) (_ : Unit) (t : State) => E = "java/util/NoSuchElementException" ∧ va_P (dC, dI) vwCl [(h0, .inr (11, [.ref h1, .ref h2, .ref h3, .ref h4, .ref h5, .int 0, .int 0]))] t.heap ∧ va_K (dC, dI) vwCl [] t ∧ va_D (va_A [(h0, .inr (11, [.ref h1, .ref h2, .ref h3, .ref h4, .ref h5, .int 0, .int 0]))] sz) [(h0, .inr (11, [.ref h1, .ref h2, .ref h3, .ref h4, .ref h5, .int 0, .int 0]))]) (va_A [(h0, .inr (11, [.ref h1, .ref h2, .ref h3, .ref h4, .ref h5, .int 0, .int 0]))] sz)) 1 6 (va_A [(h0, .inr (11, [.ref h1, .ref h2, .ref h3, .ref h4, .ref h5, .int 0, .int 0]))] sz) := by
  refine vx_ofW (cc := cX11_octet) (maxL := 2) (ret := (some .int)) (by decide) rfl ?_
  intro p e s m args below meth c s₁ B hml htab hv
  obtain ⟨rfl, hsz, hP, hK, hD0, hE⟩ := hv
  have hx := B.exec
  have hb := B.bytes
  have hr := B.returns
  have hts0 := atoms_spec (ws := Cond.code yX11_octet cX11_octet 2 (some .int) :: lw_G) B.pre
  have hG : ∀ w ∈ lw_G, w.before _ s = true := fun w h => hts0 w (List.mem_cons_of_mem _ h)
  have hown : s.vm.findClass RX11 = some m.cls := findClass_of_methodNamed B.named
  have hlocks := B.notSynchronized
  subst hsz
  have hD := hD0.self (sz := s.heap.size)
  generalize hAe : va_A [(h0, .inr (11, [.ref h1, .ref h2, .ref h3, .ref h4, .ref h5, .int 0, .int 0]))] s.heap.size = A at hD hE ⊢
  have hA : ∀ q : Nat, s.heap.size ≤ q → A q := fun q h => by rw [← hAe]; exact Or.inr h
  have hS : va_S A s.heap s.heap [] := va_S.rf
  have hP : va_P (dC, dI) vwCl [(h0, .inr (11, [.ref h1, .ref h2, .ref h3, .ref h4, .ref h5, .int 0, .int 0]))] s.heap := hP
  have hl := lv_entry ([.ref h0, .int x0]) (n := 2) (Nat.le_of_ble_eq_true rfl)
  rw [lg_entry_eq]
  generalize (lg_sl ([.ref h0, .int x0]) ++ List.replicate (2 - (lg_sl ([.ref h0, .int x0])).length) Slot.unset).toArray = ls at hl ⊢
  have hl : lv_has ls 2 [(0, .ref h0), (1, .int x0)] := hl
  refine lv_iload_n hx hb dX11_octet_0 rfl (lv_at hl 1 rfl) ?_
  refine lv_if_lt (tgt := 15) hx hb dX11_octet_1 (by decide) (fun _ => ?_) (fun c => absurd (iv_lt ix0 (by decide : iv 0 0 0) (by decide)) c)
  have hP9 := hP.sub (ws' := [(h0, .inr (11, [.ref h1, .ref h2, .ref h3, .ref h4, .ref h5, .int 0, .int 0]))]) [0] rfl
  have hD9 := hD.sub (ws' := [(h0, .inr (11, [.ref h1, .ref h2, .ref h3, .ref h4, .ref h5, .int 0, .int 0]))]) [0] (by decide) rfl
  have hK9 := hK.sub (tys' := []) [] rfl
  refine nx_throw (own := RX11) (cls := "java/util/NoSuchElementException") (text := evT5) (names := ["java/lang/RuntimeException", "java/lang/Exception"]) hx hb hst (by decide +kernel) (by decide +kernel) (by decide +kernel) (by decide +kernel) hown (by decide) (by decide) (hG _ wd_1245) (hG _ wd_25) (evR5 hE) (evA2 hE hG) evG2_149 hE.2.2.2.1 hE.2.2.2.2.1 hS (by rw [hml]; exact hl.1) dX11_octet_15 dX11_octet_18 dX11_octet_19 dX11_octet_21 dX11_octet_24 (fun x hx9 => (htab x hx9).elim) (by decide) (by decide) (by decide) (by decide) hlocks (fun t hvm9 hz9 hk9 => ⟨(), trivial, ⟨rfl, hP9.kept (fun k q hk => hk9 q.1 (vx_lt hP9 hk)), va_K.moved hvm9 hK9, hD9⟩, Nat.le_trans hS.1 hz9, fun q hq hA9 => (hk9 q (Nat.lt_of_lt_of_le hq hS.1)).trans (hS.2.1 q hq hA9)⟩) hS.2.2 (by decide) (by decide)
set_option maxHeartbeats 4000000 in
set_option maxRecDepth 100000 in
theorem cL_octet_1 (l : Launch) (hst : l.stackTraces = false) (dC : Nat → ClassId) (dI : Nat → Nat → Nat) (adK adV : Nat → Nat) (h0 h1 h2 h3 h4 h5 h6 : Nat) (sz : Nat) (x0 : Int32) (ix0 : iv x0 (-2147483648) (-1)) : Met l yL_octet (Cond.codeWith yL_octet cL_octet 4 (some .int) [(0, 9, 12, 38)] :: lw_G) ({ frames := 7, cells := 1, slots := 6, locals := 103 }) (va_Pc [.ref h0, .int x0, .ref h1] (fun U => U.heap.size = sz ∧ va_P (dC, dI) vwCl [(h0, .inr (11, [.ref h2, .ref h3, .ref h4, .ref h5, .ref h6, .int 0, .int 0]))] U.heap ∧ va_K (dC, dI) vwCl [] U ∧ va_D (fun _ => True) [(h0, .inr (11, [.ref h2, .ref h3, .ref h4, .ref h5, .ref h6, .int 0, .int 0]))] ∧ ev adK adV (va_A [(h0, .inr (11, [.ref h2, .ref h3, .ref h4, .ref h5, .ref h6, .int 0, .int 0]))] sz) U U.heap)) (va_Qi (fun (r : Int32) (u : Unit) => r = 1 ∧ True) (fun (u : Unit) (t : State) => va_P (dC, dI) vwCl [(h0, .inr (11, [.ref h2, .ref h3, .ref h4, .ref h5, .ref h6, .int 0, .int 0]))] t.heap ∧ va_K (dC, dI) vwCl [] t ∧ va_D (va_A [(h0, .inr (11, [.ref h2, .ref h3, .ref h4, .ref h5, .ref h6, .int 0, .int 0]))] sz) [(h0, .inr (11, [.ref h2, .ref h3, .ref h4, .ref h5, .ref h6, .int 0, .int 0]))]) (va_A [(h0, .inr (11, [.ref h2, .ref h3, .ref h4, .ref h5, .ref h6, .int 0, .int 0]))] sz)) 1 6 (va_A [(h0, .inr (11, [.ref h2, .ref h3, .ref h4, .ref h5, .ref h6, .int 0, .int 0]))] sz) := by
  refine va_MetW (cc := cL_octet) (maxL := 4) (ret := (some .int)) (by decide) rfl ?_
  intro p e s m args below meth c s₁ B hml hv
  obtain ⟨rfl, hsz, hP, hK, hD0, hE⟩ := hv
  have hx := B.exec
  have hb := B.bytes
  have hr := B.returns
  have hts0 := atoms_spec (ws := Cond.codeWith yL_octet cL_octet 4 (some .int) [(0, 9, 12, 38)] :: lw_G) B.pre
  have htab := vx_table (x := x) B (hts0 _ List.mem_cons_self)
  have hG : ∀ w ∈ lw_G, w.before _ s = true := fun w h => hts0 w (List.mem_cons_of_mem _ h)
  have hown : s.vm.findClass RL = some m.cls := findClass_of_methodNamed B.named
  have hlocks := B.notSynchronized
  subst hsz
  have hD := hD0.self (sz := s.heap.size)
  generalize hAe : va_A [(h0, .inr (11, [.ref h2, .ref h3, .ref h4, .ref h5, .ref h6, .int 0, .int 0]))] s.heap.size = A at hD hE ⊢
  have hA : ∀ q : Nat, s.heap.size ≤ q → A q := fun q h => by rw [← hAe]; exact Or.inr h
  have hS : va_S A s.heap s.heap [] := va_S.rf
  have hP : va_P (dC, dI) vwCl [(h0, .inr (11, [.ref h2, .ref h3, .ref h4, .ref h5, .ref h6, .int 0, .int 0]))] s.heap := hP
  have hl := lv_entry ([.ref h0, .int x0, .ref h1]) (n := 4) (Nat.le_of_ble_eq_true rfl)
  rw [lg_entry_eq]
  generalize (lg_sl ([.ref h0, .int x0, .ref h1]) ++ List.replicate (4 - (lg_sl ([.ref h0, .int x0, .ref h1])).length) Slot.unset).toArray = ls at hl ⊢
  have hl : lv_has ls 4 [(0, .ref h0), (1, .int x0), (2, .ref h1)] := hl
  refine lv_aload_n hx hb dL_octet_0 rfl (lv_at hl 2 rfl) ?_
  refine lv_iconst (v := 0) hx hb dL_octet_1 (by decide) ?_
  refine lv_aload_n hx hb dL_octet_2 rfl (lv_at hl 0 rfl) ?_
  refine lv_iload_n hx hb dL_octet_3 rfl (lv_at hl 1 rfl) ?_
  have hPc := hP.sub (ws' := [(h0, .inr (11, [.ref h2, .ref h3, .ref h4, .ref h5, .ref h6, .int 0, .int 0]))]) [0] rfl
  have hDc := hD.sub (ws' := [(h0, .inr (11, [.ref h2, .ref h3, .ref h4, .ref h5, .ref h6, .int 0, .int 0]))]) [0] (by decide) rfl
  have hKc := hK.sub (tys' := []) [] rfl
  have hFc := va_free (wc := [(h0, .inr (11, [.ref h2, .ref h3, .ref h4, .ref h5, .ref h6, .int 0, .int 0]))]) hD hS hA [0] rfl
  refine vx_calli (vx_runV (As := [.int x0]) (rest := [.int 0, .ref h1]) ⟨hx, hb, hml, hown, hG⟩ (cX11_octet_1 l hst dC dI adK adV h0 h2 h3 h4 h5 h6 s.heap.size x0 ix0) (cwV 1 hG (gV wd_1241 wd_1242 wd_1243 wd_1 wd_1244) rfl rfl rfl (by decide +kernel) ⟨Nat.le_of_ble_eq_true rfl, Nat.le_of_ble_eq_true rfl⟩) ⟨fun a U g mk q => by obtain ⟨q0, q1, qP, qK, qD, qE⟩ := q; exact ⟨q0, q1, qP, va_K.moved (u := U) (U := U.calling g mk a) (Vm.Alike.refl U.vm) qK, qD, qE.same rfl⟩, va_recv hKc hPc (ci := 11) (q0 := 0) rfl rfl, fun U hU hW => ⟨rfl, by rw [hU], by rw [hU]; exact hPc, va_K.moved hW.alike hKc, hDc.weaken (fun _ _ _ _ => trivial), by rw [hU]; exact ((hE.kept hS.2.1).narrow hFc).warm hW⟩⟩ rfl rfl hl.1 rfl (lv_room (Nat.le_of_ble_eq_true rfl)) dL_octet_4 ⟨by decide, by decide⟩) hS (fun q _ h => hFc q h) hFc (fun q _ h => hFc q h) (fun E9 ce q1 u9 t H1 locs ht hvm hpx hB hz1 hk1 hS hce hcv hcl => ?_) (fun r u t H1 locs ht hvm hw hB hz1 hk1 hS => hw.elim)
  obtain ⟨rfl, hP1, hK1, hD1⟩ := hB
  rw [ht] at hP1
  have hK1 := va_K.moved hvm.symm hK1
  obtain ⟨hP, hD⟩ := va_join (wr := []) (w1 := [(h0, .inr (11, [.ref h2, .ref h3, .ref h4, .ref h5, .ref h6, .int 0, .int 0]))]) hP hD [0] [] rfl rfl (by decide) (by decide) hk1 hFc hP1 hD1
  have hK := (hK.sub (tys' := []) [] rfl).app hK1
  generalize H1 = H at hP hS hce ⊢
  have hP : va_P (dC, dI) vwCl [(h0, .inr (11, [.ref h2, .ref h3, .ref h4, .ref h5, .ref h6, .int 0, .int 0]))] H := hP
  have hD : va_D A [(h0, .inr (11, [.ref h2, .ref h3, .ref h4, .ref h5, .ref h6, .int 0, .int 0]))] := hD
  have hK : va_K (dC, dI) vwCl [] s := hK
  refine vx_widen (k := 1) (n := 6) (by decide) (by decide) ?_
  refine vx_catch (name := "java/util/NoSuchElementException") hown [] { startPc := 0, endPc := 9, handlerPc := 12, catchType := 38 } [] (by rw [htab]; rfl) (fun z hz => nomatch hz) (by decide) (by decide) (hG _ wd_1240) (evC2 hE) hce hcv hcl ?_
  refine lv_astore_n (lv' := [(3, .ref q1), (0, .ref h0), (1, .int x0), (2, .ref h1)]) hx hb dL_octet_12 rfl hl (by decide) rfl (fun ls hl => ?_)
  refine lv_iconst (v := 1) hx hb dL_octet_13 (by decide) ?_
  have hP9 := hP.sub (ws' := [(h0, .inr (11, [.ref h2, .ref h3, .ref h4, .ref h5, .ref h6, .int 0, .int 0]))]) [0] rfl
  have hD9 := hD.sub (ws' := [(h0, .inr (11, [.ref h2, .ref h3, .ref h4, .ref h5, .ref h6, .int 0, .int 0]))]) [0] (by decide) rfl
  have hK9 := hK.sub (tys' := []) [] rfl
  refine W.widen (k := 1) (n := 6) (by decide) (by decide) ?_
  exact W.iret (v := 1) hx hb hr (fun t ht hW => ⟨⟨1, (), rfl, ⟨rfl, trivial⟩, by rw [ht]; exact hP9, va_K.moved hW.alike hK9, hD9⟩, hS.F ht⟩) hS.2.2 dL_octet_14
set_option maxHeartbeats 4000000 in
set_option maxRecDepth 100000 in
theorem cX11_octet_2 (l : Launch) (hst : l.stackTraces = false) (dC : Nat → ClassId) (dI : Nat → Nat → Nat) (adK adV : Nat → Nat) (h0 h1 h2 h3 h4 h5 h6 : Nat) (sz : Nat) (x0 : Int32) (ix0 : iv x0 0 2147483647) : vx_Met l yX11_octet (Cond.code yX11_octet cX11_octet 2 (some .int) :: lw_G) ({ frames := 6, cells := 1, slots := 6, locals := 82 }) (va_Pc [.ref h0, .int x0] (fun U => U.heap.size = sz ∧ va_P (dC, dI) vwCl [(h0, .inr (11, [.ref h1, .ref h2, .ref h3, .ref h4, .ref h5, .int 0, .int 0])), (h5, .inr (8, [.ref h6, .ref h2, .int 0, .int 0, .int 0]))] U.heap ∧ va_K (dC, dI) vwCl [] U ∧ va_D (fun _ => True) [(h0, .inr (11, [.ref h1, .ref h2, .ref h3, .ref h4, .ref h5, .int 0, .int 0])), (h5, .inr (8, [.ref h6, .ref h2, .int 0, .int 0, .int 0]))] ∧ ev adK adV (va_A [(h0, .inr (11, [.ref h1, .ref h2, .ref h3, .ref h4, .ref h5, .int 0, .int 0])), (h5, .inr (8, [.ref h6, .ref h2, .int 0, .int 0, .int 0]))] sz) U U.heap)) (va_Qi (fun (_ : Int32) (_ : Unit) => False) (fun _ _ => True) (va_A [(h0, .inr (11, [.ref h1, .ref h2, .ref h3, .ref h4, .ref h5, .int 0, .int 0])), (h5, .inr (8, [.ref h6, .ref h2, .int 0, .int 0, .int 0]))] sz)) (vx_X (fun (_ : Unit) => True) (fun (E : String) (_ : Unit) (t : State) => E = "java/util/NoSuchElementException" ∧ va_P (dC, dI) vwCl [(h0, .inr (11, [.ref h1, .ref h2, .ref h3, .ref h4, .ref h5, .int 0, .int 0])), (h5, .inr (8, [.ref h6, .ref h2, .int 0, .int 0, .int 0]))] t.heap ∧ va_K (dC, dI) vwCl [] t ∧ va_D (va_A [(h0, .inr (11, [.ref h1, .ref h2, .ref h3, .ref h4, .ref h5, .int 0, .int 0])), (h5, .inr (8, [.ref h6, .ref h2, .int 0, .int 0, .int 0]))] sz) [(h0, .inr (11, [.ref h1, .ref h2, .ref h3, .ref h4, .ref h5, .int 0, .int 0])), (h5, .inr (8, [.ref h6, .ref h2, .int 0, .int 0, .int 0]))]) (va_A [(h0, .inr (11, [.ref h1, .ref h2, .ref h3, .ref h4, .ref h5, .int 0, .int 0])), (h5, .inr (8, [.ref h6, .ref h2, .int 0, .int 0, .int 0]))] sz)) 1 6 (va_A [(h0, .inr (11, [.ref h1, .ref h2, .ref h3, .ref h4, .ref h5, .int 0, .int 0])), (h5, .inr (8, [.ref h6, .ref h2, .int 0, .int 0, .int 0]))] sz) := by
  refine vx_ofW (cc := cX11_octet) (maxL := 2) (ret := (some .int)) (by decide) rfl ?_
  intro p e s m args below meth c s₁ B hml htab hv
  obtain ⟨rfl, hsz, hP, hK, hD0, hE⟩ := hv
  have hx := B.exec
  have hb := B.bytes
  have hr := B.returns
  have hts0 := atoms_spec (ws := Cond.code yX11_octet cX11_octet 2 (some .int) :: lw_G) B.pre
  have hG : ∀ w ∈ lw_G, w.before _ s = true := fun w h => hts0 w (List.mem_cons_of_mem _ h)
  have hown : s.vm.findClass RX11 = some m.cls := findClass_of_methodNamed B.named
  have hlocks := B.notSynchronized
  subst hsz
  have hD := hD0.self (sz := s.heap.size)
  generalize hAe : va_A [(h0, .inr (11, [.ref h1, .ref h2, .ref h3, .ref h4, .ref h5, .int 0, .int 0])), (h5, .inr (8, [.ref h6, .ref h2, .int 0, .int 0, .int 0]))] s.heap.size = A at hD hE ⊢
  have hA : ∀ q : Nat, s.heap.size ≤ q → A q := fun q h => by rw [← hAe]; exact Or.inr h
  have hS : va_S A s.heap s.heap [] := va_S.rf
  have hP : va_P (dC, dI) vwCl [(h0, .inr (11, [.ref h1, .ref h2, .ref h3, .ref h4, .ref h5, .int 0, .int 0])), (h5, .inr (8, [.ref h6, .ref h2, .int 0, .int 0, .int 0]))] s.heap := hP
  have hl := lv_entry ([.ref h0, .int x0]) (n := 2) (Nat.le_of_ble_eq_true rfl)
  rw [lg_entry_eq]
  generalize (lg_sl ([.ref h0, .int x0]) ++ List.replicate (2 - (lg_sl ([.ref h0, .int x0])).length) Slot.unset).toArray = ls at hl ⊢
  have hl : lv_has ls 2 [(0, .ref h0), (1, .int x0)] := hl
  refine lv_iload_n hx hb dX11_octet_0 rfl (lv_at hl 1 rfl) ?_
  refine lv_if_lt (tgt := 15) hx hb dX11_octet_1 (by decide) (fun c => absurd c (iv_nlt ix0 (by decide : iv 0 0 0) (by decide))) (fun _ => ?_)
  refine lv_iload_n hx hb dX11_octet_4 rfl (lv_at hl 1 rfl) ?_
  refine lv_aload_n hx hb dX11_octet_5 rfl (lv_at hl 0 rfl) ?_
  refine va_get (D := (dC, dI)) (ci := 11) (v := .ref h5) (C := RX11) (T := TX11) (N := 7) hx hb hG inGX11 hown hK hP 0 rfl rfl 4 (by decide) (hG _ wd_399) (fun _ h9 => h9) rfl dX11_octet_6 ?_
  have hPc := hP.sub (ws' := [(h5, .inr (8, [.ref h6, .ref h2, .int 0, .int 0, .int 0]))]) [1] rfl
  have hDc := hD.sub (ws' := [(h5, .inr (8, [.ref h6, .ref h2, .int 0, .int 0, .int 0]))]) [1] (by decide) rfl
  have hKc := hK.sub (tys' := []) [] rfl
  have hFc := va_free (wc := [(h5, .inr (8, [.ref h6, .ref h2, .int 0, .int 0, .int 0]))]) hD hS hA [1] rfl
  refine va_calli (va_runV (As := []) (rest := [.int x0]) ⟨hx, hb, hml, hown, hG⟩ (cX8_length_1 l dC dI h5 h6 h2 s.heap.size) (cwV 0 hG (gV wd_870 wd_871 wd_872 wd_16 wd_873) rfl rfl rfl (by decide +kernel) ⟨Nat.le_of_ble_eq_true rfl, Nat.le_of_ble_eq_true rfl⟩) ⟨fun a U g mk q => by obtain ⟨q0, q1, qP, qK, qD⟩ := q; exact ⟨q0, q1, qP, va_K.moved (u := U) (U := U.calling g mk a) (Vm.Alike.refl U.vm) qK, qD⟩, va_recv hKc hPc (ci := 8) (q0 := 0) rfl rfl, fun U hU hW => ⟨rfl, by rw [hU], by rw [hU]; exact hPc, va_K.moved hW.alike hKc, hDc.weaken (fun _ _ _ _ => trivial)⟩⟩ rfl rfl hl.1 rfl (lv_room (Nat.le_of_ble_eq_true rfl)) dX11_octet_9 ⟨by decide, by decide⟩) hS (fun q _ h => hFc q h) hFc (fun r1 u2 t H1 locs ht hvm hw hB hz1 hk1 hS => ?_)
  have hw : r1 = 0 ∧ True := hw
  obtain ⟨er1, -⟩ := hw
  obtain ⟨hP1, hK1, hD1⟩ := hB
  rw [ht] at hP1
  have hK1 := va_K.moved hvm.symm hK1
  obtain ⟨hP, hD⟩ := va_join (wr := [(h0, .inr (11, [.ref h1, .ref h2, .ref h3, .ref h4, .ref h5, .int 0, .int 0]))]) (w1 := [(h5, .inr (8, [.ref h6, .ref h2, .int 0, .int 0, .int 0]))]) hP hD [1] [0] rfl rfl (by decide) (by decide) hk1 hFc hP1 hD1
  have hK := (hK.sub (tys' := []) [] rfl).app hK1
  generalize H1 = H at hP hS ⊢
  have hP : va_P (dC, dI) vwCl [(h0, .inr (11, [.ref h1, .ref h2, .ref h3, .ref h4, .ref h5, .int 0, .int 0])), (h5, .inr (8, [.ref h6, .ref h2, .int 0, .int 0, .int 0]))] H := hP
  have hD : va_D A [(h0, .inr (11, [.ref h1, .ref h2, .ref h3, .ref h4, .ref h5, .int 0, .int 0])), (h5, .inr (8, [.ref h6, .ref h2, .int 0, .int 0, .int 0]))] := hD
  have hK : va_K (dC, dI) vwCl [] s := hK
  subst er1
  refine lv_icmp_lt (tgt := 25) hx hb dX11_octet_12 (by decide) (fun c => absurd c (iv_nlt ix0 (by decide : iv 0 0 0) (by decide))) (fun _ => ?_)
  have hP9 := hP.sub (ws' := [(h0, .inr (11, [.ref h1, .ref h2, .ref h3, .ref h4, .ref h5, .int 0, .int 0])), (h5, .inr (8, [.ref h6, .ref h2, .int 0, .int 0, .int 0]))]) [0, 1] rfl
  have hD9 := hD.sub (ws' := [(h0, .inr (11, [.ref h1, .ref h2, .ref h3, .ref h4, .ref h5, .int 0, .int 0])), (h5, .inr (8, [.ref h6, .ref h2, .int 0, .int 0, .int 0]))]) [0, 1] (by decide) rfl
  have hK9 := hK.sub (tys' := []) [] rfl
  refine nx_throw (own := RX11) (cls := "java/util/NoSuchElementException") (text := evT5) (names := ["java/lang/RuntimeException", "java/lang/Exception"]) hx hb hst (by decide +kernel) (by decide +kernel) (by decide +kernel) (by decide +kernel) hown (by decide) (by decide) (hG _ wd_1245) (hG _ wd_25) (evR5 hE) (evA2 hE hG) evG2_149 hE.2.2.2.1 hE.2.2.2.2.1 hS (by rw [hml]; exact hl.1) dX11_octet_15 dX11_octet_18 dX11_octet_19 dX11_octet_21 dX11_octet_24 (fun x hx9 => (htab x hx9).elim) (by decide) (by decide) (by decide) (by decide) hlocks (fun t hvm9 hz9 hk9 => ⟨(), trivial, ⟨rfl, hP9.kept (fun k q hk => hk9 q.1 (vx_lt hP9 hk)), va_K.moved hvm9 hK9, hD9⟩, Nat.le_trans hS.1 hz9, fun q hq hA9 => (hk9 q (Nat.lt_of_lt_of_le hq hS.1)).trans (hS.2.1 q hq hA9)⟩) hS.2.2 (by decide) (by decide)
set_option maxHeartbeats 4000000 in
set_option maxRecDepth 100000 in
theorem cL_octet_2 (l : Launch) (hst : l.stackTraces = false) (dC : Nat → ClassId) (dI : Nat → Nat → Nat) (adK adV : Nat → Nat) (h0 h1 h2 h3 h4 h5 h6 h7 : Nat) (sz : Nat) (x0 : Int32) (ix0 : iv x0 0 2147483647) : Met l yL_octet (Cond.codeWith yL_octet cL_octet 4 (some .int) [(0, 9, 12, 38)] :: lw_G) ({ frames := 7, cells := 1, slots := 6, locals := 103 }) (va_Pc [.ref h0, .int x0, .ref h1] (fun U => U.heap.size = sz ∧ va_P (dC, dI) vwCl [(h0, .inr (11, [.ref h2, .ref h3, .ref h4, .ref h5, .ref h6, .int 0, .int 0])), (h6, .inr (8, [.ref h7, .ref h3, .int 0, .int 0, .int 0]))] U.heap ∧ va_K (dC, dI) vwCl [] U ∧ va_D (fun _ => True) [(h0, .inr (11, [.ref h2, .ref h3, .ref h4, .ref h5, .ref h6, .int 0, .int 0])), (h6, .inr (8, [.ref h7, .ref h3, .int 0, .int 0, .int 0]))] ∧ ev adK adV (va_A [(h0, .inr (11, [.ref h2, .ref h3, .ref h4, .ref h5, .ref h6, .int 0, .int 0])), (h6, .inr (8, [.ref h7, .ref h3, .int 0, .int 0, .int 0]))] sz) U U.heap)) (va_Qi (fun (r : Int32) (u : Unit) => r = 1 ∧ True) (fun (u : Unit) (t : State) => va_P (dC, dI) vwCl [(h0, .inr (11, [.ref h2, .ref h3, .ref h4, .ref h5, .ref h6, .int 0, .int 0])), (h6, .inr (8, [.ref h7, .ref h3, .int 0, .int 0, .int 0]))] t.heap ∧ va_K (dC, dI) vwCl [] t ∧ va_D (va_A [(h0, .inr (11, [.ref h2, .ref h3, .ref h4, .ref h5, .ref h6, .int 0, .int 0])), (h6, .inr (8, [.ref h7, .ref h3, .int 0, .int 0, .int 0]))] sz) [(h0, .inr (11, [.ref h2, .ref h3, .ref h4, .ref h5, .ref h6, .int 0, .int 0])), (h6, .inr (8, [.ref h7, .ref h3, .int 0, .int 0, .int 0]))]) (va_A [(h0, .inr (11, [.ref h2, .ref h3, .ref h4, .ref h5, .ref h6, .int 0, .int 0])), (h6, .inr (8, [.ref h7, .ref h3, .int 0, .int 0, .int 0]))] sz)) 1 6 (va_A [(h0, .inr (11, [.ref h2, .ref h3, .ref h4, .ref h5, .ref h6, .int 0, .int 0])), (h6, .inr (8, [.ref h7, .ref h3, .int 0, .int 0, .int 0]))] sz) := by
  refine va_MetW (cc := cL_octet) (maxL := 4) (ret := (some .int)) (by decide) rfl ?_
  intro p e s m args below meth c s₁ B hml hv
  obtain ⟨rfl, hsz, hP, hK, hD0, hE⟩ := hv
  have hx := B.exec
  have hb := B.bytes
  have hr := B.returns
  have hts0 := atoms_spec (ws := Cond.codeWith yL_octet cL_octet 4 (some .int) [(0, 9, 12, 38)] :: lw_G) B.pre
  have htab := vx_table (x := x) B (hts0 _ List.mem_cons_self)
  have hG : ∀ w ∈ lw_G, w.before _ s = true := fun w h => hts0 w (List.mem_cons_of_mem _ h)
  have hown : s.vm.findClass RL = some m.cls := findClass_of_methodNamed B.named
  have hlocks := B.notSynchronized
  subst hsz
  have hD := hD0.self (sz := s.heap.size)
  generalize hAe : va_A [(h0, .inr (11, [.ref h2, .ref h3, .ref h4, .ref h5, .ref h6, .int 0, .int 0])), (h6, .inr (8, [.ref h7, .ref h3, .int 0, .int 0, .int 0]))] s.heap.size = A at hD hE ⊢
  have hA : ∀ q : Nat, s.heap.size ≤ q → A q := fun q h => by rw [← hAe]; exact Or.inr h
  have hS : va_S A s.heap s.heap [] := va_S.rf
  have hP : va_P (dC, dI) vwCl [(h0, .inr (11, [.ref h2, .ref h3, .ref h4, .ref h5, .ref h6, .int 0, .int 0])), (h6, .inr (8, [.ref h7, .ref h3, .int 0, .int 0, .int 0]))] s.heap := hP
  have hl := lv_entry ([.ref h0, .int x0, .ref h1]) (n := 4) (Nat.le_of_ble_eq_true rfl)
  rw [lg_entry_eq]
  generalize (lg_sl ([.ref h0, .int x0, .ref h1]) ++ List.replicate (4 - (lg_sl ([.ref h0, .int x0, .ref h1])).length) Slot.unset).toArray = ls at hl ⊢
  have hl : lv_has ls 4 [(0, .ref h0), (1, .int x0), (2, .ref h1)] := hl
  refine lv_aload_n hx hb dL_octet_0 rfl (lv_at hl 2 rfl) ?_
  refine lv_iconst (v := 0) hx hb dL_octet_1 (by decide) ?_
  refine lv_aload_n hx hb dL_octet_2 rfl (lv_at hl 0 rfl) ?_
  refine lv_iload_n hx hb dL_octet_3 rfl (lv_at hl 1 rfl) ?_
  have hPc := hP.sub (ws' := [(h0, .inr (11, [.ref h2, .ref h3, .ref h4, .ref h5, .ref h6, .int 0, .int 0])), (h6, .inr (8, [.ref h7, .ref h3, .int 0, .int 0, .int 0]))]) [0, 1] rfl
  have hDc := hD.sub (ws' := [(h0, .inr (11, [.ref h2, .ref h3, .ref h4, .ref h5, .ref h6, .int 0, .int 0])), (h6, .inr (8, [.ref h7, .ref h3, .int 0, .int 0, .int 0]))]) [0, 1] (by decide) rfl
  have hKc := hK.sub (tys' := []) [] rfl
  have hFc := va_free (wc := [(h0, .inr (11, [.ref h2, .ref h3, .ref h4, .ref h5, .ref h6, .int 0, .int 0])), (h6, .inr (8, [.ref h7, .ref h3, .int 0, .int 0, .int 0]))]) hD hS hA [0, 1] rfl
  refine vx_calli (vx_runV (As := [.int x0]) (rest := [.int 0, .ref h1]) ⟨hx, hb, hml, hown, hG⟩ (cX11_octet_2 l hst dC dI adK adV h0 h2 h3 h4 h5 h6 h7 s.heap.size x0 ix0) (cwV 1 hG (gV wd_1241 wd_1242 wd_1243 wd_1 wd_1244) rfl rfl rfl (by decide +kernel) ⟨Nat.le_of_ble_eq_true rfl, Nat.le_of_ble_eq_true rfl⟩) ⟨fun a U g mk q => by obtain ⟨q0, q1, qP, qK, qD, qE⟩ := q; exact ⟨q0, q1, qP, va_K.moved (u := U) (U := U.calling g mk a) (Vm.Alike.refl U.vm) qK, qD, qE.same rfl⟩, va_recv hKc hPc (ci := 11) (q0 := 0) rfl rfl, fun U hU hW => ⟨rfl, by rw [hU], by rw [hU]; exact hPc, va_K.moved hW.alike hKc, hDc.weaken (fun _ _ _ _ => trivial), by rw [hU]; exact ((hE.kept hS.2.1).narrow hFc).warm hW⟩⟩ rfl rfl hl.1 rfl (lv_room (Nat.le_of_ble_eq_true rfl)) dL_octet_4 ⟨by decide, by decide⟩) hS (fun q _ h => hFc q h) hFc (fun q _ h => hFc q h) (fun E9 ce q1 u9 t H1 locs ht hvm hpx hB hz1 hk1 hS hce hcv hcl => ?_) (fun r u t H1 locs ht hvm hw hB hz1 hk1 hS => hw.elim)
  obtain ⟨rfl, hP1, hK1, hD1⟩ := hB
  rw [ht] at hP1
  have hK1 := va_K.moved hvm.symm hK1
  obtain ⟨hP, hD⟩ := va_join (wr := []) (w1 := [(h0, .inr (11, [.ref h2, .ref h3, .ref h4, .ref h5, .ref h6, .int 0, .int 0])), (h6, .inr (8, [.ref h7, .ref h3, .int 0, .int 0, .int 0]))]) hP hD [0, 1] [] rfl rfl (by decide) (by decide) hk1 hFc hP1 hD1
  have hK := (hK.sub (tys' := []) [] rfl).app hK1
  generalize H1 = H at hP hS hce ⊢
  have hP : va_P (dC, dI) vwCl [(h0, .inr (11, [.ref h2, .ref h3, .ref h4, .ref h5, .ref h6, .int 0, .int 0])), (h6, .inr (8, [.ref h7, .ref h3, .int 0, .int 0, .int 0]))] H := hP
  have hD : va_D A [(h0, .inr (11, [.ref h2, .ref h3, .ref h4, .ref h5, .ref h6, .int 0, .int 0])), (h6, .inr (8, [.ref h7, .ref h3, .int 0, .int 0, .int 0]))] := hD
  have hK : va_K (dC, dI) vwCl [] s := hK
  refine vx_widen (k := 1) (n := 6) (by decide) (by decide) ?_
  refine vx_catch (name := "java/util/NoSuchElementException") hown [] { startPc := 0, endPc := 9, handlerPc := 12, catchType := 38 } [] (by rw [htab]; rfl) (fun z hz => nomatch hz) (by decide) (by decide) (hG _ wd_1240) (evC2 hE) hce hcv hcl ?_
  refine lv_astore_n (lv' := [(3, .ref q1), (0, .ref h0), (1, .int x0), (2, .ref h1)]) hx hb dL_octet_12 rfl hl (by decide) rfl (fun ls hl => ?_)
  refine lv_iconst (v := 1) hx hb dL_octet_13 (by decide) ?_
  have hP9 := hP.sub (ws' := [(h0, .inr (11, [.ref h2, .ref h3, .ref h4, .ref h5, .ref h6, .int 0, .int 0])), (h6, .inr (8, [.ref h7, .ref h3, .int 0, .int 0, .int 0]))]) [0, 1] rfl
  have hD9 := hD.sub (ws' := [(h0, .inr (11, [.ref h2, .ref h3, .ref h4, .ref h5, .ref h6, .int 0, .int 0])), (h6, .inr (8, [.ref h7, .ref h3, .int 0, .int 0, .int 0]))]) [0, 1] (by decide) rfl
  have hK9 := hK.sub (tys' := []) [] rfl
  refine W.widen (k := 1) (n := 6) (by decide) (by decide) ?_
  exact W.iret (v := 1) hx hb hr (fun t ht hW => ⟨⟨1, (), rfl, ⟨rfl, trivial⟩, by rw [ht]; exact hP9, va_K.moved hW.alike hK9, hD9⟩, hS.F ht⟩) hS.2.2 dL_octet_14
