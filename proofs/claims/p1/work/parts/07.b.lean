set_option maxHeartbeats 4000000 in
set_option maxRecDepth 100000 in
theorem cX10_init_1 (l : Launch) (dC : Nat → ClassId) (dI : Nat → Nat → Nat) (adK adV : Nat → Nat) (h0 h1 : Nat) (sz : Nat) : Met l yX10_init (Cond.code yX10_init cX10_init 3 none :: lw_G) ({ frames := 6, cells := 5, slots := 10039, locals := 130 }) (va_Pc [.ref h0, .ref h1] (fun U => U.heap.size = sz ∧ va_P (dC, dI) vwCl [(h0, .inr (10, [.null, .null, .null, .null, .null, .null, .int 0, .int 0, .int 0, .int 0, .int 0, .long 0]))] U.heap ∧ va_K (dC, dI) vwCl [] U ∧ va_D (fun _ => True) [(h0, .inr (10, [.null, .null, .null, .null, .null, .null, .int 0, .int 0, .int 0, .int 0, .int 0, .long 0]))] ∧ ev adK adV (va_A [(h0, .inr (10, [.null, .null, .null, .null, .null, .null, .int 0, .int 0, .int 0, .int 0, .int 0, .long 0]))] sz) U U.heap)) (va_Qv (fun (u : Nat × Nat × Nat × Nat × Nat × ClassId × ClassId × ClassId × ClassId × ClassId × (Nat → Int64)) => True) (fun (u : Nat × Nat × Nat × Nat × Nat × ClassId × ClassId × ClassId × ClassId × ClassId × (Nat → Int64)) (t : State) => va_P (dC, dI) vwCl [(h0, .inr (10, [.ref u.1, .ref u.2.1, .ref u.2.2.1, .ref u.2.2.2.1, .ref u.2.2.2.2.1, .ref h1, .int 0, .int 0, .int 0, .int 0, .int 0, .long 0])), (u.1, .inl (u.2.2.2.2.2.1, 2501, .inl (fun _ => 0))), (u.2.1, .inl (u.2.2.2.2.2.2.1, 2501, .inl (fun _ => 0))), (u.2.2.1, .inl (u.2.2.2.2.2.2.2.1, 2501, .inl (fun _ => 0))), (u.2.2.2.1, .inl (u.2.2.2.2.2.2.2.2.1, 2501, .inr (.inl (fun _ => 0)))), (u.2.2.2.2.1, .inl (u.2.2.2.2.2.2.2.2.2.1, 35, .inr (.inl u.2.2.2.2.2.2.2.2.2.2)))] t.heap ∧ va_K (dC, dI) vwCl [(u.2.2.2.2.2.1, .int), (u.2.2.2.2.2.2.1, .int), (u.2.2.2.2.2.2.2.1, .int), (u.2.2.2.2.2.2.2.2.1, .long), (u.2.2.2.2.2.2.2.2.2.1, .long)] t ∧ va_D (va_A [(h0, .inr (10, [.null, .null, .null, .null, .null, .null, .int 0, .int 0, .int 0, .int 0, .int 0, .long 0]))] sz) [(h0, .inr (10, [.ref u.1, .ref u.2.1, .ref u.2.2.1, .ref u.2.2.2.1, .ref u.2.2.2.2.1, .ref h1, .int 0, .int 0, .int 0, .int 0, .int 0, .long 0])), (u.1, .inl (u.2.2.2.2.2.1, 2501, .inl (fun _ => 0))), (u.2.1, .inl (u.2.2.2.2.2.2.1, 2501, .inl (fun _ => 0))), (u.2.2.1, .inl (u.2.2.2.2.2.2.2.1, 2501, .inl (fun _ => 0))), (u.2.2.2.1, .inl (u.2.2.2.2.2.2.2.2.1, 2501, .inr (.inl (fun _ => 0)))), (u.2.2.2.2.1, .inl (u.2.2.2.2.2.2.2.2.2.1, 35, .inr (.inl u.2.2.2.2.2.2.2.2.2.2)))]) (va_A [(h0, .inr (10, [.null, .null, .null, .null, .null, .null, .int 0, .int 0, .int 0, .int 0, .int 0, .long 0]))] sz)) 5 10039 (va_A [(h0, .inr (10, [.null, .null, .null, .null, .null, .null, .int 0, .int 0, .int 0, .int 0, .int 0, .long 0]))] sz) := by
  refine Met.ofW (cc := cX10_init) (maxL := 3) (ret := none) (by decide) rfl ?_
  intro p e s m args below meth c s₁ B hml hv
  obtain ⟨rfl, hsz, hP, hK, hD0, hE⟩ := hv
  have hx := B.exec
  have hb := B.bytes
  have hr := B.returns
  have hts0 := atoms_spec (ws := Cond.code yX10_init cX10_init 3 none :: lw_G) B.pre
  have hG : ∀ w ∈ lw_G, w.before _ s = true := fun w h => hts0 w (List.mem_cons_of_mem _ h)
  have hown : s.vm.findClass RX10 = some m.cls := findClass_of_methodNamed B.named
  have hlocks := B.notSynchronized
  have hin : meth.name = "<init>" := (name_of_methodNamed B.named B.method).1
  subst hsz
  have hD := hD0.self (sz := s.heap.size)
  generalize hAe : va_A [(h0, .inr (10, [.null, .null, .null, .null, .null, .null, .int 0, .int 0, .int 0, .int 0, .int 0, .long 0]))] s.heap.size = A at hD hE ⊢
  have hA : ∀ q : Nat, s.heap.size ≤ q → A q := fun q h => by rw [← hAe]; exact Or.inr h
  have hS : va_S A s.heap s.heap [] := va_S.rf
  have hP : va_P (dC, dI) vwCl [(h0, .inr (10, [.null, .null, .null, .null, .null, .null, .int 0, .int 0, .int 0, .int 0, .int 0, .long 0]))] s.heap := hP
  have hl := lv_entry ([.ref h0, .ref h1]) (n := 3) (Nat.le_of_ble_eq_true rfl)
  rw [lg_entry_eq]
  generalize (lg_sl ([.ref h0, .ref h1]) ++ List.replicate (3 - (lg_sl ([.ref h0, .ref h1])).length) Slot.unset).toArray = ls at hl ⊢
  have hl : lv_has ls 3 [(0, .ref h0), (1, .ref h1)] := hl
  refine lv_aload_n hx hb dX10_init_0 rfl (lv_at hl 0 rfl) ?_
  refine W.objInit hx hb hown (hG _ wd_227) (hG _ wd_32) (hG _ wd_33) rfl (by rw [hml]; exact hl.1) rfl dX10_init_1 (Nat.le_of_ble_eq_true rfl) (Nat.le_of_ble_eq_true rfl) ?_
  refine W.eq (g2 := F0 m 4 ls []) rfl ?_
  refine lv_aload_n hx hb dX10_init_4 rfl (lv_at hl 0 rfl) ?_
  refine lv_sipush (v := 2501) hx hb dX10_init_5 (by decide) ?_
  refine va_newa (atype := .int) (ty := .int) (a0 := (2501, (.inl (fun _ => 0)))) hx hb (hG _ wd_63) rfl hK hP hD hS hA (fun _ => rfl) (by decide) (by decide) (by decide) (by decide) (by decide) dX10_init_8 (fun q1 y2 H hK hP hD hS => ?_)
  have hP : va_P (dC, dI) vwCl [(h0, .inr (10, [.null, .null, .null, .null, .null, .null, .int 0, .int 0, .int 0, .int 0, .int 0, .long 0])), (q1, .inl (y2, 2501, .inl (fun _ => 0)))] H := hP
  have hD : va_D A [(h0, .inr (10, [.null, .null, .null, .null, .null, .null, .int 0, .int 0, .int 0, .int 0, .int 0, .long 0])), (q1, .inl (y2, 2501, .inl (fun _ => 0)))] := hD
  have hK : va_K (dC, dI) vwCl [(y2, .int)] s := hK
  refine W.widen (k := 1) (n := 2501) (by decide) (by decide) ?_
  refine va_putF (D := (dC, dI)) (ci := 10) (v := .ref q1) (ty := .array .int) (C := RX10) (T := TX10) (N := 12) hx hb hG inGX10 tyX10 tyX10_ok nmX10 hown hK hP hD hS 0 rfl rfl 0 (by decide) (hG _ wd_283) (fun _ h9 => h9) rfl hin rfl (by decide +kernel) rfl rfl (Nat.le_of_ble_eq_true rfl) dX10_init_10 (fun H locs hP hD hS => ?_)
  have hP : va_P (dC, dI) vwCl [(h0, .inr (10, [.ref q1, .null, .null, .null, .null, .null, .int 0, .int 0, .int 0, .int 0, .int 0, .long 0])), (q1, .inl (y2, 2501, .inl (fun _ => 0)))] H := hP
  have hD : va_D A [(h0, .inr (10, [.ref q1, .null, .null, .null, .null, .null, .int 0, .int 0, .int 0, .int 0, .int 0, .long 0])), (q1, .inl (y2, 2501, .inl (fun _ => 0)))] := hD
  refine lv_aload_n hx hb dX10_init_13 rfl (lv_at hl 0 rfl) ?_
  refine lv_sipush (v := 2501) hx hb dX10_init_14 (by decide) ?_
  refine va_newa (atype := .int) (ty := .int) (a0 := (2501, (.inl (fun _ => 0)))) hx hb (hG _ wd_63) rfl hK hP hD hS hA (fun _ => rfl) (by decide) (by decide) (by decide) (by decide) (by decide) dX10_init_17 (fun q3 y4 H hK hP hD hS => ?_)
  have hP : va_P (dC, dI) vwCl [(h0, .inr (10, [.ref q1, .null, .null, .null, .null, .null, .int 0, .int 0, .int 0, .int 0, .int 0, .long 0])), (q1, .inl (y2, 2501, .inl (fun _ => 0))), (q3, .inl (y4, 2501, .inl (fun _ => 0)))] H := hP
  have hD : va_D A [(h0, .inr (10, [.ref q1, .null, .null, .null, .null, .null, .int 0, .int 0, .int 0, .int 0, .int 0, .long 0])), (q1, .inl (y2, 2501, .inl (fun _ => 0))), (q3, .inl (y4, 2501, .inl (fun _ => 0)))] := hD
  have hK : va_K (dC, dI) vwCl [(y2, .int), (y4, .int)] s := hK
  refine W.widen (k := 2) (n := 5002) (by decide) (by decide) ?_
  refine va_putF (D := (dC, dI)) (ci := 10) (v := .ref q3) (ty := .array .int) (C := RX10) (T := TX10) (N := 12) hx hb hG inGX10 tyX10 tyX10_ok nmX10 hown hK hP hD hS 0 rfl rfl 1 (by decide) (hG _ wd_284) (fun _ h9 => h9) rfl hin rfl (by decide +kernel) rfl rfl (Nat.le_of_ble_eq_true rfl) dX10_init_19 (fun H locs hP hD hS => ?_)
  have hP : va_P (dC, dI) vwCl [(h0, .inr (10, [.ref q1, .ref q3, .null, .null, .null, .null, .int 0, .int 0, .int 0, .int 0, .int 0, .long 0])), (q1, .inl (y2, 2501, .inl (fun _ => 0))), (q3, .inl (y4, 2501, .inl (fun _ => 0)))] H := hP
  have hD : va_D A [(h0, .inr (10, [.ref q1, .ref q3, .null, .null, .null, .null, .int 0, .int 0, .int 0, .int 0, .int 0, .long 0])), (q1, .inl (y2, 2501, .inl (fun _ => 0))), (q3, .inl (y4, 2501, .inl (fun _ => 0)))] := hD
  refine lv_aload_n hx hb dX10_init_22 rfl (lv_at hl 0 rfl) ?_
  refine lv_sipush (v := 2501) hx hb dX10_init_23 (by decide) ?_
  refine va_newa (atype := .int) (ty := .int) (a0 := (2501, (.inl (fun _ => 0)))) hx hb (hG _ wd_63) rfl hK hP hD hS hA (fun _ => rfl) (by decide) (by decide) (by decide) (by decide) (by decide) dX10_init_26 (fun q5 y6 H hK hP hD hS => ?_)
  have hP : va_P (dC, dI) vwCl [(h0, .inr (10, [.ref q1, .ref q3, .null, .null, .null, .null, .int 0, .int 0, .int 0, .int 0, .int 0, .long 0])), (q1, .inl (y2, 2501, .inl (fun _ => 0))), (q3, .inl (y4, 2501, .inl (fun _ => 0))), (q5, .inl (y6, 2501, .inl (fun _ => 0)))] H := hP
  have hD : va_D A [(h0, .inr (10, [.ref q1, .ref q3, .null, .null, .null, .null, .int 0, .int 0, .int 0, .int 0, .int 0, .long 0])), (q1, .inl (y2, 2501, .inl (fun _ => 0))), (q3, .inl (y4, 2501, .inl (fun _ => 0))), (q5, .inl (y6, 2501, .inl (fun _ => 0)))] := hD
  have hK : va_K (dC, dI) vwCl [(y2, .int), (y4, .int), (y6, .int)] s := hK
  refine W.widen (k := 3) (n := 7503) (by decide) (by decide) ?_
  refine va_putF (D := (dC, dI)) (ci := 10) (v := .ref q5) (ty := .array .int) (C := RX10) (T := TX10) (N := 12) hx hb hG inGX10 tyX10 tyX10_ok nmX10 hown hK hP hD hS 0 rfl rfl 2 (by decide) (hG _ wd_285) (fun _ h9 => h9) rfl hin rfl (by decide +kernel) rfl rfl (Nat.le_of_ble_eq_true rfl) dX10_init_28 (fun H locs hP hD hS => ?_)
  have hP : va_P (dC, dI) vwCl [(h0, .inr (10, [.ref q1, .ref q3, .ref q5, .null, .null, .null, .int 0, .int 0, .int 0, .int 0, .int 0, .long 0])), (q1, .inl (y2, 2501, .inl (fun _ => 0))), (q3, .inl (y4, 2501, .inl (fun _ => 0))), (q5, .inl (y6, 2501, .inl (fun _ => 0)))] H := hP
  have hD : va_D A [(h0, .inr (10, [.ref q1, .ref q3, .ref q5, .null, .null, .null, .int 0, .int 0, .int 0, .int 0, .int 0, .long 0])), (q1, .inl (y2, 2501, .inl (fun _ => 0))), (q3, .inl (y4, 2501, .inl (fun _ => 0))), (q5, .inl (y6, 2501, .inl (fun _ => 0)))] := hD
  refine lv_aload_n hx hb dX10_init_31 rfl (lv_at hl 0 rfl) ?_
  refine lv_sipush (v := 2501) hx hb dX10_init_32 (by decide) ?_
  refine va_newa (atype := .long) (ty := .long) (a0 := (2501, (.inr (.inl (fun _ => 0))))) hx hb (hG _ wd_221) rfl hK hP hD hS hA (fun _ => rfl) (by decide) (by decide) (by decide) (by decide) (by decide) dX10_init_35 (fun q7 y8 H hK hP hD hS => ?_)
  have hP : va_P (dC, dI) vwCl [(h0, .inr (10, [.ref q1, .ref q3, .ref q5, .null, .null, .null, .int 0, .int 0, .int 0, .int 0, .int 0, .long 0])), (q1, .inl (y2, 2501, .inl (fun _ => 0))), (q3, .inl (y4, 2501, .inl (fun _ => 0))), (q5, .inl (y6, 2501, .inl (fun _ => 0))), (q7, .inl (y8, 2501, .inr (.inl (fun _ => 0))))] H := hP
  have hD : va_D A [(h0, .inr (10, [.ref q1, .ref q3, .ref q5, .null, .null, .null, .int 0, .int 0, .int 0, .int 0, .int 0, .long 0])), (q1, .inl (y2, 2501, .inl (fun _ => 0))), (q3, .inl (y4, 2501, .inl (fun _ => 0))), (q5, .inl (y6, 2501, .inl (fun _ => 0))), (q7, .inl (y8, 2501, .inr (.inl (fun _ => 0))))] := hD
  have hK : va_K (dC, dI) vwCl [(y2, .int), (y4, .int), (y6, .int), (y8, .long)] s := hK
  refine W.widen (k := 4) (n := 10004) (by decide) (by decide) ?_
  refine va_putF (D := (dC, dI)) (ci := 10) (v := .ref q7) (ty := .array .long) (C := RX10) (T := TX10) (N := 12) hx hb hG inGX10 tyX10 tyX10_ok nmX10 hown hK hP hD hS 0 rfl rfl 3 (by decide) (hG _ wd_286) (fun _ h9 => h9) rfl hin rfl (by decide +kernel) rfl rfl (Nat.le_of_ble_eq_true rfl) dX10_init_37 (fun H locs hP hD hS => ?_)
  have hP : va_P (dC, dI) vwCl [(h0, .inr (10, [.ref q1, .ref q3, .ref q5, .ref q7, .null, .null, .int 0, .int 0, .int 0, .int 0, .int 0, .long 0])), (q1, .inl (y2, 2501, .inl (fun _ => 0))), (q3, .inl (y4, 2501, .inl (fun _ => 0))), (q5, .inl (y6, 2501, .inl (fun _ => 0))), (q7, .inl (y8, 2501, .inr (.inl (fun _ => 0))))] H := hP
  have hD : va_D A [(h0, .inr (10, [.ref q1, .ref q3, .ref q5, .ref q7, .null, .null, .int 0, .int 0, .int 0, .int 0, .int 0, .long 0])), (q1, .inl (y2, 2501, .inl (fun _ => 0))), (q3, .inl (y4, 2501, .inl (fun _ => 0))), (q5, .inl (y6, 2501, .inl (fun _ => 0))), (q7, .inl (y8, 2501, .inr (.inl (fun _ => 0))))] := hD
  refine lv_aload_n hx hb dX10_init_40 rfl (lv_at hl 0 rfl) ?_
  refine lv_bipush (v := 35) hx hb dX10_init_41 (by decide) ?_
  refine va_newa (atype := .long) (ty := .long) (a0 := (35, (.inr (.inl (fun _ => 0))))) hx hb (hG _ wd_221) rfl hK hP hD hS hA (fun _ => rfl) (by decide) (by decide) (by decide) (by decide) (by decide) dX10_init_43 (fun q9 y10 H hK hP hD hS => ?_)
  have hP : va_P (dC, dI) vwCl [(h0, .inr (10, [.ref q1, .ref q3, .ref q5, .ref q7, .null, .null, .int 0, .int 0, .int 0, .int 0, .int 0, .long 0])), (q1, .inl (y2, 2501, .inl (fun _ => 0))), (q3, .inl (y4, 2501, .inl (fun _ => 0))), (q5, .inl (y6, 2501, .inl (fun _ => 0))), (q7, .inl (y8, 2501, .inr (.inl (fun _ => 0)))), (q9, .inl (y10, 35, .inr (.inl (fun _ => 0))))] H := hP
  have hD : va_D A [(h0, .inr (10, [.ref q1, .ref q3, .ref q5, .ref q7, .null, .null, .int 0, .int 0, .int 0, .int 0, .int 0, .long 0])), (q1, .inl (y2, 2501, .inl (fun _ => 0))), (q3, .inl (y4, 2501, .inl (fun _ => 0))), (q5, .inl (y6, 2501, .inl (fun _ => 0))), (q7, .inl (y8, 2501, .inr (.inl (fun _ => 0)))), (q9, .inl (y10, 35, .inr (.inl (fun _ => 0))))] := hD
  have hK : va_K (dC, dI) vwCl [(y2, .int), (y4, .int), (y6, .int), (y8, .long), (y10, .long)] s := hK
  refine W.widen (k := 5) (n := 10039) (by decide) (by decide) ?_
  refine va_putF (D := (dC, dI)) (ci := 10) (v := .ref q9) (ty := .array .long) (C := RX10) (T := TX10) (N := 12) hx hb hG inGX10 tyX10 tyX10_ok nmX10 hown hK hP hD hS 0 rfl rfl 4 (by decide) (hG _ wd_287) (fun _ h9 => h9) rfl hin rfl (by decide +kernel) rfl rfl (Nat.le_of_ble_eq_true rfl) dX10_init_45 (fun H locs hP hD hS => ?_)
  have hP : va_P (dC, dI) vwCl [(h0, .inr (10, [.ref q1, .ref q3, .ref q5, .ref q7, .ref q9, .null, .int 0, .int 0, .int 0, .int 0, .int 0, .long 0])), (q1, .inl (y2, 2501, .inl (fun _ => 0))), (q3, .inl (y4, 2501, .inl (fun _ => 0))), (q5, .inl (y6, 2501, .inl (fun _ => 0))), (q7, .inl (y8, 2501, .inr (.inl (fun _ => 0)))), (q9, .inl (y10, 35, .inr (.inl (fun _ => 0))))] H := hP
  have hD : va_D A [(h0, .inr (10, [.ref q1, .ref q3, .ref q5, .ref q7, .ref q9, .null, .int 0, .int 0, .int 0, .int 0, .int 0, .long 0])), (q1, .inl (y2, 2501, .inl (fun _ => 0))), (q3, .inl (y4, 2501, .inl (fun _ => 0))), (q5, .inl (y6, 2501, .inl (fun _ => 0))), (q7, .inl (y8, 2501, .inr (.inl (fun _ => 0)))), (q9, .inl (y10, 35, .inr (.inl (fun _ => 0))))] := hD
  refine lv_aload_n hx hb dX10_init_48 rfl (lv_at hl 0 rfl) ?_
  refine lv_aload_n hx hb dX10_init_49 rfl (lv_at hl 1 rfl) ?_
  refine va_putF (D := (dC, dI)) (ci := 10) (v := .ref h1) (ty := .array .int) (C := RX10) (T := TX10) (N := 12) hx hb hG inGX10 tyX10 tyX10_ok nmX10 hown hK hP hD hS 0 rfl rfl 5 (by decide) (hG _ wd_288) (fun _ h9 => h9) rfl hin rfl (by decide +kernel) rfl rfl (Nat.le_of_ble_eq_true rfl) dX10_init_50 (fun H locs hP hD hS => ?_)
  have hP : va_P (dC, dI) vwCl [(h0, .inr (10, [.ref q1, .ref q3, .ref q5, .ref q7, .ref q9, .ref h1, .int 0, .int 0, .int 0, .int 0, .int 0, .long 0])), (q1, .inl (y2, 2501, .inl (fun _ => 0))), (q3, .inl (y4, 2501, .inl (fun _ => 0))), (q5, .inl (y6, 2501, .inl (fun _ => 0))), (q7, .inl (y8, 2501, .inr (.inl (fun _ => 0)))), (q9, .inl (y10, 35, .inr (.inl (fun _ => 0))))] H := hP
  have hD : va_D A [(h0, .inr (10, [.ref q1, .ref q3, .ref q5, .ref q7, .ref q9, .ref h1, .int 0, .int 0, .int 0, .int 0, .int 0, .long 0])), (q1, .inl (y2, 2501, .inl (fun _ => 0))), (q3, .inl (y4, 2501, .inl (fun _ => 0))), (q5, .inl (y6, 2501, .inl (fun _ => 0))), (q7, .inl (y8, 2501, .inr (.inl (fun _ => 0)))), (q9, .inl (y10, 35, .inr (.inl (fun _ => 0))))] := hD
  refine lv_iconst (v := 0) hx hb dX10_init_53 (by decide) ?_
  refine lv_istore_n (lv' := [(2, .int 0), (0, .ref h0), (1, .ref h1)]) hx hb dX10_init_54 rfl hl (by decide) rfl (fun ls hl => ?_)
  refine lv_iload_n hx hb dX10_init_55 rfl (lv_at hl 0 rfl) ?_
  refine lv_bipush (v := 35) hx hb dX10_init_56 (by decide) ?_
  refine lv_icmp_ge (tgt := 77) hx hb dX10_init_58 (by decide) (fun c => absurd c (by decide)) (fun _ => ?_)
  refine lv_aload_n hx hb dX10_init_61 rfl (lv_at hl 1 rfl) ?_
  refine va_get (D := (dC, dI)) (ci := 10) (v := .ref q9) (C := RX10) (T := TX10) (N := 12) hx hb hG inGX10 hown hK hP 0 rfl rfl 4 (by decide) (hG _ wd_287) (fun _ h9 => h9) rfl dX10_init_62 ?_
  refine lv_iload_n hx hb dX10_init_65 rfl (lv_at hl 0 rfl) ?_
  refine lv_iload_n hx hb dX10_init_66 rfl (lv_at hl 0 rfl) ?_
  have hPc := hP.sub (ws' := []) [] rfl
  have hDc := hD.sub (ws' := []) [] (by decide) rfl
  have hKc := hK.sub (tys' := []) [] rfl
  have hFc := va_free (wc := []) hD hS hA [] rfl
  refine va_calll (va_runS (As := [.int 0]) (rest := [.int 0, .ref q9]) ⟨hx, hb, hml, hown, hG⟩ (cX10_nameKey_1 l dC dI adK adV H.size 0 (iv_w (by decide : iv 0 0 0) (by decide) (by decide))) (va_cwS 1 hG (gS wd_228 wd_229 wd_11 wd_230) rfl rfl rfl (by decide +kernel) ⟨Nat.le_of_ble_eq_true rfl, Nat.le_of_ble_eq_true rfl⟩) ⟨fun a U g mk q => by obtain ⟨q0, q1, qP, qK, qD, qE⟩ := q; exact ⟨q0, q1, qP, va_K.moved (u := U) (U := U.calling g mk a) (Vm.Alike.refl U.vm) qK, qD, qE.same rfl⟩, fun U hU hW => ⟨rfl, by rw [hU], by rw [hU]; exact hPc, va_K.moved hW.alike hKc, hDc.weaken (fun _ _ _ _ => trivial), by rw [hU]; exact ((hE.kept hS.2.1).narrow hFc).warm hW⟩⟩ rfl rfl hl.1 rfl (lv_room (Nat.le_of_ble_eq_true rfl)) dX10_init_67 ⟨by decide, by decide⟩) hS (fun q _ h => hFc q h) hFc (fun r11 u12 t H1 locs ht hvm hw hB hz1 hk1 hS => ?_)
  obtain ⟨hP1, hK1, hD1⟩ := hB
  rw [ht] at hP1
  have hK1 := va_K.moved hvm.symm hK1
  obtain ⟨hP, hD⟩ := va_join (wr := [(h0, .inr (10, [.ref q1, .ref q3, .ref q5, .ref q7, .ref q9, .ref h1, .int 0, .int 0, .int 0, .int 0, .int 0, .long 0])), (q1, .inl (y2, 2501, .inl (fun _ => 0))), (q3, .inl (y4, 2501, .inl (fun _ => 0))), (q5, .inl (y6, 2501, .inl (fun _ => 0))), (q7, .inl (y8, 2501, .inr (.inl (fun _ => 0)))), (q9, .inl (y10, 35, .inr (.inl (fun _ => 0))))]) (w1 := []) hP hD [] [0, 1, 2, 3, 4, 5] rfl rfl (by decide) (by decide) hk1 hFc hP1 hD1
  have hK := (hK.sub (tys' := [(y2, .int), (y4, .int), (y6, .int), (y8, .long), (y10, .long)]) [0, 1, 2, 3, 4] rfl).app hK1
  generalize H1 = H at hP hS ⊢
  have hP : va_P (dC, dI) vwCl [(h0, .inr (10, [.ref q1, .ref q3, .ref q5, .ref q7, .ref q9, .ref h1, .int 0, .int 0, .int 0, .int 0, .int 0, .long 0])), (q1, .inl (y2, 2501, .inl (fun _ => 0))), (q3, .inl (y4, 2501, .inl (fun _ => 0))), (q5, .inl (y6, 2501, .inl (fun _ => 0))), (q7, .inl (y8, 2501, .inr (.inl (fun _ => 0)))), (q9, .inl (y10, 35, .inr (.inl (fun _ => 0))))] H := hP
  have hD : va_D A [(h0, .inr (10, [.ref q1, .ref q3, .ref q5, .ref q7, .ref q9, .ref h1, .int 0, .int 0, .int 0, .int 0, .int 0, .long 0])), (q1, .inl (y2, 2501, .inl (fun _ => 0))), (q3, .inl (y4, 2501, .inl (fun _ => 0))), (q5, .inl (y6, 2501, .inl (fun _ => 0))), (q7, .inl (y8, 2501, .inr (.inl (fun _ => 0)))), (q9, .inl (y10, 35, .inr (.inl (fun _ => 0))))] := hD
  have hK : va_K (dC, dI) vwCl [(y2, .int), (y4, .int), (y6, .int), (y8, .long), (y10, .long)] s := hK
  refine va_last hx hb hK hP hD hS 5 4 rfl rfl (iv_in (by decide : iv 0 0 0) (by decide) (by decide) : vp_in 0 35) dX10_init_70 (fun H locs hP hD hS => ?_)
  have hP : va_P (dC, dI) vwCl [(h0, .inr (10, [.ref q1, .ref q3, .ref q5, .ref q7, .ref q9, .ref h1, .int 0, .int 0, .int 0, .int 0, .int 0, .long 0])), (q1, .inl (y2, 2501, .inl (fun _ => 0))), (q3, .inl (y4, 2501, .inl (fun _ => 0))), (q5, .inl (y6, 2501, .inl (fun _ => 0))), (q7, .inl (y8, 2501, .inr (.inl (fun _ => 0)))), (q9, .inl (y10, 35, .inr (.inl (vp_updL (fun _ => 0) (0 : Int32).toNatClampNeg r11))))] H := hP
  have hD : va_D A [(h0, .inr (10, [.ref q1, .ref q3, .ref q5, .ref q7, .ref q9, .ref h1, .int 0, .int 0, .int 0, .int 0, .int 0, .long 0])), (q1, .inl (y2, 2501, .inl (fun _ => 0))), (q3, .inl (y4, 2501, .inl (fun _ => 0))), (q5, .inl (y6, 2501, .inl (fun _ => 0))), (q7, .inl (y8, 2501, .inr (.inl (fun _ => 0)))), (q9, .inl (y10, 35, .inr (.inl (vp_updL (fun _ => 0) (0 : Int32).toNatClampNeg r11))))] := hD
  obtain ⟨f13, ef13⟩ : ∃ z, z = vp_updL (fun _ => 0) (0 : Int32).toNatClampNeg r11 := ⟨_, rfl⟩
  rw [← ef13] at hP hD
  refine lv_iinc (v := 1) (lv' := [(2, .int 1), (0, .ref h0), (1, .ref h1)]) hx hb dX10_init_71 hl (k := 0) rfl (by decide) (by decide) rfl (fun ls hl => ?_)
  refine lv_goto (tgt := 55) hx hb dX10_init_74 (by decide) ?_
  refine lv_iload_n hx hb dX10_init_55 rfl (lv_at hl 0 rfl) ?_
  refine lv_bipush (v := 35) hx hb dX10_init_56 (by decide) ?_
  refine lv_icmp_ge (tgt := 77) hx hb dX10_init_58 (by decide) (fun c => absurd c (by decide)) (fun _ => ?_)
  refine lv_aload_n hx hb dX10_init_61 rfl (lv_at hl 1 rfl) ?_
  refine va_get (D := (dC, dI)) (ci := 10) (v := .ref q9) (C := RX10) (T := TX10) (N := 12) hx hb hG inGX10 hown hK hP 0 rfl rfl 4 (by decide) (hG _ wd_287) (fun _ h9 => h9) rfl dX10_init_62 ?_
  refine lv_iload_n hx hb dX10_init_65 rfl (lv_at hl 0 rfl) ?_
  refine lv_iload_n hx hb dX10_init_66 rfl (lv_at hl 0 rfl) ?_
  have hPc := hP.sub (ws' := []) [] rfl
  have hDc := hD.sub (ws' := []) [] (by decide) rfl
  have hKc := hK.sub (tys' := []) [] rfl
  have hFc := va_free (wc := []) hD hS hA [] rfl
  refine va_calll (va_runS (As := [.int 1]) (rest := [.int 1, .ref q9]) ⟨hx, hb, hml, hown, hG⟩ (cX10_nameKey_1 l dC dI adK adV H.size 1 (iv_w (by decide : iv 1 1 1) (by decide) (by decide))) (va_cwS 1 hG (gS wd_228 wd_229 wd_11 wd_230) rfl rfl rfl (by decide +kernel) ⟨Nat.le_of_ble_eq_true rfl, Nat.le_of_ble_eq_true rfl⟩) ⟨fun a U g mk q => by obtain ⟨q0, q1, qP, qK, qD, qE⟩ := q; exact ⟨q0, q1, qP, va_K.moved (u := U) (U := U.calling g mk a) (Vm.Alike.refl U.vm) qK, qD, qE.same rfl⟩, fun U hU hW => ⟨rfl, by rw [hU], by rw [hU]; exact hPc, va_K.moved hW.alike hKc, hDc.weaken (fun _ _ _ _ => trivial), by rw [hU]; exact ((hE.kept hS.2.1).narrow hFc).warm hW⟩⟩ rfl rfl hl.1 rfl (lv_room (Nat.le_of_ble_eq_true rfl)) dX10_init_67 ⟨by decide, by decide⟩) hS (fun q _ h => hFc q h) hFc (fun r14 u15 t H1 locs ht hvm hw hB hz1 hk1 hS => ?_)
  obtain ⟨hP1, hK1, hD1⟩ := hB
  rw [ht] at hP1
  have hK1 := va_K.moved hvm.symm hK1
  obtain ⟨hP, hD⟩ := va_join (wr := [(h0, .inr (10, [.ref q1, .ref q3, .ref q5, .ref q7, .ref q9, .ref h1, .int 0, .int 0, .int 0, .int 0, .int 0, .long 0])), (q1, .inl (y2, 2501, .inl (fun _ => 0))), (q3, .inl (y4, 2501, .inl (fun _ => 0))), (q5, .inl (y6, 2501, .inl (fun _ => 0))), (q7, .inl (y8, 2501, .inr (.inl (fun _ => 0)))), (q9, .inl (y10, 35, .inr (.inl f13)))]) (w1 := []) hP hD [] [0, 1, 2, 3, 4, 5] rfl rfl (by decide) (by decide) hk1 hFc hP1 hD1
  have hK := (hK.sub (tys' := [(y2, .int), (y4, .int), (y6, .int), (y8, .long), (y10, .long)]) [0, 1, 2, 3, 4] rfl).app hK1
  generalize H1 = H at hP hS ⊢
  have hP : va_P (dC, dI) vwCl [(h0, .inr (10, [.ref q1, .ref q3, .ref q5, .ref q7, .ref q9, .ref h1, .int 0, .int 0, .int 0, .int 0, .int 0, .long 0])), (q1, .inl (y2, 2501, .inl (fun _ => 0))), (q3, .inl (y4, 2501, .inl (fun _ => 0))), (q5, .inl (y6, 2501, .inl (fun _ => 0))), (q7, .inl (y8, 2501, .inr (.inl (fun _ => 0)))), (q9, .inl (y10, 35, .inr (.inl f13)))] H := hP
  have hD : va_D A [(h0, .inr (10, [.ref q1, .ref q3, .ref q5, .ref q7, .ref q9, .ref h1, .int 0, .int 0, .int 0, .int 0, .int 0, .long 0])), (q1, .inl (y2, 2501, .inl (fun _ => 0))), (q3, .inl (y4, 2501, .inl (fun _ => 0))), (q5, .inl (y6, 2501, .inl (fun _ => 0))), (q7, .inl (y8, 2501, .inr (.inl (fun _ => 0)))), (q9, .inl (y10, 35, .inr (.inl f13)))] := hD
  have hK : va_K (dC, dI) vwCl [(y2, .int), (y4, .int), (y6, .int), (y8, .long), (y10, .long)] s := hK
  refine va_last hx hb hK hP hD hS 5 4 rfl rfl (iv_in (by decide : iv 1 1 1) (by decide) (by decide) : vp_in 1 35) dX10_init_70 (fun H locs hP hD hS => ?_)
  have hP : va_P (dC, dI) vwCl [(h0, .inr (10, [.ref q1, .ref q3, .ref q5, .ref q7, .ref q9, .ref h1, .int 0, .int 0, .int 0, .int 0, .int 0, .long 0])), (q1, .inl (y2, 2501, .inl (fun _ => 0))), (q3, .inl (y4, 2501, .inl (fun _ => 0))), (q5, .inl (y6, 2501, .inl (fun _ => 0))), (q7, .inl (y8, 2501, .inr (.inl (fun _ => 0)))), (q9, .inl (y10, 35, .inr (.inl (vp_updL f13 (1 : Int32).toNatClampNeg r14))))] H := hP
  have hD : va_D A [(h0, .inr (10, [.ref q1, .ref q3, .ref q5, .ref q7, .ref q9, .ref h1, .int 0, .int 0, .int 0, .int 0, .int 0, .long 0])), (q1, .inl (y2, 2501, .inl (fun _ => 0))), (q3, .inl (y4, 2501, .inl (fun _ => 0))), (q5, .inl (y6, 2501, .inl (fun _ => 0))), (q7, .inl (y8, 2501, .inr (.inl (fun _ => 0)))), (q9, .inl (y10, 35, .inr (.inl (vp_updL f13 (1 : Int32).toNatClampNeg r14))))] := hD
  obtain ⟨f16, ef16⟩ : ∃ z, z = vp_updL f13 (1 : Int32).toNatClampNeg r14 := ⟨_, rfl⟩
  rw [← ef16] at hP hD
  refine lv_iinc (v := 2) (lv' := [(2, .int 2), (0, .ref h0), (1, .ref h1)]) hx hb dX10_init_71 hl (k := 0) rfl (by decide) (by decide) rfl (fun ls hl => ?_)
  refine lv_goto (tgt := 55) hx hb dX10_init_74 (by decide) ?_
  refine lv_iload_n hx hb dX10_init_55 rfl (lv_at hl 0 rfl) ?_
  refine lv_bipush (v := 35) hx hb dX10_init_56 (by decide) ?_
  refine lv_icmp_ge (tgt := 77) hx hb dX10_init_58 (by decide) (fun c => absurd c (by decide)) (fun _ => ?_)
  refine lv_aload_n hx hb dX10_init_61 rfl (lv_at hl 1 rfl) ?_
  refine va_get (D := (dC, dI)) (ci := 10) (v := .ref q9) (C := RX10) (T := TX10) (N := 12) hx hb hG inGX10 hown hK hP 0 rfl rfl 4 (by decide) (hG _ wd_287) (fun _ h9 => h9) rfl dX10_init_62 ?_
  refine lv_iload_n hx hb dX10_init_65 rfl (lv_at hl 0 rfl) ?_
  refine lv_iload_n hx hb dX10_init_66 rfl (lv_at hl 0 rfl) ?_
  have hPc := hP.sub (ws' := []) [] rfl
  have hDc := hD.sub (ws' := []) [] (by decide) rfl
  have hKc := hK.sub (tys' := []) [] rfl
  have hFc := va_free (wc := []) hD hS hA [] rfl
  refine va_calll (va_runS (As := [.int 2]) (rest := [.int 2, .ref q9]) ⟨hx, hb, hml, hown, hG⟩ (cX10_nameKey_1 l dC dI adK adV H.size 2 (iv_w (by decide : iv 2 2 2) (by decide) (by decide))) (va_cwS 1 hG (gS wd_228 wd_229 wd_11 wd_230) rfl rfl rfl (by decide +kernel) ⟨Nat.le_of_ble_eq_true rfl, Nat.le_of_ble_eq_true rfl⟩) ⟨fun a U g mk q => by obtain ⟨q0, q1, qP, qK, qD, qE⟩ := q; exact ⟨q0, q1, qP, va_K.moved (u := U) (U := U.calling g mk a) (Vm.Alike.refl U.vm) qK, qD, qE.same rfl⟩, fun U hU hW => ⟨rfl, by rw [hU], by rw [hU]; exact hPc, va_K.moved hW.alike hKc, hDc.weaken (fun _ _ _ _ => trivial), by rw [hU]; exact ((hE.kept hS.2.1).narrow hFc).warm hW⟩⟩ rfl rfl hl.1 rfl (lv_room (Nat.le_of_ble_eq_true rfl)) dX10_init_67 ⟨by decide, by decide⟩) hS (fun q _ h => hFc q h) hFc (fun r17 u18 t H1 locs ht hvm hw hB hz1 hk1 hS => ?_)
  obtain ⟨hP1, hK1, hD1⟩ := hB
  rw [ht] at hP1
  have hK1 := va_K.moved hvm.symm hK1
  obtain ⟨hP, hD⟩ := va_join (wr := [(h0, .inr (10, [.ref q1, .ref q3, .ref q5, .ref q7, .ref q9, .ref h1, .int 0, .int 0, .int 0, .int 0, .int 0, .long 0])), (q1, .inl (y2, 2501, .inl (fun _ => 0))), (q3, .inl (y4, 2501, .inl (fun _ => 0))), (q5, .inl (y6, 2501, .inl (fun _ => 0))), (q7, .inl (y8, 2501, .inr (.inl (fun _ => 0)))), (q9, .inl (y10, 35, .inr (.inl f16)))]) (w1 := []) hP hD [] [0, 1, 2, 3, 4, 5] rfl rfl (by decide) (by decide) hk1 hFc hP1 hD1
  have hK := (hK.sub (tys' := [(y2, .int), (y4, .int), (y6, .int), (y8, .long), (y10, .long)]) [0, 1, 2, 3, 4] rfl).app hK1
  generalize H1 = H at hP hS ⊢
  have hP : va_P (dC, dI) vwCl [(h0, .inr (10, [.ref q1, .ref q3, .ref q5, .ref q7, .ref q9, .ref h1, .int 0, .int 0, .int 0, .int 0, .int 0, .long 0])), (q1, .inl (y2, 2501, .inl (fun _ => 0))), (q3, .inl (y4, 2501, .inl (fun _ => 0))), (q5, .inl (y6, 2501, .inl (fun _ => 0))), (q7, .inl (y8, 2501, .inr (.inl (fun _ => 0)))), (q9, .inl (y10, 35, .inr (.inl f16)))] H := hP
  have hD : va_D A [(h0, .inr (10, [.ref q1, .ref q3, .ref q5, .ref q7, .ref q9, .ref h1, .int 0, .int 0, .int 0, .int 0, .int 0, .long 0])), (q1, .inl (y2, 2501, .inl (fun _ => 0))), (q3, .inl (y4, 2501, .inl (fun _ => 0))), (q5, .inl (y6, 2501, .inl (fun _ => 0))), (q7, .inl (y8, 2501, .inr (.inl (fun _ => 0)))), (q9, .inl (y10, 35, .inr (.inl f16)))] := hD
  have hK : va_K (dC, dI) vwCl [(y2, .int), (y4, .int), (y6, .int), (y8, .long), (y10, .long)] s := hK
  refine va_last hx hb hK hP hD hS 5 4 rfl rfl (iv_in (by decide : iv 2 2 2) (by decide) (by decide) : vp_in 2 35) dX10_init_70 (fun H locs hP hD hS => ?_)
  have hP : va_P (dC, dI) vwCl [(h0, .inr (10, [.ref q1, .ref q3, .ref q5, .ref q7, .ref q9, .ref h1, .int 0, .int 0, .int 0, .int 0, .int 0, .long 0])), (q1, .inl (y2, 2501, .inl (fun _ => 0))), (q3, .inl (y4, 2501, .inl (fun _ => 0))), (q5, .inl (y6, 2501, .inl (fun _ => 0))), (q7, .inl (y8, 2501, .inr (.inl (fun _ => 0)))), (q9, .inl (y10, 35, .inr (.inl (vp_updL f16 (2 : Int32).toNatClampNeg r17))))] H := hP
  have hD : va_D A [(h0, .inr (10, [.ref q1, .ref q3, .ref q5, .ref q7, .ref q9, .ref h1, .int 0, .int 0, .int 0, .int 0, .int 0, .long 0])), (q1, .inl (y2, 2501, .inl (fun _ => 0))), (q3, .inl (y4, 2501, .inl (fun _ => 0))), (q5, .inl (y6, 2501, .inl (fun _ => 0))), (q7, .inl (y8, 2501, .inr (.inl (fun _ => 0)))), (q9, .inl (y10, 35, .inr (.inl (vp_updL f16 (2 : Int32).toNatClampNeg r17))))] := hD
  obtain ⟨f19, ef19⟩ : ∃ z, z = vp_updL f16 (2 : Int32).toNatClampNeg r17 := ⟨_, rfl⟩
  rw [← ef19] at hP hD
  refine lv_iinc (v := 3) (lv' := [(2, .int 3), (0, .ref h0), (1, .ref h1)]) hx hb dX10_init_71 hl (k := 0) rfl (by decide) (by decide) rfl (fun ls hl => ?_)
  refine lv_goto (tgt := 55) hx hb dX10_init_74 (by decide) ?_
  refine lv_iload_n hx hb dX10_init_55 rfl (lv_at hl 0 rfl) ?_
  refine lv_bipush (v := 35) hx hb dX10_init_56 (by decide) ?_
  refine lv_icmp_ge (tgt := 77) hx hb dX10_init_58 (by decide) (fun c => absurd c (by decide)) (fun _ => ?_)
  refine lv_aload_n hx hb dX10_init_61 rfl (lv_at hl 1 rfl) ?_
  refine va_get (D := (dC, dI)) (ci := 10) (v := .ref q9) (C := RX10) (T := TX10) (N := 12) hx hb hG inGX10 hown hK hP 0 rfl rfl 4 (by decide) (hG _ wd_287) (fun _ h9 => h9) rfl dX10_init_62 ?_
  refine lv_iload_n hx hb dX10_init_65 rfl (lv_at hl 0 rfl) ?_
  refine lv_iload_n hx hb dX10_init_66 rfl (lv_at hl 0 rfl) ?_
  have hPc := hP.sub (ws' := []) [] rfl
  have hDc := hD.sub (ws' := []) [] (by decide) rfl
  have hKc := hK.sub (tys' := []) [] rfl
  have hFc := va_free (wc := []) hD hS hA [] rfl
  refine va_calll (va_runS (As := [.int 3]) (rest := [.int 3, .ref q9]) ⟨hx, hb, hml, hown, hG⟩ (cX10_nameKey_1 l dC dI adK adV H.size 3 (iv_w (by decide : iv 3 3 3) (by decide) (by decide))) (va_cwS 1 hG (gS wd_228 wd_229 wd_11 wd_230) rfl rfl rfl (by decide +kernel) ⟨Nat.le_of_ble_eq_true rfl, Nat.le_of_ble_eq_true rfl⟩) ⟨fun a U g mk q => by obtain ⟨q0, q1, qP, qK, qD, qE⟩ := q; exact ⟨q0, q1, qP, va_K.moved (u := U) (U := U.calling g mk a) (Vm.Alike.refl U.vm) qK, qD, qE.same rfl⟩, fun U hU hW => ⟨rfl, by rw [hU], by rw [hU]; exact hPc, va_K.moved hW.alike hKc, hDc.weaken (fun _ _ _ _ => trivial), by rw [hU]; exact ((hE.kept hS.2.1).narrow hFc).warm hW⟩⟩ rfl rfl hl.1 rfl (lv_room (Nat.le_of_ble_eq_true rfl)) dX10_init_67 ⟨by decide, by decide⟩) hS (fun q _ h => hFc q h) hFc (fun r20 u21 t H1 locs ht hvm hw hB hz1 hk1 hS => ?_)
  obtain ⟨hP1, hK1, hD1⟩ := hB
  rw [ht] at hP1
  have hK1 := va_K.moved hvm.symm hK1
  obtain ⟨hP, hD⟩ := va_join (wr := [(h0, .inr (10, [.ref q1, .ref q3, .ref q5, .ref q7, .ref q9, .ref h1, .int 0, .int 0, .int 0, .int 0, .int 0, .long 0])), (q1, .inl (y2, 2501, .inl (fun _ => 0))), (q3, .inl (y4, 2501, .inl (fun _ => 0))), (q5, .inl (y6, 2501, .inl (fun _ => 0))), (q7, .inl (y8, 2501, .inr (.inl (fun _ => 0)))), (q9, .inl (y10, 35, .inr (.inl f19)))]) (w1 := []) hP hD [] [0, 1, 2, 3, 4, 5] rfl rfl (by decide) (by decide) hk1 hFc hP1 hD1
  have hK := (hK.sub (tys' := [(y2, .int), (y4, .int), (y6, .int), (y8, .long), (y10, .long)]) [0, 1, 2, 3, 4] rfl).app hK1
  generalize H1 = H at hP hS ⊢
  have hP : va_P (dC, dI) vwCl [(h0, .inr (10, [.ref q1, .ref q3, .ref q5, .ref q7, .ref q9, .ref h1, .int 0, .int 0, .int 0, .int 0, .int 0, .long 0])), (q1, .inl (y2, 2501, .inl (fun _ => 0))), (q3, .inl (y4, 2501, .inl (fun _ => 0))), (q5, .inl (y6, 2501, .inl (fun _ => 0))), (q7, .inl (y8, 2501, .inr (.inl (fun _ => 0)))), (q9, .inl (y10, 35, .inr (.inl f19)))] H := hP
  have hD : va_D A [(h0, .inr (10, [.ref q1, .ref q3, .ref q5, .ref q7, .ref q9, .ref h1, .int 0, .int 0, .int 0, .int 0, .int 0, .long 0])), (q1, .inl (y2, 2501, .inl (fun _ => 0))), (q3, .inl (y4, 2501, .inl (fun _ => 0))), (q5, .inl (y6, 2501, .inl (fun _ => 0))), (q7, .inl (y8, 2501, .inr (.inl (fun _ => 0)))), (q9, .inl (y10, 35, .inr (.inl f19)))] := hD
  have hK : va_K (dC, dI) vwCl [(y2, .int), (y4, .int), (y6, .int), (y8, .long), (y10, .long)] s := hK
  refine va_last hx hb hK hP hD hS 5 4 rfl rfl (iv_in (by decide : iv 3 3 3) (by decide) (by decide) : vp_in 3 35) dX10_init_70 (fun H locs hP hD hS => ?_)
  have hP : va_P (dC, dI) vwCl [(h0, .inr (10, [.ref q1, .ref q3, .ref q5, .ref q7, .ref q9, .ref h1, .int 0, .int 0, .int 0, .int 0, .int 0, .long 0])), (q1, .inl (y2, 2501, .inl (fun _ => 0))), (q3, .inl (y4, 2501, .inl (fun _ => 0))), (q5, .inl (y6, 2501, .inl (fun _ => 0))), (q7, .inl (y8, 2501, .inr (.inl (fun _ => 0)))), (q9, .inl (y10, 35, .inr (.inl (vp_updL f19 (3 : Int32).toNatClampNeg r20))))] H := hP
  have hD : va_D A [(h0, .inr (10, [.ref q1, .ref q3, .ref q5, .ref q7, .ref q9, .ref h1, .int 0, .int 0, .int 0, .int 0, .int 0, .long 0])), (q1, .inl (y2, 2501, .inl (fun _ => 0))), (q3, .inl (y4, 2501, .inl (fun _ => 0))), (q5, .inl (y6, 2501, .inl (fun _ => 0))), (q7, .inl (y8, 2501, .inr (.inl (fun _ => 0)))), (q9, .inl (y10, 35, .inr (.inl (vp_updL f19 (3 : Int32).toNatClampNeg r20))))] := hD
  obtain ⟨f22, ef22⟩ : ∃ z, z = vp_updL f19 (3 : Int32).toNatClampNeg r20 := ⟨_, rfl⟩
  rw [← ef22] at hP hD
  refine lv_iinc (v := 4) (lv' := [(2, .int 4), (0, .ref h0), (1, .ref h1)]) hx hb dX10_init_71 hl (k := 0) rfl (by decide) (by decide) rfl (fun ls hl => ?_)
  refine lv_goto (tgt := 55) hx hb dX10_init_74 (by decide) ?_
  refine lv_iload_n hx hb dX10_init_55 rfl (lv_at hl 0 rfl) ?_
  refine lv_bipush (v := 35) hx hb dX10_init_56 (by decide) ?_
  refine lv_icmp_ge (tgt := 77) hx hb dX10_init_58 (by decide) (fun c => absurd c (by decide)) (fun _ => ?_)
  refine lv_aload_n hx hb dX10_init_61 rfl (lv_at hl 1 rfl) ?_
  refine va_get (D := (dC, dI)) (ci := 10) (v := .ref q9) (C := RX10) (T := TX10) (N := 12) hx hb hG inGX10 hown hK hP 0 rfl rfl 4 (by decide) (hG _ wd_287) (fun _ h9 => h9) rfl dX10_init_62 ?_
  refine lv_iload_n hx hb dX10_init_65 rfl (lv_at hl 0 rfl) ?_
  refine lv_iload_n hx hb dX10_init_66 rfl (lv_at hl 0 rfl) ?_
  have hPc := hP.sub (ws' := []) [] rfl
  have hDc := hD.sub (ws' := []) [] (by decide) rfl
  have hKc := hK.sub (tys' := []) [] rfl
  have hFc := va_free (wc := []) hD hS hA [] rfl
  refine va_calll (va_runS (As := [.int 4]) (rest := [.int 4, .ref q9]) ⟨hx, hb, hml, hown, hG⟩ (cX10_nameKey_1 l dC dI adK adV H.size 4 (iv_w (by decide : iv 4 4 4) (by decide) (by decide))) (va_cwS 1 hG (gS wd_228 wd_229 wd_11 wd_230) rfl rfl rfl (by decide +kernel) ⟨Nat.le_of_ble_eq_true rfl, Nat.le_of_ble_eq_true rfl⟩) ⟨fun a U g mk q => by obtain ⟨q0, q1, qP, qK, qD, qE⟩ := q; exact ⟨q0, q1, qP, va_K.moved (u := U) (U := U.calling g mk a) (Vm.Alike.refl U.vm) qK, qD, qE.same rfl⟩, fun U hU hW => ⟨rfl, by rw [hU], by rw [hU]; exact hPc, va_K.moved hW.alike hKc, hDc.weaken (fun _ _ _ _ => trivial), by rw [hU]; exact ((hE.kept hS.2.1).narrow hFc).warm hW⟩⟩ rfl rfl hl.1 rfl (lv_room (Nat.le_of_ble_eq_true rfl)) dX10_init_67 ⟨by decide, by decide⟩) hS (fun q _ h => hFc q h) hFc (fun r23 u24 t H1 locs ht hvm hw hB hz1 hk1 hS => ?_)
  obtain ⟨hP1, hK1, hD1⟩ := hB
  rw [ht] at hP1
  have hK1 := va_K.moved hvm.symm hK1
  obtain ⟨hP, hD⟩ := va_join (wr := [(h0, .inr (10, [.ref q1, .ref q3, .ref q5, .ref q7, .ref q9, .ref h1, .int 0, .int 0, .int 0, .int 0, .int 0, .long 0])), (q1, .inl (y2, 2501, .inl (fun _ => 0))), (q3, .inl (y4, 2501, .inl (fun _ => 0))), (q5, .inl (y6, 2501, .inl (fun _ => 0))), (q7, .inl (y8, 2501, .inr (.inl (fun _ => 0)))), (q9, .inl (y10, 35, .inr (.inl f22)))]) (w1 := []) hP hD [] [0, 1, 2, 3, 4, 5] rfl rfl (by decide) (by decide) hk1 hFc hP1 hD1
  have hK := (hK.sub (tys' := [(y2, .int), (y4, .int), (y6, .int), (y8, .long), (y10, .long)]) [0, 1, 2, 3, 4] rfl).app hK1
  generalize H1 = H at hP hS ⊢
  have hP : va_P (dC, dI) vwCl [(h0, .inr (10, [.ref q1, .ref q3, .ref q5, .ref q7, .ref q9, .ref h1, .int 0, .int 0, .int 0, .int 0, .int 0, .long 0])), (q1, .inl (y2, 2501, .inl (fun _ => 0))), (q3, .inl (y4, 2501, .inl (fun _ => 0))), (q5, .inl (y6, 2501, .inl (fun _ => 0))), (q7, .inl (y8, 2501, .inr (.inl (fun _ => 0)))), (q9, .inl (y10, 35, .inr (.inl f22)))] H := hP
  have hD : va_D A [(h0, .inr (10, [.ref q1, .ref q3, .ref q5, .ref q7, .ref q9, .ref h1, .int 0, .int 0, .int 0, .int 0, .int 0, .long 0])), (q1, .inl (y2, 2501, .inl (fun _ => 0))), (q3, .inl (y4, 2501, .inl (fun _ => 0))), (q5, .inl (y6, 2501, .inl (fun _ => 0))), (q7, .inl (y8, 2501, .inr (.inl (fun _ => 0)))), (q9, .inl (y10, 35, .inr (.inl f22)))] := hD
  have hK : va_K (dC, dI) vwCl [(y2, .int), (y4, .int), (y6, .int), (y8, .long), (y10, .long)] s := hK
  refine va_last hx hb hK hP hD hS 5 4 rfl rfl (iv_in (by decide : iv 4 4 4) (by decide) (by decide) : vp_in 4 35) dX10_init_70 (fun H locs hP hD hS => ?_)
  have hP : va_P (dC, dI) vwCl [(h0, .inr (10, [.ref q1, .ref q3, .ref q5, .ref q7, .ref q9, .ref h1, .int 0, .int 0, .int 0, .int 0, .int 0, .long 0])), (q1, .inl (y2, 2501, .inl (fun _ => 0))), (q3, .inl (y4, 2501, .inl (fun _ => 0))), (q5, .inl (y6, 2501, .inl (fun _ => 0))), (q7, .inl (y8, 2501, .inr (.inl (fun _ => 0)))), (q9, .inl (y10, 35, .inr (.inl (vp_updL f22 (4 : Int32).toNatClampNeg r23))))] H := hP
  have hD : va_D A [(h0, .inr (10, [.ref q1, .ref q3, .ref q5, .ref q7, .ref q9, .ref h1, .int 0, .int 0, .int 0, .int 0, .int 0, .long 0])), (q1, .inl (y2, 2501, .inl (fun _ => 0))), (q3, .inl (y4, 2501, .inl (fun _ => 0))), (q5, .inl (y6, 2501, .inl (fun _ => 0))), (q7, .inl (y8, 2501, .inr (.inl (fun _ => 0)))), (q9, .inl (y10, 35, .inr (.inl (vp_updL f22 (4 : Int32).toNatClampNeg r23))))] := hD
  obtain ⟨f25, ef25⟩ : ∃ z, z = vp_updL f22 (4 : Int32).toNatClampNeg r23 := ⟨_, rfl⟩
  rw [← ef25] at hP hD
  refine lv_iinc (v := 5) (lv' := [(2, .int 5), (0, .ref h0), (1, .ref h1)]) hx hb dX10_init_71 hl (k := 0) rfl (by decide) (by decide) rfl (fun ls hl => ?_)
  refine lv_goto (tgt := 55) hx hb dX10_init_74 (by decide) ?_
  refine lv_iload_n hx hb dX10_init_55 rfl (lv_at hl 0 rfl) ?_
  refine lv_bipush (v := 35) hx hb dX10_init_56 (by decide) ?_
  refine lv_icmp_ge (tgt := 77) hx hb dX10_init_58 (by decide) (fun c => absurd c (by decide)) (fun _ => ?_)
  refine lv_aload_n hx hb dX10_init_61 rfl (lv_at hl 1 rfl) ?_
  refine va_get (D := (dC, dI)) (ci := 10) (v := .ref q9) (C := RX10) (T := TX10) (N := 12) hx hb hG inGX10 hown hK hP 0 rfl rfl 4 (by decide) (hG _ wd_287) (fun _ h9 => h9) rfl dX10_init_62 ?_
  refine lv_iload_n hx hb dX10_init_65 rfl (lv_at hl 0 rfl) ?_
  refine lv_iload_n hx hb dX10_init_66 rfl (lv_at hl 0 rfl) ?_
  have hPc := hP.sub (ws' := []) [] rfl
  have hDc := hD.sub (ws' := []) [] (by decide) rfl
  have hKc := hK.sub (tys' := []) [] rfl
  have hFc := va_free (wc := []) hD hS hA [] rfl
  refine va_calll (va_runS (As := [.int 5]) (rest := [.int 5, .ref q9]) ⟨hx, hb, hml, hown, hG⟩ (cX10_nameKey_1 l dC dI adK adV H.size 5 (iv_w (by decide : iv 5 5 5) (by decide) (by decide))) (va_cwS 1 hG (gS wd_228 wd_229 wd_11 wd_230) rfl rfl rfl (by decide +kernel) ⟨Nat.le_of_ble_eq_true rfl, Nat.le_of_ble_eq_true rfl⟩) ⟨fun a U g mk q => by obtain ⟨q0, q1, qP, qK, qD, qE⟩ := q; exact ⟨q0, q1, qP, va_K.moved (u := U) (U := U.calling g mk a) (Vm.Alike.refl U.vm) qK, qD, qE.same rfl⟩, fun U hU hW => ⟨rfl, by rw [hU], by rw [hU]; exact hPc, va_K.moved hW.alike hKc, hDc.weaken (fun _ _ _ _ => trivial), by rw [hU]; exact ((hE.kept hS.2.1).narrow hFc).warm hW⟩⟩ rfl rfl hl.1 rfl (lv_room (Nat.le_of_ble_eq_true rfl)) dX10_init_67 ⟨by decide, by decide⟩) hS (fun q _ h => hFc q h) hFc (fun r26 u27 t H1 locs ht hvm hw hB hz1 hk1 hS => ?_)
  obtain ⟨hP1, hK1, hD1⟩ := hB
  rw [ht] at hP1
  have hK1 := va_K.moved hvm.symm hK1
  obtain ⟨hP, hD⟩ := va_join (wr := [(h0, .inr (10, [.ref q1, .ref q3, .ref q5, .ref q7, .ref q9, .ref h1, .int 0, .int 0, .int 0, .int 0, .int 0, .long 0])), (q1, .inl (y2, 2501, .inl (fun _ => 0))), (q3, .inl (y4, 2501, .inl (fun _ => 0))), (q5, .inl (y6, 2501, .inl (fun _ => 0))), (q7, .inl (y8, 2501, .inr (.inl (fun _ => 0)))), (q9, .inl (y10, 35, .inr (.inl f25)))]) (w1 := []) hP hD [] [0, 1, 2, 3, 4, 5] rfl rfl (by decide) (by decide) hk1 hFc hP1 hD1
  have hK := (hK.sub (tys' := [(y2, .int), (y4, .int), (y6, .int), (y8, .long), (y10, .long)]) [0, 1, 2, 3, 4] rfl).app hK1
  generalize H1 = H at hP hS ⊢
  have hP : va_P (dC, dI) vwCl [(h0, .inr (10, [.ref q1, .ref q3, .ref q5, .ref q7, .ref q9, .ref h1, .int 0, .int 0, .int 0, .int 0, .int 0, .long 0])), (q1, .inl (y2, 2501, .inl (fun _ => 0))), (q3, .inl (y4, 2501, .inl (fun _ => 0))), (q5, .inl (y6, 2501, .inl (fun _ => 0))), (q7, .inl (y8, 2501, .inr (.inl (fun _ => 0)))), (q9, .inl (y10, 35, .inr (.inl f25)))] H := hP
  have hD : va_D A [(h0, .inr (10, [.ref q1, .ref q3, .ref q5, .ref q7, .ref q9, .ref h1, .int 0, .int 0, .int 0, .int 0, .int 0, .long 0])), (q1, .inl (y2, 2501, .inl (fun _ => 0))), (q3, .inl (y4, 2501, .inl (fun _ => 0))), (q5, .inl (y6, 2501, .inl (fun _ => 0))), (q7, .inl (y8, 2501, .inr (.inl (fun _ => 0)))), (q9, .inl (y10, 35, .inr (.inl f25)))] := hD
  have hK : va_K (dC, dI) vwCl [(y2, .int), (y4, .int), (y6, .int), (y8, .long), (y10, .long)] s := hK
  refine va_last hx hb hK hP hD hS 5 4 rfl rfl (iv_in (by decide : iv 5 5 5) (by decide) (by decide) : vp_in 5 35) dX10_init_70 (fun H locs hP hD hS => ?_)
  have hP : va_P (dC, dI) vwCl [(h0, .inr (10, [.ref q1, .ref q3, .ref q5, .ref q7, .ref q9, .ref h1, .int 0, .int 0, .int 0, .int 0, .int 0, .long 0])), (q1, .inl (y2, 2501, .inl (fun _ => 0))), (q3, .inl (y4, 2501, .inl (fun _ => 0))), (q5, .inl (y6, 2501, .inl (fun _ => 0))), (q7, .inl (y8, 2501, .inr (.inl (fun _ => 0)))), (q9, .inl (y10, 35, .inr (.inl (vp_updL f25 (5 : Int32).toNatClampNeg r26))))] H := hP
  have hD : va_D A [(h0, .inr (10, [.ref q1, .ref q3, .ref q5, .ref q7, .ref q9, .ref h1, .int 0, .int 0, .int 0, .int 0, .int 0, .long 0])), (q1, .inl (y2, 2501, .inl (fun _ => 0))), (q3, .inl (y4, 2501, .inl (fun _ => 0))), (q5, .inl (y6, 2501, .inl (fun _ => 0))), (q7, .inl (y8, 2501, .inr (.inl (fun _ => 0)))), (q9, .inl (y10, 35, .inr (.inl (vp_updL f25 (5 : Int32).toNatClampNeg r26))))] := hD
  obtain ⟨f28, ef28⟩ : ∃ z, z = vp_updL f25 (5 : Int32).toNatClampNeg r26 := ⟨_, rfl⟩
  rw [← ef28] at hP hD
  refine lv_iinc (v := 6) (lv' := [(2, .int 6), (0, .ref h0), (1, .ref h1)]) hx hb dX10_init_71 hl (k := 0) rfl (by decide) (by decide) rfl (fun ls hl => ?_)
  refine lv_goto (tgt := 55) hx hb dX10_init_74 (by decide) ?_
  refine lv_iload_n hx hb dX10_init_55 rfl (lv_at hl 0 rfl) ?_
  refine lv_bipush (v := 35) hx hb dX10_init_56 (by decide) ?_
  refine lv_icmp_ge (tgt := 77) hx hb dX10_init_58 (by decide) (fun c => absurd c (by decide)) (fun _ => ?_)
  refine lv_aload_n hx hb dX10_init_61 rfl (lv_at hl 1 rfl) ?_
  refine va_get (D := (dC, dI)) (ci := 10) (v := .ref q9) (C := RX10) (T := TX10) (N := 12) hx hb hG inGX10 hown hK hP 0 rfl rfl 4 (by decide) (hG _ wd_287) (fun _ h9 => h9) rfl dX10_init_62 ?_
  refine lv_iload_n hx hb dX10_init_65 rfl (lv_at hl 0 rfl) ?_
  refine lv_iload_n hx hb dX10_init_66 rfl (lv_at hl 0 rfl) ?_
  have hPc := hP.sub (ws' := []) [] rfl
  have hDc := hD.sub (ws' := []) [] (by decide) rfl
  have hKc := hK.sub (tys' := []) [] rfl
  have hFc := va_free (wc := []) hD hS hA [] rfl
  refine va_calll (va_runS (As := [.int 6]) (rest := [.int 6, .ref q9]) ⟨hx, hb, hml, hown, hG⟩ (cX10_nameKey_1 l dC dI adK adV H.size 6 (iv_w (by decide : iv 6 6 6) (by decide) (by decide))) (va_cwS 1 hG (gS wd_228 wd_229 wd_11 wd_230) rfl rfl rfl (by decide +kernel) ⟨Nat.le_of_ble_eq_true rfl, Nat.le_of_ble_eq_true rfl⟩) ⟨fun a U g mk q => by obtain ⟨q0, q1, qP, qK, qD, qE⟩ := q; exact ⟨q0, q1, qP, va_K.moved (u := U) (U := U.calling g mk a) (Vm.Alike.refl U.vm) qK, qD, qE.same rfl⟩, fun U hU hW => ⟨rfl, by rw [hU], by rw [hU]; exact hPc, va_K.moved hW.alike hKc, hDc.weaken (fun _ _ _ _ => trivial), by rw [hU]; exact ((hE.kept hS.2.1).narrow hFc).warm hW⟩⟩ rfl rfl hl.1 rfl (lv_room (Nat.le_of_ble_eq_true rfl)) dX10_init_67 ⟨by decide, by decide⟩) hS (fun q _ h => hFc q h) hFc (fun r29 u30 t H1 locs ht hvm hw hB hz1 hk1 hS => ?_)
  obtain ⟨hP1, hK1, hD1⟩ := hB
  rw [ht] at hP1
  have hK1 := va_K.moved hvm.symm hK1
  obtain ⟨hP, hD⟩ := va_join (wr := [(h0, .inr (10, [.ref q1, .ref q3, .ref q5, .ref q7, .ref q9, .ref h1, .int 0, .int 0, .int 0, .int 0, .int 0, .long 0])), (q1, .inl (y2, 2501, .inl (fun _ => 0))), (q3, .inl (y4, 2501, .inl (fun _ => 0))), (q5, .inl (y6, 2501, .inl (fun _ => 0))), (q7, .inl (y8, 2501, .inr (.inl (fun _ => 0)))), (q9, .inl (y10, 35, .inr (.inl f28)))]) (w1 := []) hP hD [] [0, 1, 2, 3, 4, 5] rfl rfl (by decide) (by decide) hk1 hFc hP1 hD1
  have hK := (hK.sub (tys' := [(y2, .int), (y4, .int), (y6, .int), (y8, .long), (y10, .long)]) [0, 1, 2, 3, 4] rfl).app hK1
  generalize H1 = H at hP hS ⊢
  have hP : va_P (dC, dI) vwCl [(h0, .inr (10, [.ref q1, .ref q3, .ref q5, .ref q7, .ref q9, .ref h1, .int 0, .int 0, .int 0, .int 0, .int 0, .long 0])), (q1, .inl (y2, 2501, .inl (fun _ => 0))), (q3, .inl (y4, 2501, .inl (fun _ => 0))), (q5, .inl (y6, 2501, .inl (fun _ => 0))), (q7, .inl (y8, 2501, .inr (.inl (fun _ => 0)))), (q9, .inl (y10, 35, .inr (.inl f28)))] H := hP
  have hD : va_D A [(h0, .inr (10, [.ref q1, .ref q3, .ref q5, .ref q7, .ref q9, .ref h1, .int 0, .int 0, .int 0, .int 0, .int 0, .long 0])), (q1, .inl (y2, 2501, .inl (fun _ => 0))), (q3, .inl (y4, 2501, .inl (fun _ => 0))), (q5, .inl (y6, 2501, .inl (fun _ => 0))), (q7, .inl (y8, 2501, .inr (.inl (fun _ => 0)))), (q9, .inl (y10, 35, .inr (.inl f28)))] := hD
  have hK : va_K (dC, dI) vwCl [(y2, .int), (y4, .int), (y6, .int), (y8, .long), (y10, .long)] s := hK
  refine va_last hx hb hK hP hD hS 5 4 rfl rfl (iv_in (by decide : iv 6 6 6) (by decide) (by decide) : vp_in 6 35) dX10_init_70 (fun H locs hP hD hS => ?_)
  have hP : va_P (dC, dI) vwCl [(h0, .inr (10, [.ref q1, .ref q3, .ref q5, .ref q7, .ref q9, .ref h1, .int 0, .int 0, .int 0, .int 0, .int 0, .long 0])), (q1, .inl (y2, 2501, .inl (fun _ => 0))), (q3, .inl (y4, 2501, .inl (fun _ => 0))), (q5, .inl (y6, 2501, .inl (fun _ => 0))), (q7, .inl (y8, 2501, .inr (.inl (fun _ => 0)))), (q9, .inl (y10, 35, .inr (.inl (vp_updL f28 (6 : Int32).toNatClampNeg r29))))] H := hP
  have hD : va_D A [(h0, .inr (10, [.ref q1, .ref q3, .ref q5, .ref q7, .ref q9, .ref h1, .int 0, .int 0, .int 0, .int 0, .int 0, .long 0])), (q1, .inl (y2, 2501, .inl (fun _ => 0))), (q3, .inl (y4, 2501, .inl (fun _ => 0))), (q5, .inl (y6, 2501, .inl (fun _ => 0))), (q7, .inl (y8, 2501, .inr (.inl (fun _ => 0)))), (q9, .inl (y10, 35, .inr (.inl (vp_updL f28 (6 : Int32).toNatClampNeg r29))))] := hD
  obtain ⟨f31, ef31⟩ : ∃ z, z = vp_updL f28 (6 : Int32).toNatClampNeg r29 := ⟨_, rfl⟩
  rw [← ef31] at hP hD
  refine lv_iinc (v := 7) (lv' := [(2, .int 7), (0, .ref h0), (1, .ref h1)]) hx hb dX10_init_71 hl (k := 0) rfl (by decide) (by decide) rfl (fun ls hl => ?_)
  refine lv_goto (tgt := 55) hx hb dX10_init_74 (by decide) ?_
  refine lv_iload_n hx hb dX10_init_55 rfl (lv_at hl 0 rfl) ?_
  refine lv_bipush (v := 35) hx hb dX10_init_56 (by decide) ?_
  refine lv_icmp_ge (tgt := 77) hx hb dX10_init_58 (by decide) (fun c => absurd c (by decide)) (fun _ => ?_)
  refine lv_aload_n hx hb dX10_init_61 rfl (lv_at hl 1 rfl) ?_
  refine va_get (D := (dC, dI)) (ci := 10) (v := .ref q9) (C := RX10) (T := TX10) (N := 12) hx hb hG inGX10 hown hK hP 0 rfl rfl 4 (by decide) (hG _ wd_287) (fun _ h9 => h9) rfl dX10_init_62 ?_
  refine lv_iload_n hx hb dX10_init_65 rfl (lv_at hl 0 rfl) ?_
  refine lv_iload_n hx hb dX10_init_66 rfl (lv_at hl 0 rfl) ?_
  have hPc := hP.sub (ws' := []) [] rfl
  have hDc := hD.sub (ws' := []) [] (by decide) rfl
  have hKc := hK.sub (tys' := []) [] rfl
  have hFc := va_free (wc := []) hD hS hA [] rfl
  refine va_calll (va_runS (As := [.int 7]) (rest := [.int 7, .ref q9]) ⟨hx, hb, hml, hown, hG⟩ (cX10_nameKey_1 l dC dI adK adV H.size 7 (iv_w (by decide : iv 7 7 7) (by decide) (by decide))) (va_cwS 1 hG (gS wd_228 wd_229 wd_11 wd_230) rfl rfl rfl (by decide +kernel) ⟨Nat.le_of_ble_eq_true rfl, Nat.le_of_ble_eq_true rfl⟩) ⟨fun a U g mk q => by obtain ⟨q0, q1, qP, qK, qD, qE⟩ := q; exact ⟨q0, q1, qP, va_K.moved (u := U) (U := U.calling g mk a) (Vm.Alike.refl U.vm) qK, qD, qE.same rfl⟩, fun U hU hW => ⟨rfl, by rw [hU], by rw [hU]; exact hPc, va_K.moved hW.alike hKc, hDc.weaken (fun _ _ _ _ => trivial), by rw [hU]; exact ((hE.kept hS.2.1).narrow hFc).warm hW⟩⟩ rfl rfl hl.1 rfl (lv_room (Nat.le_of_ble_eq_true rfl)) dX10_init_67 ⟨by decide, by decide⟩) hS (fun q _ h => hFc q h) hFc (fun r32 u33 t H1 locs ht hvm hw hB hz1 hk1 hS => ?_)
  obtain ⟨hP1, hK1, hD1⟩ := hB
  rw [ht] at hP1
  have hK1 := va_K.moved hvm.symm hK1
  obtain ⟨hP, hD⟩ := va_join (wr := [(h0, .inr (10, [.ref q1, .ref q3, .ref q5, .ref q7, .ref q9, .ref h1, .int 0, .int 0, .int 0, .int 0, .int 0, .long 0])), (q1, .inl (y2, 2501, .inl (fun _ => 0))), (q3, .inl (y4, 2501, .inl (fun _ => 0))), (q5, .inl (y6, 2501, .inl (fun _ => 0))), (q7, .inl (y8, 2501, .inr (.inl (fun _ => 0)))), (q9, .inl (y10, 35, .inr (.inl f31)))]) (w1 := []) hP hD [] [0, 1, 2, 3, 4, 5] rfl rfl (by decide) (by decide) hk1 hFc hP1 hD1
  have hK := (hK.sub (tys' := [(y2, .int), (y4, .int), (y6, .int), (y8, .long), (y10, .long)]) [0, 1, 2, 3, 4] rfl).app hK1
  generalize H1 = H at hP hS ⊢
  have hP : va_P (dC, dI) vwCl [(h0, .inr (10, [.ref q1, .ref q3, .ref q5, .ref q7, .ref q9, .ref h1, .int 0, .int 0, .int 0, .int 0, .int 0, .long 0])), (q1, .inl (y2, 2501, .inl (fun _ => 0))), (q3, .inl (y4, 2501, .inl (fun _ => 0))), (q5, .inl (y6, 2501, .inl (fun _ => 0))), (q7, .inl (y8, 2501, .inr (.inl (fun _ => 0)))), (q9, .inl (y10, 35, .inr (.inl f31)))] H := hP
  have hD : va_D A [(h0, .inr (10, [.ref q1, .ref q3, .ref q5, .ref q7, .ref q9, .ref h1, .int 0, .int 0, .int 0, .int 0, .int 0, .long 0])), (q1, .inl (y2, 2501, .inl (fun _ => 0))), (q3, .inl (y4, 2501, .inl (fun _ => 0))), (q5, .inl (y6, 2501, .inl (fun _ => 0))), (q7, .inl (y8, 2501, .inr (.inl (fun _ => 0)))), (q9, .inl (y10, 35, .inr (.inl f31)))] := hD
  have hK : va_K (dC, dI) vwCl [(y2, .int), (y4, .int), (y6, .int), (y8, .long), (y10, .long)] s := hK
  refine va_last hx hb hK hP hD hS 5 4 rfl rfl (iv_in (by decide : iv 7 7 7) (by decide) (by decide) : vp_in 7 35) dX10_init_70 (fun H locs hP hD hS => ?_)
  have hP : va_P (dC, dI) vwCl [(h0, .inr (10, [.ref q1, .ref q3, .ref q5, .ref q7, .ref q9, .ref h1, .int 0, .int 0, .int 0, .int 0, .int 0, .long 0])), (q1, .inl (y2, 2501, .inl (fun _ => 0))), (q3, .inl (y4, 2501, .inl (fun _ => 0))), (q5, .inl (y6, 2501, .inl (fun _ => 0))), (q7, .inl (y8, 2501, .inr (.inl (fun _ => 0)))), (q9, .inl (y10, 35, .inr (.inl (vp_updL f31 (7 : Int32).toNatClampNeg r32))))] H := hP
  have hD : va_D A [(h0, .inr (10, [.ref q1, .ref q3, .ref q5, .ref q7, .ref q9, .ref h1, .int 0, .int 0, .int 0, .int 0, .int 0, .long 0])), (q1, .inl (y2, 2501, .inl (fun _ => 0))), (q3, .inl (y4, 2501, .inl (fun _ => 0))), (q5, .inl (y6, 2501, .inl (fun _ => 0))), (q7, .inl (y8, 2501, .inr (.inl (fun _ => 0)))), (q9, .inl (y10, 35, .inr (.inl (vp_updL f31 (7 : Int32).toNatClampNeg r32))))] := hD
  obtain ⟨f34, ef34⟩ : ∃ z, z = vp_updL f31 (7 : Int32).toNatClampNeg r32 := ⟨_, rfl⟩
  rw [← ef34] at hP hD
  refine lv_iinc (v := 8) (lv' := [(2, .int 8), (0, .ref h0), (1, .ref h1)]) hx hb dX10_init_71 hl (k := 0) rfl (by decide) (by decide) rfl (fun ls hl => ?_)
  refine lv_goto (tgt := 55) hx hb dX10_init_74 (by decide) ?_
  refine lv_iload_n hx hb dX10_init_55 rfl (lv_at hl 0 rfl) ?_
  refine lv_bipush (v := 35) hx hb dX10_init_56 (by decide) ?_
  refine lv_icmp_ge (tgt := 77) hx hb dX10_init_58 (by decide) (fun c => absurd c (by decide)) (fun _ => ?_)
  refine lv_aload_n hx hb dX10_init_61 rfl (lv_at hl 1 rfl) ?_
  refine va_get (D := (dC, dI)) (ci := 10) (v := .ref q9) (C := RX10) (T := TX10) (N := 12) hx hb hG inGX10 hown hK hP 0 rfl rfl 4 (by decide) (hG _ wd_287) (fun _ h9 => h9) rfl dX10_init_62 ?_
  refine lv_iload_n hx hb dX10_init_65 rfl (lv_at hl 0 rfl) ?_
  refine lv_iload_n hx hb dX10_init_66 rfl (lv_at hl 0 rfl) ?_
  have hPc := hP.sub (ws' := []) [] rfl
  have hDc := hD.sub (ws' := []) [] (by decide) rfl
  have hKc := hK.sub (tys' := []) [] rfl
  have hFc := va_free (wc := []) hD hS hA [] rfl
  refine va_calll (va_runS (As := [.int 8]) (rest := [.int 8, .ref q9]) ⟨hx, hb, hml, hown, hG⟩ (cX10_nameKey_1 l dC dI adK adV H.size 8 (iv_w (by decide : iv 8 8 8) (by decide) (by decide))) (va_cwS 1 hG (gS wd_228 wd_229 wd_11 wd_230) rfl rfl rfl (by decide +kernel) ⟨Nat.le_of_ble_eq_true rfl, Nat.le_of_ble_eq_true rfl⟩) ⟨fun a U g mk q => by obtain ⟨q0, q1, qP, qK, qD, qE⟩ := q; exact ⟨q0, q1, qP, va_K.moved (u := U) (U := U.calling g mk a) (Vm.Alike.refl U.vm) qK, qD, qE.same rfl⟩, fun U hU hW => ⟨rfl, by rw [hU], by rw [hU]; exact hPc, va_K.moved hW.alike hKc, hDc.weaken (fun _ _ _ _ => trivial), by rw [hU]; exact ((hE.kept hS.2.1).narrow hFc).warm hW⟩⟩ rfl rfl hl.1 rfl (lv_room (Nat.le_of_ble_eq_true rfl)) dX10_init_67 ⟨by decide, by decide⟩) hS (fun q _ h => hFc q h) hFc (fun r35 u36 t H1 locs ht hvm hw hB hz1 hk1 hS => ?_)
  obtain ⟨hP1, hK1, hD1⟩ := hB
  rw [ht] at hP1
  have hK1 := va_K.moved hvm.symm hK1
  obtain ⟨hP, hD⟩ := va_join (wr := [(h0, .inr (10, [.ref q1, .ref q3, .ref q5, .ref q7, .ref q9, .ref h1, .int 0, .int 0, .int 0, .int 0, .int 0, .long 0])), (q1, .inl (y2, 2501, .inl (fun _ => 0))), (q3, .inl (y4, 2501, .inl (fun _ => 0))), (q5, .inl (y6, 2501, .inl (fun _ => 0))), (q7, .inl (y8, 2501, .inr (.inl (fun _ => 0)))), (q9, .inl (y10, 35, .inr (.inl f34)))]) (w1 := []) hP hD [] [0, 1, 2, 3, 4, 5] rfl rfl (by decide) (by decide) hk1 hFc hP1 hD1
  have hK := (hK.sub (tys' := [(y2, .int), (y4, .int), (y6, .int), (y8, .long), (y10, .long)]) [0, 1, 2, 3, 4] rfl).app hK1
  generalize H1 = H at hP hS ⊢
  have hP : va_P (dC, dI) vwCl [(h0, .inr (10, [.ref q1, .ref q3, .ref q5, .ref q7, .ref q9, .ref h1, .int 0, .int 0, .int 0, .int 0, .int 0, .long 0])), (q1, .inl (y2, 2501, .inl (fun _ => 0))), (q3, .inl (y4, 2501, .inl (fun _ => 0))), (q5, .inl (y6, 2501, .inl (fun _ => 0))), (q7, .inl (y8, 2501, .inr (.inl (fun _ => 0)))), (q9, .inl (y10, 35, .inr (.inl f34)))] H := hP
  have hD : va_D A [(h0, .inr (10, [.ref q1, .ref q3, .ref q5, .ref q7, .ref q9, .ref h1, .int 0, .int 0, .int 0, .int 0, .int 0, .long 0])), (q1, .inl (y2, 2501, .inl (fun _ => 0))), (q3, .inl (y4, 2501, .inl (fun _ => 0))), (q5, .inl (y6, 2501, .inl (fun _ => 0))), (q7, .inl (y8, 2501, .inr (.inl (fun _ => 0)))), (q9, .inl (y10, 35, .inr (.inl f34)))] := hD
  have hK : va_K (dC, dI) vwCl [(y2, .int), (y4, .int), (y6, .int), (y8, .long), (y10, .long)] s := hK
  refine va_last hx hb hK hP hD hS 5 4 rfl rfl (iv_in (by decide : iv 8 8 8) (by decide) (by decide) : vp_in 8 35) dX10_init_70 (fun H locs hP hD hS => ?_)
  have hP : va_P (dC, dI) vwCl [(h0, .inr (10, [.ref q1, .ref q3, .ref q5, .ref q7, .ref q9, .ref h1, .int 0, .int 0, .int 0, .int 0, .int 0, .long 0])), (q1, .inl (y2, 2501, .inl (fun _ => 0))), (q3, .inl (y4, 2501, .inl (fun _ => 0))), (q5, .inl (y6, 2501, .inl (fun _ => 0))), (q7, .inl (y8, 2501, .inr (.inl (fun _ => 0)))), (q9, .inl (y10, 35, .inr (.inl (vp_updL f34 (8 : Int32).toNatClampNeg r35))))] H := hP
  have hD : va_D A [(h0, .inr (10, [.ref q1, .ref q3, .ref q5, .ref q7, .ref q9, .ref h1, .int 0, .int 0, .int 0, .int 0, .int 0, .long 0])), (q1, .inl (y2, 2501, .inl (fun _ => 0))), (q3, .inl (y4, 2501, .inl (fun _ => 0))), (q5, .inl (y6, 2501, .inl (fun _ => 0))), (q7, .inl (y8, 2501, .inr (.inl (fun _ => 0)))), (q9, .inl (y10, 35, .inr (.inl (vp_updL f34 (8 : Int32).toNatClampNeg r35))))] := hD
  obtain ⟨f37, ef37⟩ : ∃ z, z = vp_updL f34 (8 : Int32).toNatClampNeg r35 := ⟨_, rfl⟩
  rw [← ef37] at hP hD
  refine lv_iinc (v := 9) (lv' := [(2, .int 9), (0, .ref h0), (1, .ref h1)]) hx hb dX10_init_71 hl (k := 0) rfl (by decide) (by decide) rfl (fun ls hl => ?_)
  refine lv_goto (tgt := 55) hx hb dX10_init_74 (by decide) ?_
  refine lv_iload_n hx hb dX10_init_55 rfl (lv_at hl 0 rfl) ?_
  refine lv_bipush (v := 35) hx hb dX10_init_56 (by decide) ?_
  refine lv_icmp_ge (tgt := 77) hx hb dX10_init_58 (by decide) (fun c => absurd c (by decide)) (fun _ => ?_)
  refine lv_aload_n hx hb dX10_init_61 rfl (lv_at hl 1 rfl) ?_
  refine va_get (D := (dC, dI)) (ci := 10) (v := .ref q9) (C := RX10) (T := TX10) (N := 12) hx hb hG inGX10 hown hK hP 0 rfl rfl 4 (by decide) (hG _ wd_287) (fun _ h9 => h9) rfl dX10_init_62 ?_
  refine lv_iload_n hx hb dX10_init_65 rfl (lv_at hl 0 rfl) ?_
  refine lv_iload_n hx hb dX10_init_66 rfl (lv_at hl 0 rfl) ?_
  have hPc := hP.sub (ws' := []) [] rfl
  have hDc := hD.sub (ws' := []) [] (by decide) rfl
  have hKc := hK.sub (tys' := []) [] rfl
  have hFc := va_free (wc := []) hD hS hA [] rfl
  refine va_calll (va_runS (As := [.int 9]) (rest := [.int 9, .ref q9]) ⟨hx, hb, hml, hown, hG⟩ (cX10_nameKey_1 l dC dI adK adV H.size 9 (iv_w (by decide : iv 9 9 9) (by decide) (by decide))) (va_cwS 1 hG (gS wd_228 wd_229 wd_11 wd_230) rfl rfl rfl (by decide +kernel) ⟨Nat.le_of_ble_eq_true rfl, Nat.le_of_ble_eq_true rfl⟩) ⟨fun a U g mk q => by obtain ⟨q0, q1, qP, qK, qD, qE⟩ := q; exact ⟨q0, q1, qP, va_K.moved (u := U) (U := U.calling g mk a) (Vm.Alike.refl U.vm) qK, qD, qE.same rfl⟩, fun U hU hW => ⟨rfl, by rw [hU], by rw [hU]; exact hPc, va_K.moved hW.alike hKc, hDc.weaken (fun _ _ _ _ => trivial), by rw [hU]; exact ((hE.kept hS.2.1).narrow hFc).warm hW⟩⟩ rfl rfl hl.1 rfl (lv_room (Nat.le_of_ble_eq_true rfl)) dX10_init_67 ⟨by decide, by decide⟩) hS (fun q _ h => hFc q h) hFc (fun r38 u39 t H1 locs ht hvm hw hB hz1 hk1 hS => ?_)
  obtain ⟨hP1, hK1, hD1⟩ := hB
  rw [ht] at hP1
  have hK1 := va_K.moved hvm.symm hK1
  obtain ⟨hP, hD⟩ := va_join (wr := [(h0, .inr (10, [.ref q1, .ref q3, .ref q5, .ref q7, .ref q9, .ref h1, .int 0, .int 0, .int 0, .int 0, .int 0, .long 0])), (q1, .inl (y2, 2501, .inl (fun _ => 0))), (q3, .inl (y4, 2501, .inl (fun _ => 0))), (q5, .inl (y6, 2501, .inl (fun _ => 0))), (q7, .inl (y8, 2501, .inr (.inl (fun _ => 0)))), (q9, .inl (y10, 35, .inr (.inl f37)))]) (w1 := []) hP hD [] [0, 1, 2, 3, 4, 5] rfl rfl (by decide) (by decide) hk1 hFc hP1 hD1
  have hK := (hK.sub (tys' := [(y2, .int), (y4, .int), (y6, .int), (y8, .long), (y10, .long)]) [0, 1, 2, 3, 4] rfl).app hK1
  generalize H1 = H at hP hS ⊢
  have hP : va_P (dC, dI) vwCl [(h0, .inr (10, [.ref q1, .ref q3, .ref q5, .ref q7, .ref q9, .ref h1, .int 0, .int 0, .int 0, .int 0, .int 0, .long 0])), (q1, .inl (y2, 2501, .inl (fun _ => 0))), (q3, .inl (y4, 2501, .inl (fun _ => 0))), (q5, .inl (y6, 2501, .inl (fun _ => 0))), (q7, .inl (y8, 2501, .inr (.inl (fun _ => 0)))), (q9, .inl (y10, 35, .inr (.inl f37)))] H := hP
  have hD : va_D A [(h0, .inr (10, [.ref q1, .ref q3, .ref q5, .ref q7, .ref q9, .ref h1, .int 0, .int 0, .int 0, .int 0, .int 0, .long 0])), (q1, .inl (y2, 2501, .inl (fun _ => 0))), (q3, .inl (y4, 2501, .inl (fun _ => 0))), (q5, .inl (y6, 2501, .inl (fun _ => 0))), (q7, .inl (y8, 2501, .inr (.inl (fun _ => 0)))), (q9, .inl (y10, 35, .inr (.inl f37)))] := hD
  have hK : va_K (dC, dI) vwCl [(y2, .int), (y4, .int), (y6, .int), (y8, .long), (y10, .long)] s := hK
  refine va_last hx hb hK hP hD hS 5 4 rfl rfl (iv_in (by decide : iv 9 9 9) (by decide) (by decide) : vp_in 9 35) dX10_init_70 (fun H locs hP hD hS => ?_)
  have hP : va_P (dC, dI) vwCl [(h0, .inr (10, [.ref q1, .ref q3, .ref q5, .ref q7, .ref q9, .ref h1, .int 0, .int 0, .int 0, .int 0, .int 0, .long 0])), (q1, .inl (y2, 2501, .inl (fun _ => 0))), (q3, .inl (y4, 2501, .inl (fun _ => 0))), (q5, .inl (y6, 2501, .inl (fun _ => 0))), (q7, .inl (y8, 2501, .inr (.inl (fun _ => 0)))), (q9, .inl (y10, 35, .inr (.inl (vp_updL f37 (9 : Int32).toNatClampNeg r38))))] H := hP
  have hD : va_D A [(h0, .inr (10, [.ref q1, .ref q3, .ref q5, .ref q7, .ref q9, .ref h1, .int 0, .int 0, .int 0, .int 0, .int 0, .long 0])), (q1, .inl (y2, 2501, .inl (fun _ => 0))), (q3, .inl (y4, 2501, .inl (fun _ => 0))), (q5, .inl (y6, 2501, .inl (fun _ => 0))), (q7, .inl (y8, 2501, .inr (.inl (fun _ => 0)))), (q9, .inl (y10, 35, .inr (.inl (vp_updL f37 (9 : Int32).toNatClampNeg r38))))] := hD
  obtain ⟨f40, ef40⟩ : ∃ z, z = vp_updL f37 (9 : Int32).toNatClampNeg r38 := ⟨_, rfl⟩
  rw [← ef40] at hP hD
  refine lv_iinc (v := 10) (lv' := [(2, .int 10), (0, .ref h0), (1, .ref h1)]) hx hb dX10_init_71 hl (k := 0) rfl (by decide) (by decide) rfl (fun ls hl => ?_)
  refine lv_goto (tgt := 55) hx hb dX10_init_74 (by decide) ?_
  refine lv_iload_n hx hb dX10_init_55 rfl (lv_at hl 0 rfl) ?_
  refine lv_bipush (v := 35) hx hb dX10_init_56 (by decide) ?_
  refine lv_icmp_ge (tgt := 77) hx hb dX10_init_58 (by decide) (fun c => absurd c (by decide)) (fun _ => ?_)
  refine lv_aload_n hx hb dX10_init_61 rfl (lv_at hl 1 rfl) ?_
  refine va_get (D := (dC, dI)) (ci := 10) (v := .ref q9) (C := RX10) (T := TX10) (N := 12) hx hb hG inGX10 hown hK hP 0 rfl rfl 4 (by decide) (hG _ wd_287) (fun _ h9 => h9) rfl dX10_init_62 ?_
  refine lv_iload_n hx hb dX10_init_65 rfl (lv_at hl 0 rfl) ?_
  refine lv_iload_n hx hb dX10_init_66 rfl (lv_at hl 0 rfl) ?_
  have hPc := hP.sub (ws' := []) [] rfl
  have hDc := hD.sub (ws' := []) [] (by decide) rfl
  have hKc := hK.sub (tys' := []) [] rfl
  have hFc := va_free (wc := []) hD hS hA [] rfl
  refine va_calll (va_runS (As := [.int 10]) (rest := [.int 10, .ref q9]) ⟨hx, hb, hml, hown, hG⟩ (cX10_nameKey_1 l dC dI adK adV H.size 10 (iv_w (by decide : iv 10 10 10) (by decide) (by decide))) (va_cwS 1 hG (gS wd_228 wd_229 wd_11 wd_230) rfl rfl rfl (by decide +kernel) ⟨Nat.le_of_ble_eq_true rfl, Nat.le_of_ble_eq_true rfl⟩) ⟨fun a U g mk q => by obtain ⟨q0, q1, qP, qK, qD, qE⟩ := q; exact ⟨q0, q1, qP, va_K.moved (u := U) (U := U.calling g mk a) (Vm.Alike.refl U.vm) qK, qD, qE.same rfl⟩, fun U hU hW => ⟨rfl, by rw [hU], by rw [hU]; exact hPc, va_K.moved hW.alike hKc, hDc.weaken (fun _ _ _ _ => trivial), by rw [hU]; exact ((hE.kept hS.2.1).narrow hFc).warm hW⟩⟩ rfl rfl hl.1 rfl (lv_room (Nat.le_of_ble_eq_true rfl)) dX10_init_67 ⟨by decide, by decide⟩) hS (fun q _ h => hFc q h) hFc (fun r41 u42 t H1 locs ht hvm hw hB hz1 hk1 hS => ?_)
  obtain ⟨hP1, hK1, hD1⟩ := hB
  rw [ht] at hP1
  have hK1 := va_K.moved hvm.symm hK1
  obtain ⟨hP, hD⟩ := va_join (wr := [(h0, .inr (10, [.ref q1, .ref q3, .ref q5, .ref q7, .ref q9, .ref h1, .int 0, .int 0, .int 0, .int 0, .int 0, .long 0])), (q1, .inl (y2, 2501, .inl (fun _ => 0))), (q3, .inl (y4, 2501, .inl (fun _ => 0))), (q5, .inl (y6, 2501, .inl (fun _ => 0))), (q7, .inl (y8, 2501, .inr (.inl (fun _ => 0)))), (q9, .inl (y10, 35, .inr (.inl f40)))]) (w1 := []) hP hD [] [0, 1, 2, 3, 4, 5] rfl rfl (by decide) (by decide) hk1 hFc hP1 hD1
  have hK := (hK.sub (tys' := [(y2, .int), (y4, .int), (y6, .int), (y8, .long), (y10, .long)]) [0, 1, 2, 3, 4] rfl).app hK1
  generalize H1 = H at hP hS ⊢
  have hP : va_P (dC, dI) vwCl [(h0, .inr (10, [.ref q1, .ref q3, .ref q5, .ref q7, .ref q9, .ref h1, .int 0, .int 0, .int 0, .int 0, .int 0, .long 0])), (q1, .inl (y2, 2501, .inl (fun _ => 0))), (q3, .inl (y4, 2501, .inl (fun _ => 0))), (q5, .inl (y6, 2501, .inl (fun _ => 0))), (q7, .inl (y8, 2501, .inr (.inl (fun _ => 0)))), (q9, .inl (y10, 35, .inr (.inl f40)))] H := hP
  have hD : va_D A [(h0, .inr (10, [.ref q1, .ref q3, .ref q5, .ref q7, .ref q9, .ref h1, .int 0, .int 0, .int 0, .int 0, .int 0, .long 0])), (q1, .inl (y2, 2501, .inl (fun _ => 0))), (q3, .inl (y4, 2501, .inl (fun _ => 0))), (q5, .inl (y6, 2501, .inl (fun _ => 0))), (q7, .inl (y8, 2501, .inr (.inl (fun _ => 0)))), (q9, .inl (y10, 35, .inr (.inl f40)))] := hD
  have hK : va_K (dC, dI) vwCl [(y2, .int), (y4, .int), (y6, .int), (y8, .long), (y10, .long)] s := hK
  refine va_last hx hb hK hP hD hS 5 4 rfl rfl (iv_in (by decide : iv 10 10 10) (by decide) (by decide) : vp_in 10 35) dX10_init_70 (fun H locs hP hD hS => ?_)
  have hP : va_P (dC, dI) vwCl [(h0, .inr (10, [.ref q1, .ref q3, .ref q5, .ref q7, .ref q9, .ref h1, .int 0, .int 0, .int 0, .int 0, .int 0, .long 0])), (q1, .inl (y2, 2501, .inl (fun _ => 0))), (q3, .inl (y4, 2501, .inl (fun _ => 0))), (q5, .inl (y6, 2501, .inl (fun _ => 0))), (q7, .inl (y8, 2501, .inr (.inl (fun _ => 0)))), (q9, .inl (y10, 35, .inr (.inl (vp_updL f40 (10 : Int32).toNatClampNeg r41))))] H := hP
  have hD : va_D A [(h0, .inr (10, [.ref q1, .ref q3, .ref q5, .ref q7, .ref q9, .ref h1, .int 0, .int 0, .int 0, .int 0, .int 0, .long 0])), (q1, .inl (y2, 2501, .inl (fun _ => 0))), (q3, .inl (y4, 2501, .inl (fun _ => 0))), (q5, .inl (y6, 2501, .inl (fun _ => 0))), (q7, .inl (y8, 2501, .inr (.inl (fun _ => 0)))), (q9, .inl (y10, 35, .inr (.inl (vp_updL f40 (10 : Int32).toNatClampNeg r41))))] := hD
  obtain ⟨f43, ef43⟩ : ∃ z, z = vp_updL f40 (10 : Int32).toNatClampNeg r41 := ⟨_, rfl⟩
  rw [← ef43] at hP hD
  refine lv_iinc (v := 11) (lv' := [(2, .int 11), (0, .ref h0), (1, .ref h1)]) hx hb dX10_init_71 hl (k := 0) rfl (by decide) (by decide) rfl (fun ls hl => ?_)
  refine lv_goto (tgt := 55) hx hb dX10_init_74 (by decide) ?_
  refine lv_iload_n hx hb dX10_init_55 rfl (lv_at hl 0 rfl) ?_
  refine lv_bipush (v := 35) hx hb dX10_init_56 (by decide) ?_
  refine lv_icmp_ge (tgt := 77) hx hb dX10_init_58 (by decide) (fun c => absurd c (by decide)) (fun _ => ?_)
  refine lv_aload_n hx hb dX10_init_61 rfl (lv_at hl 1 rfl) ?_
  refine va_get (D := (dC, dI)) (ci := 10) (v := .ref q9) (C := RX10) (T := TX10) (N := 12) hx hb hG inGX10 hown hK hP 0 rfl rfl 4 (by decide) (hG _ wd_287) (fun _ h9 => h9) rfl dX10_init_62 ?_
  refine lv_iload_n hx hb dX10_init_65 rfl (lv_at hl 0 rfl) ?_
  refine lv_iload_n hx hb dX10_init_66 rfl (lv_at hl 0 rfl) ?_
  have hPc := hP.sub (ws' := []) [] rfl
  have hDc := hD.sub (ws' := []) [] (by decide) rfl
  have hKc := hK.sub (tys' := []) [] rfl
  have hFc := va_free (wc := []) hD hS hA [] rfl
  refine va_calll (va_runS (As := [.int 11]) (rest := [.int 11, .ref q9]) ⟨hx, hb, hml, hown, hG⟩ (cX10_nameKey_1 l dC dI adK adV H.size 11 (iv_w (by decide : iv 11 11 11) (by decide) (by decide))) (va_cwS 1 hG (gS wd_228 wd_229 wd_11 wd_230) rfl rfl rfl (by decide +kernel) ⟨Nat.le_of_ble_eq_true rfl, Nat.le_of_ble_eq_true rfl⟩) ⟨fun a U g mk q => by obtain ⟨q0, q1, qP, qK, qD, qE⟩ := q; exact ⟨q0, q1, qP, va_K.moved (u := U) (U := U.calling g mk a) (Vm.Alike.refl U.vm) qK, qD, qE.same rfl⟩, fun U hU hW => ⟨rfl, by rw [hU], by rw [hU]; exact hPc, va_K.moved hW.alike hKc, hDc.weaken (fun _ _ _ _ => trivial), by rw [hU]; exact ((hE.kept hS.2.1).narrow hFc).warm hW⟩⟩ rfl rfl hl.1 rfl (lv_room (Nat.le_of_ble_eq_true rfl)) dX10_init_67 ⟨by decide, by decide⟩) hS (fun q _ h => hFc q h) hFc (fun r44 u45 t H1 locs ht hvm hw hB hz1 hk1 hS => ?_)
  obtain ⟨hP1, hK1, hD1⟩ := hB
  rw [ht] at hP1
  have hK1 := va_K.moved hvm.symm hK1
  obtain ⟨hP, hD⟩ := va_join (wr := [(h0, .inr (10, [.ref q1, .ref q3, .ref q5, .ref q7, .ref q9, .ref h1, .int 0, .int 0, .int 0, .int 0, .int 0, .long 0])), (q1, .inl (y2, 2501, .inl (fun _ => 0))), (q3, .inl (y4, 2501, .inl (fun _ => 0))), (q5, .inl (y6, 2501, .inl (fun _ => 0))), (q7, .inl (y8, 2501, .inr (.inl (fun _ => 0)))), (q9, .inl (y10, 35, .inr (.inl f43)))]) (w1 := []) hP hD [] [0, 1, 2, 3, 4, 5] rfl rfl (by decide) (by decide) hk1 hFc hP1 hD1
  have hK := (hK.sub (tys' := [(y2, .int), (y4, .int), (y6, .int), (y8, .long), (y10, .long)]) [0, 1, 2, 3, 4] rfl).app hK1
  generalize H1 = H at hP hS ⊢
  have hP : va_P (dC, dI) vwCl [(h0, .inr (10, [.ref q1, .ref q3, .ref q5, .ref q7, .ref q9, .ref h1, .int 0, .int 0, .int 0, .int 0, .int 0, .long 0])), (q1, .inl (y2, 2501, .inl (fun _ => 0))), (q3, .inl (y4, 2501, .inl (fun _ => 0))), (q5, .inl (y6, 2501, .inl (fun _ => 0))), (q7, .inl (y8, 2501, .inr (.inl (fun _ => 0)))), (q9, .inl (y10, 35, .inr (.inl f43)))] H := hP
  have hD : va_D A [(h0, .inr (10, [.ref q1, .ref q3, .ref q5, .ref q7, .ref q9, .ref h1, .int 0, .int 0, .int 0, .int 0, .int 0, .long 0])), (q1, .inl (y2, 2501, .inl (fun _ => 0))), (q3, .inl (y4, 2501, .inl (fun _ => 0))), (q5, .inl (y6, 2501, .inl (fun _ => 0))), (q7, .inl (y8, 2501, .inr (.inl (fun _ => 0)))), (q9, .inl (y10, 35, .inr (.inl f43)))] := hD
  have hK : va_K (dC, dI) vwCl [(y2, .int), (y4, .int), (y6, .int), (y8, .long), (y10, .long)] s := hK
  refine va_last hx hb hK hP hD hS 5 4 rfl rfl (iv_in (by decide : iv 11 11 11) (by decide) (by decide) : vp_in 11 35) dX10_init_70 (fun H locs hP hD hS => ?_)
  have hP : va_P (dC, dI) vwCl [(h0, .inr (10, [.ref q1, .ref q3, .ref q5, .ref q7, .ref q9, .ref h1, .int 0, .int 0, .int 0, .int 0, .int 0, .long 0])), (q1, .inl (y2, 2501, .inl (fun _ => 0))), (q3, .inl (y4, 2501, .inl (fun _ => 0))), (q5, .inl (y6, 2501, .inl (fun _ => 0))), (q7, .inl (y8, 2501, .inr (.inl (fun _ => 0)))), (q9, .inl (y10, 35, .inr (.inl (vp_updL f43 (11 : Int32).toNatClampNeg r44))))] H := hP
  have hD : va_D A [(h0, .inr (10, [.ref q1, .ref q3, .ref q5, .ref q7, .ref q9, .ref h1, .int 0, .int 0, .int 0, .int 0, .int 0, .long 0])), (q1, .inl (y2, 2501, .inl (fun _ => 0))), (q3, .inl (y4, 2501, .inl (fun _ => 0))), (q5, .inl (y6, 2501, .inl (fun _ => 0))), (q7, .inl (y8, 2501, .inr (.inl (fun _ => 0)))), (q9, .inl (y10, 35, .inr (.inl (vp_updL f43 (11 : Int32).toNatClampNeg r44))))] := hD
  obtain ⟨f46, ef46⟩ : ∃ z, z = vp_updL f43 (11 : Int32).toNatClampNeg r44 := ⟨_, rfl⟩
  rw [← ef46] at hP hD
  refine lv_iinc (v := 12) (lv' := [(2, .int 12), (0, .ref h0), (1, .ref h1)]) hx hb dX10_init_71 hl (k := 0) rfl (by decide) (by decide) rfl (fun ls hl => ?_)
  refine lv_goto (tgt := 55) hx hb dX10_init_74 (by decide) ?_
  refine lv_iload_n hx hb dX10_init_55 rfl (lv_at hl 0 rfl) ?_
  refine lv_bipush (v := 35) hx hb dX10_init_56 (by decide) ?_
  refine lv_icmp_ge (tgt := 77) hx hb dX10_init_58 (by decide) (fun c => absurd c (by decide)) (fun _ => ?_)
  refine lv_aload_n hx hb dX10_init_61 rfl (lv_at hl 1 rfl) ?_
  refine va_get (D := (dC, dI)) (ci := 10) (v := .ref q9) (C := RX10) (T := TX10) (N := 12) hx hb hG inGX10 hown hK hP 0 rfl rfl 4 (by decide) (hG _ wd_287) (fun _ h9 => h9) rfl dX10_init_62 ?_
  refine lv_iload_n hx hb dX10_init_65 rfl (lv_at hl 0 rfl) ?_
  refine lv_iload_n hx hb dX10_init_66 rfl (lv_at hl 0 rfl) ?_
  have hPc := hP.sub (ws' := []) [] rfl
  have hDc := hD.sub (ws' := []) [] (by decide) rfl
  have hKc := hK.sub (tys' := []) [] rfl
  have hFc := va_free (wc := []) hD hS hA [] rfl
  refine va_calll (va_runS (As := [.int 12]) (rest := [.int 12, .ref q9]) ⟨hx, hb, hml, hown, hG⟩ (cX10_nameKey_1 l dC dI adK adV H.size 12 (iv_w (by decide : iv 12 12 12) (by decide) (by decide))) (va_cwS 1 hG (gS wd_228 wd_229 wd_11 wd_230) rfl rfl rfl (by decide +kernel) ⟨Nat.le_of_ble_eq_true rfl, Nat.le_of_ble_eq_true rfl⟩) ⟨fun a U g mk q => by obtain ⟨q0, q1, qP, qK, qD, qE⟩ := q; exact ⟨q0, q1, qP, va_K.moved (u := U) (U := U.calling g mk a) (Vm.Alike.refl U.vm) qK, qD, qE.same rfl⟩, fun U hU hW => ⟨rfl, by rw [hU], by rw [hU]; exact hPc, va_K.moved hW.alike hKc, hDc.weaken (fun _ _ _ _ => trivial), by rw [hU]; exact ((hE.kept hS.2.1).narrow hFc).warm hW⟩⟩ rfl rfl hl.1 rfl (lv_room (Nat.le_of_ble_eq_true rfl)) dX10_init_67 ⟨by decide, by decide⟩) hS (fun q _ h => hFc q h) hFc (fun r47 u48 t H1 locs ht hvm hw hB hz1 hk1 hS => ?_)
  obtain ⟨hP1, hK1, hD1⟩ := hB
  rw [ht] at hP1
  have hK1 := va_K.moved hvm.symm hK1
  obtain ⟨hP, hD⟩ := va_join (wr := [(h0, .inr (10, [.ref q1, .ref q3, .ref q5, .ref q7, .ref q9, .ref h1, .int 0, .int 0, .int 0, .int 0, .int 0, .long 0])), (q1, .inl (y2, 2501, .inl (fun _ => 0))), (q3, .inl (y4, 2501, .inl (fun _ => 0))), (q5, .inl (y6, 2501, .inl (fun _ => 0))), (q7, .inl (y8, 2501, .inr (.inl (fun _ => 0)))), (q9, .inl (y10, 35, .inr (.inl f46)))]) (w1 := []) hP hD [] [0, 1, 2, 3, 4, 5] rfl rfl (by decide) (by decide) hk1 hFc hP1 hD1
  have hK := (hK.sub (tys' := [(y2, .int), (y4, .int), (y6, .int), (y8, .long), (y10, .long)]) [0, 1, 2, 3, 4] rfl).app hK1
  generalize H1 = H at hP hS ⊢
  have hP : va_P (dC, dI) vwCl [(h0, .inr (10, [.ref q1, .ref q3, .ref q5, .ref q7, .ref q9, .ref h1, .int 0, .int 0, .int 0, .int 0, .int 0, .long 0])), (q1, .inl (y2, 2501, .inl (fun _ => 0))), (q3, .inl (y4, 2501, .inl (fun _ => 0))), (q5, .inl (y6, 2501, .inl (fun _ => 0))), (q7, .inl (y8, 2501, .inr (.inl (fun _ => 0)))), (q9, .inl (y10, 35, .inr (.inl f46)))] H := hP
  have hD : va_D A [(h0, .inr (10, [.ref q1, .ref q3, .ref q5, .ref q7, .ref q9, .ref h1, .int 0, .int 0, .int 0, .int 0, .int 0, .long 0])), (q1, .inl (y2, 2501, .inl (fun _ => 0))), (q3, .inl (y4, 2501, .inl (fun _ => 0))), (q5, .inl (y6, 2501, .inl (fun _ => 0))), (q7, .inl (y8, 2501, .inr (.inl (fun _ => 0)))), (q9, .inl (y10, 35, .inr (.inl f46)))] := hD
  have hK : va_K (dC, dI) vwCl [(y2, .int), (y4, .int), (y6, .int), (y8, .long), (y10, .long)] s := hK
  refine va_last hx hb hK hP hD hS 5 4 rfl rfl (iv_in (by decide : iv 12 12 12) (by decide) (by decide) : vp_in 12 35) dX10_init_70 (fun H locs hP hD hS => ?_)
  have hP : va_P (dC, dI) vwCl [(h0, .inr (10, [.ref q1, .ref q3, .ref q5, .ref q7, .ref q9, .ref h1, .int 0, .int 0, .int 0, .int 0, .int 0, .long 0])), (q1, .inl (y2, 2501, .inl (fun _ => 0))), (q3, .inl (y4, 2501, .inl (fun _ => 0))), (q5, .inl (y6, 2501, .inl (fun _ => 0))), (q7, .inl (y8, 2501, .inr (.inl (fun _ => 0)))), (q9, .inl (y10, 35, .inr (.inl (vp_updL f46 (12 : Int32).toNatClampNeg r47))))] H := hP
  have hD : va_D A [(h0, .inr (10, [.ref q1, .ref q3, .ref q5, .ref q7, .ref q9, .ref h1, .int 0, .int 0, .int 0, .int 0, .int 0, .long 0])), (q1, .inl (y2, 2501, .inl (fun _ => 0))), (q3, .inl (y4, 2501, .inl (fun _ => 0))), (q5, .inl (y6, 2501, .inl (fun _ => 0))), (q7, .inl (y8, 2501, .inr (.inl (fun _ => 0)))), (q9, .inl (y10, 35, .inr (.inl (vp_updL f46 (12 : Int32).toNatClampNeg r47))))] := hD
  obtain ⟨f49, ef49⟩ : ∃ z, z = vp_updL f46 (12 : Int32).toNatClampNeg r47 := ⟨_, rfl⟩
  rw [← ef49] at hP hD
  refine lv_iinc (v := 13) (lv' := [(2, .int 13), (0, .ref h0), (1, .ref h1)]) hx hb dX10_init_71 hl (k := 0) rfl (by decide) (by decide) rfl (fun ls hl => ?_)
  refine lv_goto (tgt := 55) hx hb dX10_init_74 (by decide) ?_
  refine lv_iload_n hx hb dX10_init_55 rfl (lv_at hl 0 rfl) ?_
  refine lv_bipush (v := 35) hx hb dX10_init_56 (by decide) ?_
  refine lv_icmp_ge (tgt := 77) hx hb dX10_init_58 (by decide) (fun c => absurd c (by decide)) (fun _ => ?_)
  refine lv_aload_n hx hb dX10_init_61 rfl (lv_at hl 1 rfl) ?_
  refine va_get (D := (dC, dI)) (ci := 10) (v := .ref q9) (C := RX10) (T := TX10) (N := 12) hx hb hG inGX10 hown hK hP 0 rfl rfl 4 (by decide) (hG _ wd_287) (fun _ h9 => h9) rfl dX10_init_62 ?_
  refine lv_iload_n hx hb dX10_init_65 rfl (lv_at hl 0 rfl) ?_
  refine lv_iload_n hx hb dX10_init_66 rfl (lv_at hl 0 rfl) ?_
  have hPc := hP.sub (ws' := []) [] rfl
  have hDc := hD.sub (ws' := []) [] (by decide) rfl
  have hKc := hK.sub (tys' := []) [] rfl
  have hFc := va_free (wc := []) hD hS hA [] rfl
  refine va_calll (va_runS (As := [.int 13]) (rest := [.int 13, .ref q9]) ⟨hx, hb, hml, hown, hG⟩ (cX10_nameKey_1 l dC dI adK adV H.size 13 (iv_w (by decide : iv 13 13 13) (by decide) (by decide))) (va_cwS 1 hG (gS wd_228 wd_229 wd_11 wd_230) rfl rfl rfl (by decide +kernel) ⟨Nat.le_of_ble_eq_true rfl, Nat.le_of_ble_eq_true rfl⟩) ⟨fun a U g mk q => by obtain ⟨q0, q1, qP, qK, qD, qE⟩ := q; exact ⟨q0, q1, qP, va_K.moved (u := U) (U := U.calling g mk a) (Vm.Alike.refl U.vm) qK, qD, qE.same rfl⟩, fun U hU hW => ⟨rfl, by rw [hU], by rw [hU]; exact hPc, va_K.moved hW.alike hKc, hDc.weaken (fun _ _ _ _ => trivial), by rw [hU]; exact ((hE.kept hS.2.1).narrow hFc).warm hW⟩⟩ rfl rfl hl.1 rfl (lv_room (Nat.le_of_ble_eq_true rfl)) dX10_init_67 ⟨by decide, by decide⟩) hS (fun q _ h => hFc q h) hFc (fun r50 u51 t H1 locs ht hvm hw hB hz1 hk1 hS => ?_)
  obtain ⟨hP1, hK1, hD1⟩ := hB
  rw [ht] at hP1
  have hK1 := va_K.moved hvm.symm hK1
  obtain ⟨hP, hD⟩ := va_join (wr := [(h0, .inr (10, [.ref q1, .ref q3, .ref q5, .ref q7, .ref q9, .ref h1, .int 0, .int 0, .int 0, .int 0, .int 0, .long 0])), (q1, .inl (y2, 2501, .inl (fun _ => 0))), (q3, .inl (y4, 2501, .inl (fun _ => 0))), (q5, .inl (y6, 2501, .inl (fun _ => 0))), (q7, .inl (y8, 2501, .inr (.inl (fun _ => 0)))), (q9, .inl (y10, 35, .inr (.inl f49)))]) (w1 := []) hP hD [] [0, 1, 2, 3, 4, 5] rfl rfl (by decide) (by decide) hk1 hFc hP1 hD1
  have hK := (hK.sub (tys' := [(y2, .int), (y4, .int), (y6, .int), (y8, .long), (y10, .long)]) [0, 1, 2, 3, 4] rfl).app hK1
  generalize H1 = H at hP hS ⊢
  have hP : va_P (dC, dI) vwCl [(h0, .inr (10, [.ref q1, .ref q3, .ref q5, .ref q7, .ref q9, .ref h1, .int 0, .int 0, .int 0, .int 0, .int 0, .long 0])), (q1, .inl (y2, 2501, .inl (fun _ => 0))), (q3, .inl (y4, 2501, .inl (fun _ => 0))), (q5, .inl (y6, 2501, .inl (fun _ => 0))), (q7, .inl (y8, 2501, .inr (.inl (fun _ => 0)))), (q9, .inl (y10, 35, .inr (.inl f49)))] H := hP
  have hD : va_D A [(h0, .inr (10, [.ref q1, .ref q3, .ref q5, .ref q7, .ref q9, .ref h1, .int 0, .int 0, .int 0, .int 0, .int 0, .long 0])), (q1, .inl (y2, 2501, .inl (fun _ => 0))), (q3, .inl (y4, 2501, .inl (fun _ => 0))), (q5, .inl (y6, 2501, .inl (fun _ => 0))), (q7, .inl (y8, 2501, .inr (.inl (fun _ => 0)))), (q9, .inl (y10, 35, .inr (.inl f49)))] := hD
  have hK : va_K (dC, dI) vwCl [(y2, .int), (y4, .int), (y6, .int), (y8, .long), (y10, .long)] s := hK
  refine va_last hx hb hK hP hD hS 5 4 rfl rfl (iv_in (by decide : iv 13 13 13) (by decide) (by decide) : vp_in 13 35) dX10_init_70 (fun H locs hP hD hS => ?_)
  have hP : va_P (dC, dI) vwCl [(h0, .inr (10, [.ref q1, .ref q3, .ref q5, .ref q7, .ref q9, .ref h1, .int 0, .int 0, .int 0, .int 0, .int 0, .long 0])), (q1, .inl (y2, 2501, .inl (fun _ => 0))), (q3, .inl (y4, 2501, .inl (fun _ => 0))), (q5, .inl (y6, 2501, .inl (fun _ => 0))), (q7, .inl (y8, 2501, .inr (.inl (fun _ => 0)))), (q9, .inl (y10, 35, .inr (.inl (vp_updL f49 (13 : Int32).toNatClampNeg r50))))] H := hP
  have hD : va_D A [(h0, .inr (10, [.ref q1, .ref q3, .ref q5, .ref q7, .ref q9, .ref h1, .int 0, .int 0, .int 0, .int 0, .int 0, .long 0])), (q1, .inl (y2, 2501, .inl (fun _ => 0))), (q3, .inl (y4, 2501, .inl (fun _ => 0))), (q5, .inl (y6, 2501, .inl (fun _ => 0))), (q7, .inl (y8, 2501, .inr (.inl (fun _ => 0)))), (q9, .inl (y10, 35, .inr (.inl (vp_updL f49 (13 : Int32).toNatClampNeg r50))))] := hD
  obtain ⟨f52, ef52⟩ : ∃ z, z = vp_updL f49 (13 : Int32).toNatClampNeg r50 := ⟨_, rfl⟩
  rw [← ef52] at hP hD
  refine lv_iinc (v := 14) (lv' := [(2, .int 14), (0, .ref h0), (1, .ref h1)]) hx hb dX10_init_71 hl (k := 0) rfl (by decide) (by decide) rfl (fun ls hl => ?_)
  refine lv_goto (tgt := 55) hx hb dX10_init_74 (by decide) ?_
  refine lv_iload_n hx hb dX10_init_55 rfl (lv_at hl 0 rfl) ?_
  refine lv_bipush (v := 35) hx hb dX10_init_56 (by decide) ?_
  refine lv_icmp_ge (tgt := 77) hx hb dX10_init_58 (by decide) (fun c => absurd c (by decide)) (fun _ => ?_)
  refine lv_aload_n hx hb dX10_init_61 rfl (lv_at hl 1 rfl) ?_
  refine va_get (D := (dC, dI)) (ci := 10) (v := .ref q9) (C := RX10) (T := TX10) (N := 12) hx hb hG inGX10 hown hK hP 0 rfl rfl 4 (by decide) (hG _ wd_287) (fun _ h9 => h9) rfl dX10_init_62 ?_
  refine lv_iload_n hx hb dX10_init_65 rfl (lv_at hl 0 rfl) ?_
  refine lv_iload_n hx hb dX10_init_66 rfl (lv_at hl 0 rfl) ?_
  have hPc := hP.sub (ws' := []) [] rfl
  have hDc := hD.sub (ws' := []) [] (by decide) rfl
  have hKc := hK.sub (tys' := []) [] rfl
  have hFc := va_free (wc := []) hD hS hA [] rfl
  refine va_calll (va_runS (As := [.int 14]) (rest := [.int 14, .ref q9]) ⟨hx, hb, hml, hown, hG⟩ (cX10_nameKey_1 l dC dI adK adV H.size 14 (iv_w (by decide : iv 14 14 14) (by decide) (by decide))) (va_cwS 1 hG (gS wd_228 wd_229 wd_11 wd_230) rfl rfl rfl (by decide +kernel) ⟨Nat.le_of_ble_eq_true rfl, Nat.le_of_ble_eq_true rfl⟩) ⟨fun a U g mk q => by obtain ⟨q0, q1, qP, qK, qD, qE⟩ := q; exact ⟨q0, q1, qP, va_K.moved (u := U) (U := U.calling g mk a) (Vm.Alike.refl U.vm) qK, qD, qE.same rfl⟩, fun U hU hW => ⟨rfl, by rw [hU], by rw [hU]; exact hPc, va_K.moved hW.alike hKc, hDc.weaken (fun _ _ _ _ => trivial), by rw [hU]; exact ((hE.kept hS.2.1).narrow hFc).warm hW⟩⟩ rfl rfl hl.1 rfl (lv_room (Nat.le_of_ble_eq_true rfl)) dX10_init_67 ⟨by decide, by decide⟩) hS (fun q _ h => hFc q h) hFc (fun r53 u54 t H1 locs ht hvm hw hB hz1 hk1 hS => ?_)
  obtain ⟨hP1, hK1, hD1⟩ := hB
  rw [ht] at hP1
  have hK1 := va_K.moved hvm.symm hK1
  obtain ⟨hP, hD⟩ := va_join (wr := [(h0, .inr (10, [.ref q1, .ref q3, .ref q5, .ref q7, .ref q9, .ref h1, .int 0, .int 0, .int 0, .int 0, .int 0, .long 0])), (q1, .inl (y2, 2501, .inl (fun _ => 0))), (q3, .inl (y4, 2501, .inl (fun _ => 0))), (q5, .inl (y6, 2501, .inl (fun _ => 0))), (q7, .inl (y8, 2501, .inr (.inl (fun _ => 0)))), (q9, .inl (y10, 35, .inr (.inl f52)))]) (w1 := []) hP hD [] [0, 1, 2, 3, 4, 5] rfl rfl (by decide) (by decide) hk1 hFc hP1 hD1
  have hK := (hK.sub (tys' := [(y2, .int), (y4, .int), (y6, .int), (y8, .long), (y10, .long)]) [0, 1, 2, 3, 4] rfl).app hK1
  generalize H1 = H at hP hS ⊢
  have hP : va_P (dC, dI) vwCl [(h0, .inr (10, [.ref q1, .ref q3, .ref q5, .ref q7, .ref q9, .ref h1, .int 0, .int 0, .int 0, .int 0, .int 0, .long 0])), (q1, .inl (y2, 2501, .inl (fun _ => 0))), (q3, .inl (y4, 2501, .inl (fun _ => 0))), (q5, .inl (y6, 2501, .inl (fun _ => 0))), (q7, .inl (y8, 2501, .inr (.inl (fun _ => 0)))), (q9, .inl (y10, 35, .inr (.inl f52)))] H := hP
  have hD : va_D A [(h0, .inr (10, [.ref q1, .ref q3, .ref q5, .ref q7, .ref q9, .ref h1, .int 0, .int 0, .int 0, .int 0, .int 0, .long 0])), (q1, .inl (y2, 2501, .inl (fun _ => 0))), (q3, .inl (y4, 2501, .inl (fun _ => 0))), (q5, .inl (y6, 2501, .inl (fun _ => 0))), (q7, .inl (y8, 2501, .inr (.inl (fun _ => 0)))), (q9, .inl (y10, 35, .inr (.inl f52)))] := hD
  have hK : va_K (dC, dI) vwCl [(y2, .int), (y4, .int), (y6, .int), (y8, .long), (y10, .long)] s := hK
  refine va_last hx hb hK hP hD hS 5 4 rfl rfl (iv_in (by decide : iv 14 14 14) (by decide) (by decide) : vp_in 14 35) dX10_init_70 (fun H locs hP hD hS => ?_)
  have hP : va_P (dC, dI) vwCl [(h0, .inr (10, [.ref q1, .ref q3, .ref q5, .ref q7, .ref q9, .ref h1, .int 0, .int 0, .int 0, .int 0, .int 0, .long 0])), (q1, .inl (y2, 2501, .inl (fun _ => 0))), (q3, .inl (y4, 2501, .inl (fun _ => 0))), (q5, .inl (y6, 2501, .inl (fun _ => 0))), (q7, .inl (y8, 2501, .inr (.inl (fun _ => 0)))), (q9, .inl (y10, 35, .inr (.inl (vp_updL f52 (14 : Int32).toNatClampNeg r53))))] H := hP
  have hD : va_D A [(h0, .inr (10, [.ref q1, .ref q3, .ref q5, .ref q7, .ref q9, .ref h1, .int 0, .int 0, .int 0, .int 0, .int 0, .long 0])), (q1, .inl (y2, 2501, .inl (fun _ => 0))), (q3, .inl (y4, 2501, .inl (fun _ => 0))), (q5, .inl (y6, 2501, .inl (fun _ => 0))), (q7, .inl (y8, 2501, .inr (.inl (fun _ => 0)))), (q9, .inl (y10, 35, .inr (.inl (vp_updL f52 (14 : Int32).toNatClampNeg r53))))] := hD
  obtain ⟨f55, ef55⟩ : ∃ z, z = vp_updL f52 (14 : Int32).toNatClampNeg r53 := ⟨_, rfl⟩
  rw [← ef55] at hP hD
  refine lv_iinc (v := 15) (lv' := [(2, .int 15), (0, .ref h0), (1, .ref h1)]) hx hb dX10_init_71 hl (k := 0) rfl (by decide) (by decide) rfl (fun ls hl => ?_)
  refine lv_goto (tgt := 55) hx hb dX10_init_74 (by decide) ?_
  refine lv_iload_n hx hb dX10_init_55 rfl (lv_at hl 0 rfl) ?_
  refine lv_bipush (v := 35) hx hb dX10_init_56 (by decide) ?_
  refine lv_icmp_ge (tgt := 77) hx hb dX10_init_58 (by decide) (fun c => absurd c (by decide)) (fun _ => ?_)
  refine lv_aload_n hx hb dX10_init_61 rfl (lv_at hl 1 rfl) ?_
  refine va_get (D := (dC, dI)) (ci := 10) (v := .ref q9) (C := RX10) (T := TX10) (N := 12) hx hb hG inGX10 hown hK hP 0 rfl rfl 4 (by decide) (hG _ wd_287) (fun _ h9 => h9) rfl dX10_init_62 ?_
  refine lv_iload_n hx hb dX10_init_65 rfl (lv_at hl 0 rfl) ?_
  refine lv_iload_n hx hb dX10_init_66 rfl (lv_at hl 0 rfl) ?_
  have hPc := hP.sub (ws' := []) [] rfl
  have hDc := hD.sub (ws' := []) [] (by decide) rfl
  have hKc := hK.sub (tys' := []) [] rfl
  have hFc := va_free (wc := []) hD hS hA [] rfl
  refine va_calll (va_runS (As := [.int 15]) (rest := [.int 15, .ref q9]) ⟨hx, hb, hml, hown, hG⟩ (cX10_nameKey_1 l dC dI adK adV H.size 15 (iv_w (by decide : iv 15 15 15) (by decide) (by decide))) (va_cwS 1 hG (gS wd_228 wd_229 wd_11 wd_230) rfl rfl rfl (by decide +kernel) ⟨Nat.le_of_ble_eq_true rfl, Nat.le_of_ble_eq_true rfl⟩) ⟨fun a U g mk q => by obtain ⟨q0, q1, qP, qK, qD, qE⟩ := q; exact ⟨q0, q1, qP, va_K.moved (u := U) (U := U.calling g mk a) (Vm.Alike.refl U.vm) qK, qD, qE.same rfl⟩, fun U hU hW => ⟨rfl, by rw [hU], by rw [hU]; exact hPc, va_K.moved hW.alike hKc, hDc.weaken (fun _ _ _ _ => trivial), by rw [hU]; exact ((hE.kept hS.2.1).narrow hFc).warm hW⟩⟩ rfl rfl hl.1 rfl (lv_room (Nat.le_of_ble_eq_true rfl)) dX10_init_67 ⟨by decide, by decide⟩) hS (fun q _ h => hFc q h) hFc (fun r56 u57 t H1 locs ht hvm hw hB hz1 hk1 hS => ?_)
  obtain ⟨hP1, hK1, hD1⟩ := hB
  rw [ht] at hP1
  have hK1 := va_K.moved hvm.symm hK1
  obtain ⟨hP, hD⟩ := va_join (wr := [(h0, .inr (10, [.ref q1, .ref q3, .ref q5, .ref q7, .ref q9, .ref h1, .int 0, .int 0, .int 0, .int 0, .int 0, .long 0])), (q1, .inl (y2, 2501, .inl (fun _ => 0))), (q3, .inl (y4, 2501, .inl (fun _ => 0))), (q5, .inl (y6, 2501, .inl (fun _ => 0))), (q7, .inl (y8, 2501, .inr (.inl (fun _ => 0)))), (q9, .inl (y10, 35, .inr (.inl f55)))]) (w1 := []) hP hD [] [0, 1, 2, 3, 4, 5] rfl rfl (by decide) (by decide) hk1 hFc hP1 hD1
  have hK := (hK.sub (tys' := [(y2, .int), (y4, .int), (y6, .int), (y8, .long), (y10, .long)]) [0, 1, 2, 3, 4] rfl).app hK1
  generalize H1 = H at hP hS ⊢
  have hP : va_P (dC, dI) vwCl [(h0, .inr (10, [.ref q1, .ref q3, .ref q5, .ref q7, .ref q9, .ref h1, .int 0, .int 0, .int 0, .int 0, .int 0, .long 0])), (q1, .inl (y2, 2501, .inl (fun _ => 0))), (q3, .inl (y4, 2501, .inl (fun _ => 0))), (q5, .inl (y6, 2501, .inl (fun _ => 0))), (q7, .inl (y8, 2501, .inr (.inl (fun _ => 0)))), (q9, .inl (y10, 35, .inr (.inl f55)))] H := hP
  have hD : va_D A [(h0, .inr (10, [.ref q1, .ref q3, .ref q5, .ref q7, .ref q9, .ref h1, .int 0, .int 0, .int 0, .int 0, .int 0, .long 0])), (q1, .inl (y2, 2501, .inl (fun _ => 0))), (q3, .inl (y4, 2501, .inl (fun _ => 0))), (q5, .inl (y6, 2501, .inl (fun _ => 0))), (q7, .inl (y8, 2501, .inr (.inl (fun _ => 0)))), (q9, .inl (y10, 35, .inr (.inl f55)))] := hD
  have hK : va_K (dC, dI) vwCl [(y2, .int), (y4, .int), (y6, .int), (y8, .long), (y10, .long)] s := hK
  refine va_last hx hb hK hP hD hS 5 4 rfl rfl (iv_in (by decide : iv 15 15 15) (by decide) (by decide) : vp_in 15 35) dX10_init_70 (fun H locs hP hD hS => ?_)
  have hP : va_P (dC, dI) vwCl [(h0, .inr (10, [.ref q1, .ref q3, .ref q5, .ref q7, .ref q9, .ref h1, .int 0, .int 0, .int 0, .int 0, .int 0, .long 0])), (q1, .inl (y2, 2501, .inl (fun _ => 0))), (q3, .inl (y4, 2501, .inl (fun _ => 0))), (q5, .inl (y6, 2501, .inl (fun _ => 0))), (q7, .inl (y8, 2501, .inr (.inl (fun _ => 0)))), (q9, .inl (y10, 35, .inr (.inl (vp_updL f55 (15 : Int32).toNatClampNeg r56))))] H := hP
  have hD : va_D A [(h0, .inr (10, [.ref q1, .ref q3, .ref q5, .ref q7, .ref q9, .ref h1, .int 0, .int 0, .int 0, .int 0, .int 0, .long 0])), (q1, .inl (y2, 2501, .inl (fun _ => 0))), (q3, .inl (y4, 2501, .inl (fun _ => 0))), (q5, .inl (y6, 2501, .inl (fun _ => 0))), (q7, .inl (y8, 2501, .inr (.inl (fun _ => 0)))), (q9, .inl (y10, 35, .inr (.inl (vp_updL f55 (15 : Int32).toNatClampNeg r56))))] := hD
  obtain ⟨f58, ef58⟩ : ∃ z, z = vp_updL f55 (15 : Int32).toNatClampNeg r56 := ⟨_, rfl⟩
  rw [← ef58] at hP hD
  refine lv_iinc (v := 16) (lv' := [(2, .int 16), (0, .ref h0), (1, .ref h1)]) hx hb dX10_init_71 hl (k := 0) rfl (by decide) (by decide) rfl (fun ls hl => ?_)
  refine lv_goto (tgt := 55) hx hb dX10_init_74 (by decide) ?_
  refine lv_iload_n hx hb dX10_init_55 rfl (lv_at hl 0 rfl) ?_
  refine lv_bipush (v := 35) hx hb dX10_init_56 (by decide) ?_
  refine lv_icmp_ge (tgt := 77) hx hb dX10_init_58 (by decide) (fun c => absurd c (by decide)) (fun _ => ?_)
  refine lv_aload_n hx hb dX10_init_61 rfl (lv_at hl 1 rfl) ?_
  refine va_get (D := (dC, dI)) (ci := 10) (v := .ref q9) (C := RX10) (T := TX10) (N := 12) hx hb hG inGX10 hown hK hP 0 rfl rfl 4 (by decide) (hG _ wd_287) (fun _ h9 => h9) rfl dX10_init_62 ?_
  refine lv_iload_n hx hb dX10_init_65 rfl (lv_at hl 0 rfl) ?_
  refine lv_iload_n hx hb dX10_init_66 rfl (lv_at hl 0 rfl) ?_
  have hPc := hP.sub (ws' := []) [] rfl
  have hDc := hD.sub (ws' := []) [] (by decide) rfl
  have hKc := hK.sub (tys' := []) [] rfl
  have hFc := va_free (wc := []) hD hS hA [] rfl
  refine va_calll (va_runS (As := [.int 16]) (rest := [.int 16, .ref q9]) ⟨hx, hb, hml, hown, hG⟩ (cX10_nameKey_1 l dC dI adK adV H.size 16 (iv_w (by decide : iv 16 16 16) (by decide) (by decide))) (va_cwS 1 hG (gS wd_228 wd_229 wd_11 wd_230) rfl rfl rfl (by decide +kernel) ⟨Nat.le_of_ble_eq_true rfl, Nat.le_of_ble_eq_true rfl⟩) ⟨fun a U g mk q => by obtain ⟨q0, q1, qP, qK, qD, qE⟩ := q; exact ⟨q0, q1, qP, va_K.moved (u := U) (U := U.calling g mk a) (Vm.Alike.refl U.vm) qK, qD, qE.same rfl⟩, fun U hU hW => ⟨rfl, by rw [hU], by rw [hU]; exact hPc, va_K.moved hW.alike hKc, hDc.weaken (fun _ _ _ _ => trivial), by rw [hU]; exact ((hE.kept hS.2.1).narrow hFc).warm hW⟩⟩ rfl rfl hl.1 rfl (lv_room (Nat.le_of_ble_eq_true rfl)) dX10_init_67 ⟨by decide, by decide⟩) hS (fun q _ h => hFc q h) hFc (fun r59 u60 t H1 locs ht hvm hw hB hz1 hk1 hS => ?_)
  obtain ⟨hP1, hK1, hD1⟩ := hB
  rw [ht] at hP1
  have hK1 := va_K.moved hvm.symm hK1
  obtain ⟨hP, hD⟩ := va_join (wr := [(h0, .inr (10, [.ref q1, .ref q3, .ref q5, .ref q7, .ref q9, .ref h1, .int 0, .int 0, .int 0, .int 0, .int 0, .long 0])), (q1, .inl (y2, 2501, .inl (fun _ => 0))), (q3, .inl (y4, 2501, .inl (fun _ => 0))), (q5, .inl (y6, 2501, .inl (fun _ => 0))), (q7, .inl (y8, 2501, .inr (.inl (fun _ => 0)))), (q9, .inl (y10, 35, .inr (.inl f58)))]) (w1 := []) hP hD [] [0, 1, 2, 3, 4, 5] rfl rfl (by decide) (by decide) hk1 hFc hP1 hD1
  have hK := (hK.sub (tys' := [(y2, .int), (y4, .int), (y6, .int), (y8, .long), (y10, .long)]) [0, 1, 2, 3, 4] rfl).app hK1
  generalize H1 = H at hP hS ⊢
  have hP : va_P (dC, dI) vwCl [(h0, .inr (10, [.ref q1, .ref q3, .ref q5, .ref q7, .ref q9, .ref h1, .int 0, .int 0, .int 0, .int 0, .int 0, .long 0])), (q1, .inl (y2, 2501, .inl (fun _ => 0))), (q3, .inl (y4, 2501, .inl (fun _ => 0))), (q5, .inl (y6, 2501, .inl (fun _ => 0))), (q7, .inl (y8, 2501, .inr (.inl (fun _ => 0)))), (q9, .inl (y10, 35, .inr (.inl f58)))] H := hP
  have hD : va_D A [(h0, .inr (10, [.ref q1, .ref q3, .ref q5, .ref q7, .ref q9, .ref h1, .int 0, .int 0, .int 0, .int 0, .int 0, .long 0])), (q1, .inl (y2, 2501, .inl (fun _ => 0))), (q3, .inl (y4, 2501, .inl (fun _ => 0))), (q5, .inl (y6, 2501, .inl (fun _ => 0))), (q7, .inl (y8, 2501, .inr (.inl (fun _ => 0)))), (q9, .inl (y10, 35, .inr (.inl f58)))] := hD
  have hK : va_K (dC, dI) vwCl [(y2, .int), (y4, .int), (y6, .int), (y8, .long), (y10, .long)] s := hK
  refine va_last hx hb hK hP hD hS 5 4 rfl rfl (iv_in (by decide : iv 16 16 16) (by decide) (by decide) : vp_in 16 35) dX10_init_70 (fun H locs hP hD hS => ?_)
  have hP : va_P (dC, dI) vwCl [(h0, .inr (10, [.ref q1, .ref q3, .ref q5, .ref q7, .ref q9, .ref h1, .int 0, .int 0, .int 0, .int 0, .int 0, .long 0])), (q1, .inl (y2, 2501, .inl (fun _ => 0))), (q3, .inl (y4, 2501, .inl (fun _ => 0))), (q5, .inl (y6, 2501, .inl (fun _ => 0))), (q7, .inl (y8, 2501, .inr (.inl (fun _ => 0)))), (q9, .inl (y10, 35, .inr (.inl (vp_updL f58 (16 : Int32).toNatClampNeg r59))))] H := hP
  have hD : va_D A [(h0, .inr (10, [.ref q1, .ref q3, .ref q5, .ref q7, .ref q9, .ref h1, .int 0, .int 0, .int 0, .int 0, .int 0, .long 0])), (q1, .inl (y2, 2501, .inl (fun _ => 0))), (q3, .inl (y4, 2501, .inl (fun _ => 0))), (q5, .inl (y6, 2501, .inl (fun _ => 0))), (q7, .inl (y8, 2501, .inr (.inl (fun _ => 0)))), (q9, .inl (y10, 35, .inr (.inl (vp_updL f58 (16 : Int32).toNatClampNeg r59))))] := hD
  obtain ⟨f61, ef61⟩ : ∃ z, z = vp_updL f58 (16 : Int32).toNatClampNeg r59 := ⟨_, rfl⟩
  rw [← ef61] at hP hD
  refine lv_iinc (v := 17) (lv' := [(2, .int 17), (0, .ref h0), (1, .ref h1)]) hx hb dX10_init_71 hl (k := 0) rfl (by decide) (by decide) rfl (fun ls hl => ?_)
  refine lv_goto (tgt := 55) hx hb dX10_init_74 (by decide) ?_
  refine lv_iload_n hx hb dX10_init_55 rfl (lv_at hl 0 rfl) ?_
  refine lv_bipush (v := 35) hx hb dX10_init_56 (by decide) ?_
  refine lv_icmp_ge (tgt := 77) hx hb dX10_init_58 (by decide) (fun c => absurd c (by decide)) (fun _ => ?_)
  refine lv_aload_n hx hb dX10_init_61 rfl (lv_at hl 1 rfl) ?_
  refine va_get (D := (dC, dI)) (ci := 10) (v := .ref q9) (C := RX10) (T := TX10) (N := 12) hx hb hG inGX10 hown hK hP 0 rfl rfl 4 (by decide) (hG _ wd_287) (fun _ h9 => h9) rfl dX10_init_62 ?_
  refine lv_iload_n hx hb dX10_init_65 rfl (lv_at hl 0 rfl) ?_
  refine lv_iload_n hx hb dX10_init_66 rfl (lv_at hl 0 rfl) ?_
  have hPc := hP.sub (ws' := []) [] rfl
  have hDc := hD.sub (ws' := []) [] (by decide) rfl
  have hKc := hK.sub (tys' := []) [] rfl
  have hFc := va_free (wc := []) hD hS hA [] rfl
  refine va_calll (va_runS (As := [.int 17]) (rest := [.int 17, .ref q9]) ⟨hx, hb, hml, hown, hG⟩ (cX10_nameKey_1 l dC dI adK adV H.size 17 (iv_w (by decide : iv 17 17 17) (by decide) (by decide))) (va_cwS 1 hG (gS wd_228 wd_229 wd_11 wd_230) rfl rfl rfl (by decide +kernel) ⟨Nat.le_of_ble_eq_true rfl, Nat.le_of_ble_eq_true rfl⟩) ⟨fun a U g mk q => by obtain ⟨q0, q1, qP, qK, qD, qE⟩ := q; exact ⟨q0, q1, qP, va_K.moved (u := U) (U := U.calling g mk a) (Vm.Alike.refl U.vm) qK, qD, qE.same rfl⟩, fun U hU hW => ⟨rfl, by rw [hU], by rw [hU]; exact hPc, va_K.moved hW.alike hKc, hDc.weaken (fun _ _ _ _ => trivial), by rw [hU]; exact ((hE.kept hS.2.1).narrow hFc).warm hW⟩⟩ rfl rfl hl.1 rfl (lv_room (Nat.le_of_ble_eq_true rfl)) dX10_init_67 ⟨by decide, by decide⟩) hS (fun q _ h => hFc q h) hFc (fun r62 u63 t H1 locs ht hvm hw hB hz1 hk1 hS => ?_)
  obtain ⟨hP1, hK1, hD1⟩ := hB
  rw [ht] at hP1
  have hK1 := va_K.moved hvm.symm hK1
  obtain ⟨hP, hD⟩ := va_join (wr := [(h0, .inr (10, [.ref q1, .ref q3, .ref q5, .ref q7, .ref q9, .ref h1, .int 0, .int 0, .int 0, .int 0, .int 0, .long 0])), (q1, .inl (y2, 2501, .inl (fun _ => 0))), (q3, .inl (y4, 2501, .inl (fun _ => 0))), (q5, .inl (y6, 2501, .inl (fun _ => 0))), (q7, .inl (y8, 2501, .inr (.inl (fun _ => 0)))), (q9, .inl (y10, 35, .inr (.inl f61)))]) (w1 := []) hP hD [] [0, 1, 2, 3, 4, 5] rfl rfl (by decide) (by decide) hk1 hFc hP1 hD1
  have hK := (hK.sub (tys' := [(y2, .int), (y4, .int), (y6, .int), (y8, .long), (y10, .long)]) [0, 1, 2, 3, 4] rfl).app hK1
  generalize H1 = H at hP hS ⊢
  have hP : va_P (dC, dI) vwCl [(h0, .inr (10, [.ref q1, .ref q3, .ref q5, .ref q7, .ref q9, .ref h1, .int 0, .int 0, .int 0, .int 0, .int 0, .long 0])), (q1, .inl (y2, 2501, .inl (fun _ => 0))), (q3, .inl (y4, 2501, .inl (fun _ => 0))), (q5, .inl (y6, 2501, .inl (fun _ => 0))), (q7, .inl (y8, 2501, .inr (.inl (fun _ => 0)))), (q9, .inl (y10, 35, .inr (.inl f61)))] H := hP
  have hD : va_D A [(h0, .inr (10, [.ref q1, .ref q3, .ref q5, .ref q7, .ref q9, .ref h1, .int 0, .int 0, .int 0, .int 0, .int 0, .long 0])), (q1, .inl (y2, 2501, .inl (fun _ => 0))), (q3, .inl (y4, 2501, .inl (fun _ => 0))), (q5, .inl (y6, 2501, .inl (fun _ => 0))), (q7, .inl (y8, 2501, .inr (.inl (fun _ => 0)))), (q9, .inl (y10, 35, .inr (.inl f61)))] := hD
  have hK : va_K (dC, dI) vwCl [(y2, .int), (y4, .int), (y6, .int), (y8, .long), (y10, .long)] s := hK
  refine va_last hx hb hK hP hD hS 5 4 rfl rfl (iv_in (by decide : iv 17 17 17) (by decide) (by decide) : vp_in 17 35) dX10_init_70 (fun H locs hP hD hS => ?_)
  have hP : va_P (dC, dI) vwCl [(h0, .inr (10, [.ref q1, .ref q3, .ref q5, .ref q7, .ref q9, .ref h1, .int 0, .int 0, .int 0, .int 0, .int 0, .long 0])), (q1, .inl (y2, 2501, .inl (fun _ => 0))), (q3, .inl (y4, 2501, .inl (fun _ => 0))), (q5, .inl (y6, 2501, .inl (fun _ => 0))), (q7, .inl (y8, 2501, .inr (.inl (fun _ => 0)))), (q9, .inl (y10, 35, .inr (.inl (vp_updL f61 (17 : Int32).toNatClampNeg r62))))] H := hP
  have hD : va_D A [(h0, .inr (10, [.ref q1, .ref q3, .ref q5, .ref q7, .ref q9, .ref h1, .int 0, .int 0, .int 0, .int 0, .int 0, .long 0])), (q1, .inl (y2, 2501, .inl (fun _ => 0))), (q3, .inl (y4, 2501, .inl (fun _ => 0))), (q5, .inl (y6, 2501, .inl (fun _ => 0))), (q7, .inl (y8, 2501, .inr (.inl (fun _ => 0)))), (q9, .inl (y10, 35, .inr (.inl (vp_updL f61 (17 : Int32).toNatClampNeg r62))))] := hD
  obtain ⟨f64, ef64⟩ : ∃ z, z = vp_updL f61 (17 : Int32).toNatClampNeg r62 := ⟨_, rfl⟩
  rw [← ef64] at hP hD
  refine lv_iinc (v := 18) (lv' := [(2, .int 18), (0, .ref h0), (1, .ref h1)]) hx hb dX10_init_71 hl (k := 0) rfl (by decide) (by decide) rfl (fun ls hl => ?_)
  refine lv_goto (tgt := 55) hx hb dX10_init_74 (by decide) ?_
  refine lv_iload_n hx hb dX10_init_55 rfl (lv_at hl 0 rfl) ?_
  refine lv_bipush (v := 35) hx hb dX10_init_56 (by decide) ?_
  refine lv_icmp_ge (tgt := 77) hx hb dX10_init_58 (by decide) (fun c => absurd c (by decide)) (fun _ => ?_)
  refine lv_aload_n hx hb dX10_init_61 rfl (lv_at hl 1 rfl) ?_
  refine va_get (D := (dC, dI)) (ci := 10) (v := .ref q9) (C := RX10) (T := TX10) (N := 12) hx hb hG inGX10 hown hK hP 0 rfl rfl 4 (by decide) (hG _ wd_287) (fun _ h9 => h9) rfl dX10_init_62 ?_
  refine lv_iload_n hx hb dX10_init_65 rfl (lv_at hl 0 rfl) ?_
  refine lv_iload_n hx hb dX10_init_66 rfl (lv_at hl 0 rfl) ?_
  have hPc := hP.sub (ws' := []) [] rfl
  have hDc := hD.sub (ws' := []) [] (by decide) rfl
  have hKc := hK.sub (tys' := []) [] rfl
  have hFc := va_free (wc := []) hD hS hA [] rfl
  refine va_calll (va_runS (As := [.int 18]) (rest := [.int 18, .ref q9]) ⟨hx, hb, hml, hown, hG⟩ (cX10_nameKey_1 l dC dI adK adV H.size 18 (iv_w (by decide : iv 18 18 18) (by decide) (by decide))) (va_cwS 1 hG (gS wd_228 wd_229 wd_11 wd_230) rfl rfl rfl (by decide +kernel) ⟨Nat.le_of_ble_eq_true rfl, Nat.le_of_ble_eq_true rfl⟩) ⟨fun a U g mk q => by obtain ⟨q0, q1, qP, qK, qD, qE⟩ := q; exact ⟨q0, q1, qP, va_K.moved (u := U) (U := U.calling g mk a) (Vm.Alike.refl U.vm) qK, qD, qE.same rfl⟩, fun U hU hW => ⟨rfl, by rw [hU], by rw [hU]; exact hPc, va_K.moved hW.alike hKc, hDc.weaken (fun _ _ _ _ => trivial), by rw [hU]; exact ((hE.kept hS.2.1).narrow hFc).warm hW⟩⟩ rfl rfl hl.1 rfl (lv_room (Nat.le_of_ble_eq_true rfl)) dX10_init_67 ⟨by decide, by decide⟩) hS (fun q _ h => hFc q h) hFc (fun r65 u66 t H1 locs ht hvm hw hB hz1 hk1 hS => ?_)
  obtain ⟨hP1, hK1, hD1⟩ := hB
  rw [ht] at hP1
  have hK1 := va_K.moved hvm.symm hK1
  obtain ⟨hP, hD⟩ := va_join (wr := [(h0, .inr (10, [.ref q1, .ref q3, .ref q5, .ref q7, .ref q9, .ref h1, .int 0, .int 0, .int 0, .int 0, .int 0, .long 0])), (q1, .inl (y2, 2501, .inl (fun _ => 0))), (q3, .inl (y4, 2501, .inl (fun _ => 0))), (q5, .inl (y6, 2501, .inl (fun _ => 0))), (q7, .inl (y8, 2501, .inr (.inl (fun _ => 0)))), (q9, .inl (y10, 35, .inr (.inl f64)))]) (w1 := []) hP hD [] [0, 1, 2, 3, 4, 5] rfl rfl (by decide) (by decide) hk1 hFc hP1 hD1
  have hK := (hK.sub (tys' := [(y2, .int), (y4, .int), (y6, .int), (y8, .long), (y10, .long)]) [0, 1, 2, 3, 4] rfl).app hK1
  generalize H1 = H at hP hS ⊢
  have hP : va_P (dC, dI) vwCl [(h0, .inr (10, [.ref q1, .ref q3, .ref q5, .ref q7, .ref q9, .ref h1, .int 0, .int 0, .int 0, .int 0, .int 0, .long 0])), (q1, .inl (y2, 2501, .inl (fun _ => 0))), (q3, .inl (y4, 2501, .inl (fun _ => 0))), (q5, .inl (y6, 2501, .inl (fun _ => 0))), (q7, .inl (y8, 2501, .inr (.inl (fun _ => 0)))), (q9, .inl (y10, 35, .inr (.inl f64)))] H := hP
  have hD : va_D A [(h0, .inr (10, [.ref q1, .ref q3, .ref q5, .ref q7, .ref q9, .ref h1, .int 0, .int 0, .int 0, .int 0, .int 0, .long 0])), (q1, .inl (y2, 2501, .inl (fun _ => 0))), (q3, .inl (y4, 2501, .inl (fun _ => 0))), (q5, .inl (y6, 2501, .inl (fun _ => 0))), (q7, .inl (y8, 2501, .inr (.inl (fun _ => 0)))), (q9, .inl (y10, 35, .inr (.inl f64)))] := hD
  have hK : va_K (dC, dI) vwCl [(y2, .int), (y4, .int), (y6, .int), (y8, .long), (y10, .long)] s := hK
  refine va_last hx hb hK hP hD hS 5 4 rfl rfl (iv_in (by decide : iv 18 18 18) (by decide) (by decide) : vp_in 18 35) dX10_init_70 (fun H locs hP hD hS => ?_)
  have hP : va_P (dC, dI) vwCl [(h0, .inr (10, [.ref q1, .ref q3, .ref q5, .ref q7, .ref q9, .ref h1, .int 0, .int 0, .int 0, .int 0, .int 0, .long 0])), (q1, .inl (y2, 2501, .inl (fun _ => 0))), (q3, .inl (y4, 2501, .inl (fun _ => 0))), (q5, .inl (y6, 2501, .inl (fun _ => 0))), (q7, .inl (y8, 2501, .inr (.inl (fun _ => 0)))), (q9, .inl (y10, 35, .inr (.inl (vp_updL f64 (18 : Int32).toNatClampNeg r65))))] H := hP
  have hD : va_D A [(h0, .inr (10, [.ref q1, .ref q3, .ref q5, .ref q7, .ref q9, .ref h1, .int 0, .int 0, .int 0, .int 0, .int 0, .long 0])), (q1, .inl (y2, 2501, .inl (fun _ => 0))), (q3, .inl (y4, 2501, .inl (fun _ => 0))), (q5, .inl (y6, 2501, .inl (fun _ => 0))), (q7, .inl (y8, 2501, .inr (.inl (fun _ => 0)))), (q9, .inl (y10, 35, .inr (.inl (vp_updL f64 (18 : Int32).toNatClampNeg r65))))] := hD
  obtain ⟨f67, ef67⟩ : ∃ z, z = vp_updL f64 (18 : Int32).toNatClampNeg r65 := ⟨_, rfl⟩
  rw [← ef67] at hP hD
  refine lv_iinc (v := 19) (lv' := [(2, .int 19), (0, .ref h0), (1, .ref h1)]) hx hb dX10_init_71 hl (k := 0) rfl (by decide) (by decide) rfl (fun ls hl => ?_)
  refine lv_goto (tgt := 55) hx hb dX10_init_74 (by decide) ?_
  refine lv_iload_n hx hb dX10_init_55 rfl (lv_at hl 0 rfl) ?_
  refine lv_bipush (v := 35) hx hb dX10_init_56 (by decide) ?_
  refine lv_icmp_ge (tgt := 77) hx hb dX10_init_58 (by decide) (fun c => absurd c (by decide)) (fun _ => ?_)
  refine lv_aload_n hx hb dX10_init_61 rfl (lv_at hl 1 rfl) ?_
  refine va_get (D := (dC, dI)) (ci := 10) (v := .ref q9) (C := RX10) (T := TX10) (N := 12) hx hb hG inGX10 hown hK hP 0 rfl rfl 4 (by decide) (hG _ wd_287) (fun _ h9 => h9) rfl dX10_init_62 ?_
  refine lv_iload_n hx hb dX10_init_65 rfl (lv_at hl 0 rfl) ?_
  refine lv_iload_n hx hb dX10_init_66 rfl (lv_at hl 0 rfl) ?_
  have hPc := hP.sub (ws' := []) [] rfl
  have hDc := hD.sub (ws' := []) [] (by decide) rfl
  have hKc := hK.sub (tys' := []) [] rfl
  have hFc := va_free (wc := []) hD hS hA [] rfl
  refine va_calll (va_runS (As := [.int 19]) (rest := [.int 19, .ref q9]) ⟨hx, hb, hml, hown, hG⟩ (cX10_nameKey_1 l dC dI adK adV H.size 19 (iv_w (by decide : iv 19 19 19) (by decide) (by decide))) (va_cwS 1 hG (gS wd_228 wd_229 wd_11 wd_230) rfl rfl rfl (by decide +kernel) ⟨Nat.le_of_ble_eq_true rfl, Nat.le_of_ble_eq_true rfl⟩) ⟨fun a U g mk q => by obtain ⟨q0, q1, qP, qK, qD, qE⟩ := q; exact ⟨q0, q1, qP, va_K.moved (u := U) (U := U.calling g mk a) (Vm.Alike.refl U.vm) qK, qD, qE.same rfl⟩, fun U hU hW => ⟨rfl, by rw [hU], by rw [hU]; exact hPc, va_K.moved hW.alike hKc, hDc.weaken (fun _ _ _ _ => trivial), by rw [hU]; exact ((hE.kept hS.2.1).narrow hFc).warm hW⟩⟩ rfl rfl hl.1 rfl (lv_room (Nat.le_of_ble_eq_true rfl)) dX10_init_67 ⟨by decide, by decide⟩) hS (fun q _ h => hFc q h) hFc (fun r68 u69 t H1 locs ht hvm hw hB hz1 hk1 hS => ?_)
  obtain ⟨hP1, hK1, hD1⟩ := hB
  rw [ht] at hP1
  have hK1 := va_K.moved hvm.symm hK1
  obtain ⟨hP, hD⟩ := va_join (wr := [(h0, .inr (10, [.ref q1, .ref q3, .ref q5, .ref q7, .ref q9, .ref h1, .int 0, .int 0, .int 0, .int 0, .int 0, .long 0])), (q1, .inl (y2, 2501, .inl (fun _ => 0))), (q3, .inl (y4, 2501, .inl (fun _ => 0))), (q5, .inl (y6, 2501, .inl (fun _ => 0))), (q7, .inl (y8, 2501, .inr (.inl (fun _ => 0)))), (q9, .inl (y10, 35, .inr (.inl f67)))]) (w1 := []) hP hD [] [0, 1, 2, 3, 4, 5] rfl rfl (by decide) (by decide) hk1 hFc hP1 hD1
  have hK := (hK.sub (tys' := [(y2, .int), (y4, .int), (y6, .int), (y8, .long), (y10, .long)]) [0, 1, 2, 3, 4] rfl).app hK1
  generalize H1 = H at hP hS ⊢
  have hP : va_P (dC, dI) vwCl [(h0, .inr (10, [.ref q1, .ref q3, .ref q5, .ref q7, .ref q9, .ref h1, .int 0, .int 0, .int 0, .int 0, .int 0, .long 0])), (q1, .inl (y2, 2501, .inl (fun _ => 0))), (q3, .inl (y4, 2501, .inl (fun _ => 0))), (q5, .inl (y6, 2501, .inl (fun _ => 0))), (q7, .inl (y8, 2501, .inr (.inl (fun _ => 0)))), (q9, .inl (y10, 35, .inr (.inl f67)))] H := hP
  have hD : va_D A [(h0, .inr (10, [.ref q1, .ref q3, .ref q5, .ref q7, .ref q9, .ref h1, .int 0, .int 0, .int 0, .int 0, .int 0, .long 0])), (q1, .inl (y2, 2501, .inl (fun _ => 0))), (q3, .inl (y4, 2501, .inl (fun _ => 0))), (q5, .inl (y6, 2501, .inl (fun _ => 0))), (q7, .inl (y8, 2501, .inr (.inl (fun _ => 0)))), (q9, .inl (y10, 35, .inr (.inl f67)))] := hD
  have hK : va_K (dC, dI) vwCl [(y2, .int), (y4, .int), (y6, .int), (y8, .long), (y10, .long)] s := hK
  refine va_last hx hb hK hP hD hS 5 4 rfl rfl (iv_in (by decide : iv 19 19 19) (by decide) (by decide) : vp_in 19 35) dX10_init_70 (fun H locs hP hD hS => ?_)
  have hP : va_P (dC, dI) vwCl [(h0, .inr (10, [.ref q1, .ref q3, .ref q5, .ref q7, .ref q9, .ref h1, .int 0, .int 0, .int 0, .int 0, .int 0, .long 0])), (q1, .inl (y2, 2501, .inl (fun _ => 0))), (q3, .inl (y4, 2501, .inl (fun _ => 0))), (q5, .inl (y6, 2501, .inl (fun _ => 0))), (q7, .inl (y8, 2501, .inr (.inl (fun _ => 0)))), (q9, .inl (y10, 35, .inr (.inl (vp_updL f67 (19 : Int32).toNatClampNeg r68))))] H := hP
  have hD : va_D A [(h0, .inr (10, [.ref q1, .ref q3, .ref q5, .ref q7, .ref q9, .ref h1, .int 0, .int 0, .int 0, .int 0, .int 0, .long 0])), (q1, .inl (y2, 2501, .inl (fun _ => 0))), (q3, .inl (y4, 2501, .inl (fun _ => 0))), (q5, .inl (y6, 2501, .inl (fun _ => 0))), (q7, .inl (y8, 2501, .inr (.inl (fun _ => 0)))), (q9, .inl (y10, 35, .inr (.inl (vp_updL f67 (19 : Int32).toNatClampNeg r68))))] := hD
  obtain ⟨f70, ef70⟩ : ∃ z, z = vp_updL f67 (19 : Int32).toNatClampNeg r68 := ⟨_, rfl⟩
  rw [← ef70] at hP hD
  refine lv_iinc (v := 20) (lv' := [(2, .int 20), (0, .ref h0), (1, .ref h1)]) hx hb dX10_init_71 hl (k := 0) rfl (by decide) (by decide) rfl (fun ls hl => ?_)
  refine lv_goto (tgt := 55) hx hb dX10_init_74 (by decide) ?_
  refine lv_iload_n hx hb dX10_init_55 rfl (lv_at hl 0 rfl) ?_
  refine lv_bipush (v := 35) hx hb dX10_init_56 (by decide) ?_
  refine lv_icmp_ge (tgt := 77) hx hb dX10_init_58 (by decide) (fun c => absurd c (by decide)) (fun _ => ?_)
  refine lv_aload_n hx hb dX10_init_61 rfl (lv_at hl 1 rfl) ?_
  refine va_get (D := (dC, dI)) (ci := 10) (v := .ref q9) (C := RX10) (T := TX10) (N := 12) hx hb hG inGX10 hown hK hP 0 rfl rfl 4 (by decide) (hG _ wd_287) (fun _ h9 => h9) rfl dX10_init_62 ?_
  refine lv_iload_n hx hb dX10_init_65 rfl (lv_at hl 0 rfl) ?_
  refine lv_iload_n hx hb dX10_init_66 rfl (lv_at hl 0 rfl) ?_
  have hPc := hP.sub (ws' := []) [] rfl
  have hDc := hD.sub (ws' := []) [] (by decide) rfl
  have hKc := hK.sub (tys' := []) [] rfl
  have hFc := va_free (wc := []) hD hS hA [] rfl
  refine va_calll (va_runS (As := [.int 20]) (rest := [.int 20, .ref q9]) ⟨hx, hb, hml, hown, hG⟩ (cX10_nameKey_1 l dC dI adK adV H.size 20 (iv_w (by decide : iv 20 20 20) (by decide) (by decide))) (va_cwS 1 hG (gS wd_228 wd_229 wd_11 wd_230) rfl rfl rfl (by decide +kernel) ⟨Nat.le_of_ble_eq_true rfl, Nat.le_of_ble_eq_true rfl⟩) ⟨fun a U g mk q => by obtain ⟨q0, q1, qP, qK, qD, qE⟩ := q; exact ⟨q0, q1, qP, va_K.moved (u := U) (U := U.calling g mk a) (Vm.Alike.refl U.vm) qK, qD, qE.same rfl⟩, fun U hU hW => ⟨rfl, by rw [hU], by rw [hU]; exact hPc, va_K.moved hW.alike hKc, hDc.weaken (fun _ _ _ _ => trivial), by rw [hU]; exact ((hE.kept hS.2.1).narrow hFc).warm hW⟩⟩ rfl rfl hl.1 rfl (lv_room (Nat.le_of_ble_eq_true rfl)) dX10_init_67 ⟨by decide, by decide⟩) hS (fun q _ h => hFc q h) hFc (fun r71 u72 t H1 locs ht hvm hw hB hz1 hk1 hS => ?_)
  obtain ⟨hP1, hK1, hD1⟩ := hB
  rw [ht] at hP1
  have hK1 := va_K.moved hvm.symm hK1
  obtain ⟨hP, hD⟩ := va_join (wr := [(h0, .inr (10, [.ref q1, .ref q3, .ref q5, .ref q7, .ref q9, .ref h1, .int 0, .int 0, .int 0, .int 0, .int 0, .long 0])), (q1, .inl (y2, 2501, .inl (fun _ => 0))), (q3, .inl (y4, 2501, .inl (fun _ => 0))), (q5, .inl (y6, 2501, .inl (fun _ => 0))), (q7, .inl (y8, 2501, .inr (.inl (fun _ => 0)))), (q9, .inl (y10, 35, .inr (.inl f70)))]) (w1 := []) hP hD [] [0, 1, 2, 3, 4, 5] rfl rfl (by decide) (by decide) hk1 hFc hP1 hD1
  have hK := (hK.sub (tys' := [(y2, .int), (y4, .int), (y6, .int), (y8, .long), (y10, .long)]) [0, 1, 2, 3, 4] rfl).app hK1
  generalize H1 = H at hP hS ⊢
  have hP : va_P (dC, dI) vwCl [(h0, .inr (10, [.ref q1, .ref q3, .ref q5, .ref q7, .ref q9, .ref h1, .int 0, .int 0, .int 0, .int 0, .int 0, .long 0])), (q1, .inl (y2, 2501, .inl (fun _ => 0))), (q3, .inl (y4, 2501, .inl (fun _ => 0))), (q5, .inl (y6, 2501, .inl (fun _ => 0))), (q7, .inl (y8, 2501, .inr (.inl (fun _ => 0)))), (q9, .inl (y10, 35, .inr (.inl f70)))] H := hP
  have hD : va_D A [(h0, .inr (10, [.ref q1, .ref q3, .ref q5, .ref q7, .ref q9, .ref h1, .int 0, .int 0, .int 0, .int 0, .int 0, .long 0])), (q1, .inl (y2, 2501, .inl (fun _ => 0))), (q3, .inl (y4, 2501, .inl (fun _ => 0))), (q5, .inl (y6, 2501, .inl (fun _ => 0))), (q7, .inl (y8, 2501, .inr (.inl (fun _ => 0)))), (q9, .inl (y10, 35, .inr (.inl f70)))] := hD
  have hK : va_K (dC, dI) vwCl [(y2, .int), (y4, .int), (y6, .int), (y8, .long), (y10, .long)] s := hK
  refine va_last hx hb hK hP hD hS 5 4 rfl rfl (iv_in (by decide : iv 20 20 20) (by decide) (by decide) : vp_in 20 35) dX10_init_70 (fun H locs hP hD hS => ?_)
  have hP : va_P (dC, dI) vwCl [(h0, .inr (10, [.ref q1, .ref q3, .ref q5, .ref q7, .ref q9, .ref h1, .int 0, .int 0, .int 0, .int 0, .int 0, .long 0])), (q1, .inl (y2, 2501, .inl (fun _ => 0))), (q3, .inl (y4, 2501, .inl (fun _ => 0))), (q5, .inl (y6, 2501, .inl (fun _ => 0))), (q7, .inl (y8, 2501, .inr (.inl (fun _ => 0)))), (q9, .inl (y10, 35, .inr (.inl (vp_updL f70 (20 : Int32).toNatClampNeg r71))))] H := hP
  have hD : va_D A [(h0, .inr (10, [.ref q1, .ref q3, .ref q5, .ref q7, .ref q9, .ref h1, .int 0, .int 0, .int 0, .int 0, .int 0, .long 0])), (q1, .inl (y2, 2501, .inl (fun _ => 0))), (q3, .inl (y4, 2501, .inl (fun _ => 0))), (q5, .inl (y6, 2501, .inl (fun _ => 0))), (q7, .inl (y8, 2501, .inr (.inl (fun _ => 0)))), (q9, .inl (y10, 35, .inr (.inl (vp_updL f70 (20 : Int32).toNatClampNeg r71))))] := hD
  obtain ⟨f73, ef73⟩ : ∃ z, z = vp_updL f70 (20 : Int32).toNatClampNeg r71 := ⟨_, rfl⟩
  rw [← ef73] at hP hD
  refine lv_iinc (v := 21) (lv' := [(2, .int 21), (0, .ref h0), (1, .ref h1)]) hx hb dX10_init_71 hl (k := 0) rfl (by decide) (by decide) rfl (fun ls hl => ?_)
  refine lv_goto (tgt := 55) hx hb dX10_init_74 (by decide) ?_
  refine lv_iload_n hx hb dX10_init_55 rfl (lv_at hl 0 rfl) ?_
  refine lv_bipush (v := 35) hx hb dX10_init_56 (by decide) ?_
  refine lv_icmp_ge (tgt := 77) hx hb dX10_init_58 (by decide) (fun c => absurd c (by decide)) (fun _ => ?_)
  refine lv_aload_n hx hb dX10_init_61 rfl (lv_at hl 1 rfl) ?_
  refine va_get (D := (dC, dI)) (ci := 10) (v := .ref q9) (C := RX10) (T := TX10) (N := 12) hx hb hG inGX10 hown hK hP 0 rfl rfl 4 (by decide) (hG _ wd_287) (fun _ h9 => h9) rfl dX10_init_62 ?_
  refine lv_iload_n hx hb dX10_init_65 rfl (lv_at hl 0 rfl) ?_
  refine lv_iload_n hx hb dX10_init_66 rfl (lv_at hl 0 rfl) ?_
  have hPc := hP.sub (ws' := []) [] rfl
  have hDc := hD.sub (ws' := []) [] (by decide) rfl
  have hKc := hK.sub (tys' := []) [] rfl
  have hFc := va_free (wc := []) hD hS hA [] rfl
  refine va_calll (va_runS (As := [.int 21]) (rest := [.int 21, .ref q9]) ⟨hx, hb, hml, hown, hG⟩ (cX10_nameKey_1 l dC dI adK adV H.size 21 (iv_w (by decide : iv 21 21 21) (by decide) (by decide))) (va_cwS 1 hG (gS wd_228 wd_229 wd_11 wd_230) rfl rfl rfl (by decide +kernel) ⟨Nat.le_of_ble_eq_true rfl, Nat.le_of_ble_eq_true rfl⟩) ⟨fun a U g mk q => by obtain ⟨q0, q1, qP, qK, qD, qE⟩ := q; exact ⟨q0, q1, qP, va_K.moved (u := U) (U := U.calling g mk a) (Vm.Alike.refl U.vm) qK, qD, qE.same rfl⟩, fun U hU hW => ⟨rfl, by rw [hU], by rw [hU]; exact hPc, va_K.moved hW.alike hKc, hDc.weaken (fun _ _ _ _ => trivial), by rw [hU]; exact ((hE.kept hS.2.1).narrow hFc).warm hW⟩⟩ rfl rfl hl.1 rfl (lv_room (Nat.le_of_ble_eq_true rfl)) dX10_init_67 ⟨by decide, by decide⟩) hS (fun q _ h => hFc q h) hFc (fun r74 u75 t H1 locs ht hvm hw hB hz1 hk1 hS => ?_)
  obtain ⟨hP1, hK1, hD1⟩ := hB
  rw [ht] at hP1
  have hK1 := va_K.moved hvm.symm hK1
  obtain ⟨hP, hD⟩ := va_join (wr := [(h0, .inr (10, [.ref q1, .ref q3, .ref q5, .ref q7, .ref q9, .ref h1, .int 0, .int 0, .int 0, .int 0, .int 0, .long 0])), (q1, .inl (y2, 2501, .inl (fun _ => 0))), (q3, .inl (y4, 2501, .inl (fun _ => 0))), (q5, .inl (y6, 2501, .inl (fun _ => 0))), (q7, .inl (y8, 2501, .inr (.inl (fun _ => 0)))), (q9, .inl (y10, 35, .inr (.inl f73)))]) (w1 := []) hP hD [] [0, 1, 2, 3, 4, 5] rfl rfl (by decide) (by decide) hk1 hFc hP1 hD1
  have hK := (hK.sub (tys' := [(y2, .int), (y4, .int), (y6, .int), (y8, .long), (y10, .long)]) [0, 1, 2, 3, 4] rfl).app hK1
  generalize H1 = H at hP hS ⊢
  have hP : va_P (dC, dI) vwCl [(h0, .inr (10, [.ref q1, .ref q3, .ref q5, .ref q7, .ref q9, .ref h1, .int 0, .int 0, .int 0, .int 0, .int 0, .long 0])), (q1, .inl (y2, 2501, .inl (fun _ => 0))), (q3, .inl (y4, 2501, .inl (fun _ => 0))), (q5, .inl (y6, 2501, .inl (fun _ => 0))), (q7, .inl (y8, 2501, .inr (.inl (fun _ => 0)))), (q9, .inl (y10, 35, .inr (.inl f73)))] H := hP
  have hD : va_D A [(h0, .inr (10, [.ref q1, .ref q3, .ref q5, .ref q7, .ref q9, .ref h1, .int 0, .int 0, .int 0, .int 0, .int 0, .long 0])), (q1, .inl (y2, 2501, .inl (fun _ => 0))), (q3, .inl (y4, 2501, .inl (fun _ => 0))), (q5, .inl (y6, 2501, .inl (fun _ => 0))), (q7, .inl (y8, 2501, .inr (.inl (fun _ => 0)))), (q9, .inl (y10, 35, .inr (.inl f73)))] := hD
  have hK : va_K (dC, dI) vwCl [(y2, .int), (y4, .int), (y6, .int), (y8, .long), (y10, .long)] s := hK
  refine va_last hx hb hK hP hD hS 5 4 rfl rfl (iv_in (by decide : iv 21 21 21) (by decide) (by decide) : vp_in 21 35) dX10_init_70 (fun H locs hP hD hS => ?_)
  have hP : va_P (dC, dI) vwCl [(h0, .inr (10, [.ref q1, .ref q3, .ref q5, .ref q7, .ref q9, .ref h1, .int 0, .int 0, .int 0, .int 0, .int 0, .long 0])), (q1, .inl (y2, 2501, .inl (fun _ => 0))), (q3, .inl (y4, 2501, .inl (fun _ => 0))), (q5, .inl (y6, 2501, .inl (fun _ => 0))), (q7, .inl (y8, 2501, .inr (.inl (fun _ => 0)))), (q9, .inl (y10, 35, .inr (.inl (vp_updL f73 (21 : Int32).toNatClampNeg r74))))] H := hP
  have hD : va_D A [(h0, .inr (10, [.ref q1, .ref q3, .ref q5, .ref q7, .ref q9, .ref h1, .int 0, .int 0, .int 0, .int 0, .int 0, .long 0])), (q1, .inl (y2, 2501, .inl (fun _ => 0))), (q3, .inl (y4, 2501, .inl (fun _ => 0))), (q5, .inl (y6, 2501, .inl (fun _ => 0))), (q7, .inl (y8, 2501, .inr (.inl (fun _ => 0)))), (q9, .inl (y10, 35, .inr (.inl (vp_updL f73 (21 : Int32).toNatClampNeg r74))))] := hD
  obtain ⟨f76, ef76⟩ : ∃ z, z = vp_updL f73 (21 : Int32).toNatClampNeg r74 := ⟨_, rfl⟩
  rw [← ef76] at hP hD
  refine lv_iinc (v := 22) (lv' := [(2, .int 22), (0, .ref h0), (1, .ref h1)]) hx hb dX10_init_71 hl (k := 0) rfl (by decide) (by decide) rfl (fun ls hl => ?_)
  refine lv_goto (tgt := 55) hx hb dX10_init_74 (by decide) ?_
  refine lv_iload_n hx hb dX10_init_55 rfl (lv_at hl 0 rfl) ?_
  refine lv_bipush (v := 35) hx hb dX10_init_56 (by decide) ?_
  refine lv_icmp_ge (tgt := 77) hx hb dX10_init_58 (by decide) (fun c => absurd c (by decide)) (fun _ => ?_)
  refine lv_aload_n hx hb dX10_init_61 rfl (lv_at hl 1 rfl) ?_
  refine va_get (D := (dC, dI)) (ci := 10) (v := .ref q9) (C := RX10) (T := TX10) (N := 12) hx hb hG inGX10 hown hK hP 0 rfl rfl 4 (by decide) (hG _ wd_287) (fun _ h9 => h9) rfl dX10_init_62 ?_
  refine lv_iload_n hx hb dX10_init_65 rfl (lv_at hl 0 rfl) ?_
  refine lv_iload_n hx hb dX10_init_66 rfl (lv_at hl 0 rfl) ?_
  have hPc := hP.sub (ws' := []) [] rfl
  have hDc := hD.sub (ws' := []) [] (by decide) rfl
  have hKc := hK.sub (tys' := []) [] rfl
  have hFc := va_free (wc := []) hD hS hA [] rfl
  refine va_calll (va_runS (As := [.int 22]) (rest := [.int 22, .ref q9]) ⟨hx, hb, hml, hown, hG⟩ (cX10_nameKey_1 l dC dI adK adV H.size 22 (iv_w (by decide : iv 22 22 22) (by decide) (by decide))) (va_cwS 1 hG (gS wd_228 wd_229 wd_11 wd_230) rfl rfl rfl (by decide +kernel) ⟨Nat.le_of_ble_eq_true rfl, Nat.le_of_ble_eq_true rfl⟩) ⟨fun a U g mk q => by obtain ⟨q0, q1, qP, qK, qD, qE⟩ := q; exact ⟨q0, q1, qP, va_K.moved (u := U) (U := U.calling g mk a) (Vm.Alike.refl U.vm) qK, qD, qE.same rfl⟩, fun U hU hW => ⟨rfl, by rw [hU], by rw [hU]; exact hPc, va_K.moved hW.alike hKc, hDc.weaken (fun _ _ _ _ => trivial), by rw [hU]; exact ((hE.kept hS.2.1).narrow hFc).warm hW⟩⟩ rfl rfl hl.1 rfl (lv_room (Nat.le_of_ble_eq_true rfl)) dX10_init_67 ⟨by decide, by decide⟩) hS (fun q _ h => hFc q h) hFc (fun r77 u78 t H1 locs ht hvm hw hB hz1 hk1 hS => ?_)
  obtain ⟨hP1, hK1, hD1⟩ := hB
  rw [ht] at hP1
  have hK1 := va_K.moved hvm.symm hK1
  obtain ⟨hP, hD⟩ := va_join (wr := [(h0, .inr (10, [.ref q1, .ref q3, .ref q5, .ref q7, .ref q9, .ref h1, .int 0, .int 0, .int 0, .int 0, .int 0, .long 0])), (q1, .inl (y2, 2501, .inl (fun _ => 0))), (q3, .inl (y4, 2501, .inl (fun _ => 0))), (q5, .inl (y6, 2501, .inl (fun _ => 0))), (q7, .inl (y8, 2501, .inr (.inl (fun _ => 0)))), (q9, .inl (y10, 35, .inr (.inl f76)))]) (w1 := []) hP hD [] [0, 1, 2, 3, 4, 5] rfl rfl (by decide) (by decide) hk1 hFc hP1 hD1
  have hK := (hK.sub (tys' := [(y2, .int), (y4, .int), (y6, .int), (y8, .long), (y10, .long)]) [0, 1, 2, 3, 4] rfl).app hK1
  generalize H1 = H at hP hS ⊢
  have hP : va_P (dC, dI) vwCl [(h0, .inr (10, [.ref q1, .ref q3, .ref q5, .ref q7, .ref q9, .ref h1, .int 0, .int 0, .int 0, .int 0, .int 0, .long 0])), (q1, .inl (y2, 2501, .inl (fun _ => 0))), (q3, .inl (y4, 2501, .inl (fun _ => 0))), (q5, .inl (y6, 2501, .inl (fun _ => 0))), (q7, .inl (y8, 2501, .inr (.inl (fun _ => 0)))), (q9, .inl (y10, 35, .inr (.inl f76)))] H := hP
  have hD : va_D A [(h0, .inr (10, [.ref q1, .ref q3, .ref q5, .ref q7, .ref q9, .ref h1, .int 0, .int 0, .int 0, .int 0, .int 0, .long 0])), (q1, .inl (y2, 2501, .inl (fun _ => 0))), (q3, .inl (y4, 2501, .inl (fun _ => 0))), (q5, .inl (y6, 2501, .inl (fun _ => 0))), (q7, .inl (y8, 2501, .inr (.inl (fun _ => 0)))), (q9, .inl (y10, 35, .inr (.inl f76)))] := hD
  have hK : va_K (dC, dI) vwCl [(y2, .int), (y4, .int), (y6, .int), (y8, .long), (y10, .long)] s := hK
  refine va_last hx hb hK hP hD hS 5 4 rfl rfl (iv_in (by decide : iv 22 22 22) (by decide) (by decide) : vp_in 22 35) dX10_init_70 (fun H locs hP hD hS => ?_)
  have hP : va_P (dC, dI) vwCl [(h0, .inr (10, [.ref q1, .ref q3, .ref q5, .ref q7, .ref q9, .ref h1, .int 0, .int 0, .int 0, .int 0, .int 0, .long 0])), (q1, .inl (y2, 2501, .inl (fun _ => 0))), (q3, .inl (y4, 2501, .inl (fun _ => 0))), (q5, .inl (y6, 2501, .inl (fun _ => 0))), (q7, .inl (y8, 2501, .inr (.inl (fun _ => 0)))), (q9, .inl (y10, 35, .inr (.inl (vp_updL f76 (22 : Int32).toNatClampNeg r77))))] H := hP
  have hD : va_D A [(h0, .inr (10, [.ref q1, .ref q3, .ref q5, .ref q7, .ref q9, .ref h1, .int 0, .int 0, .int 0, .int 0, .int 0, .long 0])), (q1, .inl (y2, 2501, .inl (fun _ => 0))), (q3, .inl (y4, 2501, .inl (fun _ => 0))), (q5, .inl (y6, 2501, .inl (fun _ => 0))), (q7, .inl (y8, 2501, .inr (.inl (fun _ => 0)))), (q9, .inl (y10, 35, .inr (.inl (vp_updL f76 (22 : Int32).toNatClampNeg r77))))] := hD
  obtain ⟨f79, ef79⟩ : ∃ z, z = vp_updL f76 (22 : Int32).toNatClampNeg r77 := ⟨_, rfl⟩
  rw [← ef79] at hP hD
  refine lv_iinc (v := 23) (lv' := [(2, .int 23), (0, .ref h0), (1, .ref h1)]) hx hb dX10_init_71 hl (k := 0) rfl (by decide) (by decide) rfl (fun ls hl => ?_)
  refine lv_goto (tgt := 55) hx hb dX10_init_74 (by decide) ?_
  refine lv_iload_n hx hb dX10_init_55 rfl (lv_at hl 0 rfl) ?_
  refine lv_bipush (v := 35) hx hb dX10_init_56 (by decide) ?_
  refine lv_icmp_ge (tgt := 77) hx hb dX10_init_58 (by decide) (fun c => absurd c (by decide)) (fun _ => ?_)
  refine lv_aload_n hx hb dX10_init_61 rfl (lv_at hl 1 rfl) ?_
  refine va_get (D := (dC, dI)) (ci := 10) (v := .ref q9) (C := RX10) (T := TX10) (N := 12) hx hb hG inGX10 hown hK hP 0 rfl rfl 4 (by decide) (hG _ wd_287) (fun _ h9 => h9) rfl dX10_init_62 ?_
  refine lv_iload_n hx hb dX10_init_65 rfl (lv_at hl 0 rfl) ?_
  refine lv_iload_n hx hb dX10_init_66 rfl (lv_at hl 0 rfl) ?_
  have hPc := hP.sub (ws' := []) [] rfl
  have hDc := hD.sub (ws' := []) [] (by decide) rfl
  have hKc := hK.sub (tys' := []) [] rfl
  have hFc := va_free (wc := []) hD hS hA [] rfl
  refine va_calll (va_runS (As := [.int 23]) (rest := [.int 23, .ref q9]) ⟨hx, hb, hml, hown, hG⟩ (cX10_nameKey_1 l dC dI adK adV H.size 23 (iv_w (by decide : iv 23 23 23) (by decide) (by decide))) (va_cwS 1 hG (gS wd_228 wd_229 wd_11 wd_230) rfl rfl rfl (by decide +kernel) ⟨Nat.le_of_ble_eq_true rfl, Nat.le_of_ble_eq_true rfl⟩) ⟨fun a U g mk q => by obtain ⟨q0, q1, qP, qK, qD, qE⟩ := q; exact ⟨q0, q1, qP, va_K.moved (u := U) (U := U.calling g mk a) (Vm.Alike.refl U.vm) qK, qD, qE.same rfl⟩, fun U hU hW => ⟨rfl, by rw [hU], by rw [hU]; exact hPc, va_K.moved hW.alike hKc, hDc.weaken (fun _ _ _ _ => trivial), by rw [hU]; exact ((hE.kept hS.2.1).narrow hFc).warm hW⟩⟩ rfl rfl hl.1 rfl (lv_room (Nat.le_of_ble_eq_true rfl)) dX10_init_67 ⟨by decide, by decide⟩) hS (fun q _ h => hFc q h) hFc (fun r80 u81 t H1 locs ht hvm hw hB hz1 hk1 hS => ?_)
  obtain ⟨hP1, hK1, hD1⟩ := hB
  rw [ht] at hP1
  have hK1 := va_K.moved hvm.symm hK1
  obtain ⟨hP, hD⟩ := va_join (wr := [(h0, .inr (10, [.ref q1, .ref q3, .ref q5, .ref q7, .ref q9, .ref h1, .int 0, .int 0, .int 0, .int 0, .int 0, .long 0])), (q1, .inl (y2, 2501, .inl (fun _ => 0))), (q3, .inl (y4, 2501, .inl (fun _ => 0))), (q5, .inl (y6, 2501, .inl (fun _ => 0))), (q7, .inl (y8, 2501, .inr (.inl (fun _ => 0)))), (q9, .inl (y10, 35, .inr (.inl f79)))]) (w1 := []) hP hD [] [0, 1, 2, 3, 4, 5] rfl rfl (by decide) (by decide) hk1 hFc hP1 hD1
  have hK := (hK.sub (tys' := [(y2, .int), (y4, .int), (y6, .int), (y8, .long), (y10, .long)]) [0, 1, 2, 3, 4] rfl).app hK1
  generalize H1 = H at hP hS ⊢
  have hP : va_P (dC, dI) vwCl [(h0, .inr (10, [.ref q1, .ref q3, .ref q5, .ref q7, .ref q9, .ref h1, .int 0, .int 0, .int 0, .int 0, .int 0, .long 0])), (q1, .inl (y2, 2501, .inl (fun _ => 0))), (q3, .inl (y4, 2501, .inl (fun _ => 0))), (q5, .inl (y6, 2501, .inl (fun _ => 0))), (q7, .inl (y8, 2501, .inr (.inl (fun _ => 0)))), (q9, .inl (y10, 35, .inr (.inl f79)))] H := hP
  have hD : va_D A [(h0, .inr (10, [.ref q1, .ref q3, .ref q5, .ref q7, .ref q9, .ref h1, .int 0, .int 0, .int 0, .int 0, .int 0, .long 0])), (q1, .inl (y2, 2501, .inl (fun _ => 0))), (q3, .inl (y4, 2501, .inl (fun _ => 0))), (q5, .inl (y6, 2501, .inl (fun _ => 0))), (q7, .inl (y8, 2501, .inr (.inl (fun _ => 0)))), (q9, .inl (y10, 35, .inr (.inl f79)))] := hD
  have hK : va_K (dC, dI) vwCl [(y2, .int), (y4, .int), (y6, .int), (y8, .long), (y10, .long)] s := hK
  refine va_last hx hb hK hP hD hS 5 4 rfl rfl (iv_in (by decide : iv 23 23 23) (by decide) (by decide) : vp_in 23 35) dX10_init_70 (fun H locs hP hD hS => ?_)
  have hP : va_P (dC, dI) vwCl [(h0, .inr (10, [.ref q1, .ref q3, .ref q5, .ref q7, .ref q9, .ref h1, .int 0, .int 0, .int 0, .int 0, .int 0, .long 0])), (q1, .inl (y2, 2501, .inl (fun _ => 0))), (q3, .inl (y4, 2501, .inl (fun _ => 0))), (q5, .inl (y6, 2501, .inl (fun _ => 0))), (q7, .inl (y8, 2501, .inr (.inl (fun _ => 0)))), (q9, .inl (y10, 35, .inr (.inl (vp_updL f79 (23 : Int32).toNatClampNeg r80))))] H := hP
  have hD : va_D A [(h0, .inr (10, [.ref q1, .ref q3, .ref q5, .ref q7, .ref q9, .ref h1, .int 0, .int 0, .int 0, .int 0, .int 0, .long 0])), (q1, .inl (y2, 2501, .inl (fun _ => 0))), (q3, .inl (y4, 2501, .inl (fun _ => 0))), (q5, .inl (y6, 2501, .inl (fun _ => 0))), (q7, .inl (y8, 2501, .inr (.inl (fun _ => 0)))), (q9, .inl (y10, 35, .inr (.inl (vp_updL f79 (23 : Int32).toNatClampNeg r80))))] := hD
  obtain ⟨f82, ef82⟩ : ∃ z, z = vp_updL f79 (23 : Int32).toNatClampNeg r80 := ⟨_, rfl⟩
  rw [← ef82] at hP hD
  refine lv_iinc (v := 24) (lv' := [(2, .int 24), (0, .ref h0), (1, .ref h1)]) hx hb dX10_init_71 hl (k := 0) rfl (by decide) (by decide) rfl (fun ls hl => ?_)
  refine lv_goto (tgt := 55) hx hb dX10_init_74 (by decide) ?_
  refine lv_iload_n hx hb dX10_init_55 rfl (lv_at hl 0 rfl) ?_
  refine lv_bipush (v := 35) hx hb dX10_init_56 (by decide) ?_
  refine lv_icmp_ge (tgt := 77) hx hb dX10_init_58 (by decide) (fun c => absurd c (by decide)) (fun _ => ?_)
  refine lv_aload_n hx hb dX10_init_61 rfl (lv_at hl 1 rfl) ?_
  refine va_get (D := (dC, dI)) (ci := 10) (v := .ref q9) (C := RX10) (T := TX10) (N := 12) hx hb hG inGX10 hown hK hP 0 rfl rfl 4 (by decide) (hG _ wd_287) (fun _ h9 => h9) rfl dX10_init_62 ?_
  refine lv_iload_n hx hb dX10_init_65 rfl (lv_at hl 0 rfl) ?_
  refine lv_iload_n hx hb dX10_init_66 rfl (lv_at hl 0 rfl) ?_
  have hPc := hP.sub (ws' := []) [] rfl
  have hDc := hD.sub (ws' := []) [] (by decide) rfl
  have hKc := hK.sub (tys' := []) [] rfl
  have hFc := va_free (wc := []) hD hS hA [] rfl
  refine va_calll (va_runS (As := [.int 24]) (rest := [.int 24, .ref q9]) ⟨hx, hb, hml, hown, hG⟩ (cX10_nameKey_1 l dC dI adK adV H.size 24 (iv_w (by decide : iv 24 24 24) (by decide) (by decide))) (va_cwS 1 hG (gS wd_228 wd_229 wd_11 wd_230) rfl rfl rfl (by decide +kernel) ⟨Nat.le_of_ble_eq_true rfl, Nat.le_of_ble_eq_true rfl⟩) ⟨fun a U g mk q => by obtain ⟨q0, q1, qP, qK, qD, qE⟩ := q; exact ⟨q0, q1, qP, va_K.moved (u := U) (U := U.calling g mk a) (Vm.Alike.refl U.vm) qK, qD, qE.same rfl⟩, fun U hU hW => ⟨rfl, by rw [hU], by rw [hU]; exact hPc, va_K.moved hW.alike hKc, hDc.weaken (fun _ _ _ _ => trivial), by rw [hU]; exact ((hE.kept hS.2.1).narrow hFc).warm hW⟩⟩ rfl rfl hl.1 rfl (lv_room (Nat.le_of_ble_eq_true rfl)) dX10_init_67 ⟨by decide, by decide⟩) hS (fun q _ h => hFc q h) hFc (fun r83 u84 t H1 locs ht hvm hw hB hz1 hk1 hS => ?_)
  obtain ⟨hP1, hK1, hD1⟩ := hB
  rw [ht] at hP1
  have hK1 := va_K.moved hvm.symm hK1
  obtain ⟨hP, hD⟩ := va_join (wr := [(h0, .inr (10, [.ref q1, .ref q3, .ref q5, .ref q7, .ref q9, .ref h1, .int 0, .int 0, .int 0, .int 0, .int 0, .long 0])), (q1, .inl (y2, 2501, .inl (fun _ => 0))), (q3, .inl (y4, 2501, .inl (fun _ => 0))), (q5, .inl (y6, 2501, .inl (fun _ => 0))), (q7, .inl (y8, 2501, .inr (.inl (fun _ => 0)))), (q9, .inl (y10, 35, .inr (.inl f82)))]) (w1 := []) hP hD [] [0, 1, 2, 3, 4, 5] rfl rfl (by decide) (by decide) hk1 hFc hP1 hD1
  have hK := (hK.sub (tys' := [(y2, .int), (y4, .int), (y6, .int), (y8, .long), (y10, .long)]) [0, 1, 2, 3, 4] rfl).app hK1
  generalize H1 = H at hP hS ⊢
  have hP : va_P (dC, dI) vwCl [(h0, .inr (10, [.ref q1, .ref q3, .ref q5, .ref q7, .ref q9, .ref h1, .int 0, .int 0, .int 0, .int 0, .int 0, .long 0])), (q1, .inl (y2, 2501, .inl (fun _ => 0))), (q3, .inl (y4, 2501, .inl (fun _ => 0))), (q5, .inl (y6, 2501, .inl (fun _ => 0))), (q7, .inl (y8, 2501, .inr (.inl (fun _ => 0)))), (q9, .inl (y10, 35, .inr (.inl f82)))] H := hP
  have hD : va_D A [(h0, .inr (10, [.ref q1, .ref q3, .ref q5, .ref q7, .ref q9, .ref h1, .int 0, .int 0, .int 0, .int 0, .int 0, .long 0])), (q1, .inl (y2, 2501, .inl (fun _ => 0))), (q3, .inl (y4, 2501, .inl (fun _ => 0))), (q5, .inl (y6, 2501, .inl (fun _ => 0))), (q7, .inl (y8, 2501, .inr (.inl (fun _ => 0)))), (q9, .inl (y10, 35, .inr (.inl f82)))] := hD
  have hK : va_K (dC, dI) vwCl [(y2, .int), (y4, .int), (y6, .int), (y8, .long), (y10, .long)] s := hK
  refine va_last hx hb hK hP hD hS 5 4 rfl rfl (iv_in (by decide : iv 24 24 24) (by decide) (by decide) : vp_in 24 35) dX10_init_70 (fun H locs hP hD hS => ?_)
  have hP : va_P (dC, dI) vwCl [(h0, .inr (10, [.ref q1, .ref q3, .ref q5, .ref q7, .ref q9, .ref h1, .int 0, .int 0, .int 0, .int 0, .int 0, .long 0])), (q1, .inl (y2, 2501, .inl (fun _ => 0))), (q3, .inl (y4, 2501, .inl (fun _ => 0))), (q5, .inl (y6, 2501, .inl (fun _ => 0))), (q7, .inl (y8, 2501, .inr (.inl (fun _ => 0)))), (q9, .inl (y10, 35, .inr (.inl (vp_updL f82 (24 : Int32).toNatClampNeg r83))))] H := hP
  have hD : va_D A [(h0, .inr (10, [.ref q1, .ref q3, .ref q5, .ref q7, .ref q9, .ref h1, .int 0, .int 0, .int 0, .int 0, .int 0, .long 0])), (q1, .inl (y2, 2501, .inl (fun _ => 0))), (q3, .inl (y4, 2501, .inl (fun _ => 0))), (q5, .inl (y6, 2501, .inl (fun _ => 0))), (q7, .inl (y8, 2501, .inr (.inl (fun _ => 0)))), (q9, .inl (y10, 35, .inr (.inl (vp_updL f82 (24 : Int32).toNatClampNeg r83))))] := hD
  obtain ⟨f85, ef85⟩ : ∃ z, z = vp_updL f82 (24 : Int32).toNatClampNeg r83 := ⟨_, rfl⟩
  rw [← ef85] at hP hD
  refine lv_iinc (v := 25) (lv' := [(2, .int 25), (0, .ref h0), (1, .ref h1)]) hx hb dX10_init_71 hl (k := 0) rfl (by decide) (by decide) rfl (fun ls hl => ?_)
  refine lv_goto (tgt := 55) hx hb dX10_init_74 (by decide) ?_
  refine lv_iload_n hx hb dX10_init_55 rfl (lv_at hl 0 rfl) ?_
  refine lv_bipush (v := 35) hx hb dX10_init_56 (by decide) ?_
  refine lv_icmp_ge (tgt := 77) hx hb dX10_init_58 (by decide) (fun c => absurd c (by decide)) (fun _ => ?_)
  refine lv_aload_n hx hb dX10_init_61 rfl (lv_at hl 1 rfl) ?_
  refine va_get (D := (dC, dI)) (ci := 10) (v := .ref q9) (C := RX10) (T := TX10) (N := 12) hx hb hG inGX10 hown hK hP 0 rfl rfl 4 (by decide) (hG _ wd_287) (fun _ h9 => h9) rfl dX10_init_62 ?_
  refine lv_iload_n hx hb dX10_init_65 rfl (lv_at hl 0 rfl) ?_
  refine lv_iload_n hx hb dX10_init_66 rfl (lv_at hl 0 rfl) ?_
  have hPc := hP.sub (ws' := []) [] rfl
  have hDc := hD.sub (ws' := []) [] (by decide) rfl
  have hKc := hK.sub (tys' := []) [] rfl
  have hFc := va_free (wc := []) hD hS hA [] rfl
  refine va_calll (va_runS (As := [.int 25]) (rest := [.int 25, .ref q9]) ⟨hx, hb, hml, hown, hG⟩ (cX10_nameKey_1 l dC dI adK adV H.size 25 (iv_w (by decide : iv 25 25 25) (by decide) (by decide))) (va_cwS 1 hG (gS wd_228 wd_229 wd_11 wd_230) rfl rfl rfl (by decide +kernel) ⟨Nat.le_of_ble_eq_true rfl, Nat.le_of_ble_eq_true rfl⟩) ⟨fun a U g mk q => by obtain ⟨q0, q1, qP, qK, qD, qE⟩ := q; exact ⟨q0, q1, qP, va_K.moved (u := U) (U := U.calling g mk a) (Vm.Alike.refl U.vm) qK, qD, qE.same rfl⟩, fun U hU hW => ⟨rfl, by rw [hU], by rw [hU]; exact hPc, va_K.moved hW.alike hKc, hDc.weaken (fun _ _ _ _ => trivial), by rw [hU]; exact ((hE.kept hS.2.1).narrow hFc).warm hW⟩⟩ rfl rfl hl.1 rfl (lv_room (Nat.le_of_ble_eq_true rfl)) dX10_init_67 ⟨by decide, by decide⟩) hS (fun q _ h => hFc q h) hFc (fun r86 u87 t H1 locs ht hvm hw hB hz1 hk1 hS => ?_)
  obtain ⟨hP1, hK1, hD1⟩ := hB
  rw [ht] at hP1
  have hK1 := va_K.moved hvm.symm hK1
  obtain ⟨hP, hD⟩ := va_join (wr := [(h0, .inr (10, [.ref q1, .ref q3, .ref q5, .ref q7, .ref q9, .ref h1, .int 0, .int 0, .int 0, .int 0, .int 0, .long 0])), (q1, .inl (y2, 2501, .inl (fun _ => 0))), (q3, .inl (y4, 2501, .inl (fun _ => 0))), (q5, .inl (y6, 2501, .inl (fun _ => 0))), (q7, .inl (y8, 2501, .inr (.inl (fun _ => 0)))), (q9, .inl (y10, 35, .inr (.inl f85)))]) (w1 := []) hP hD [] [0, 1, 2, 3, 4, 5] rfl rfl (by decide) (by decide) hk1 hFc hP1 hD1
  have hK := (hK.sub (tys' := [(y2, .int), (y4, .int), (y6, .int), (y8, .long), (y10, .long)]) [0, 1, 2, 3, 4] rfl).app hK1
  generalize H1 = H at hP hS ⊢
  have hP : va_P (dC, dI) vwCl [(h0, .inr (10, [.ref q1, .ref q3, .ref q5, .ref q7, .ref q9, .ref h1, .int 0, .int 0, .int 0, .int 0, .int 0, .long 0])), (q1, .inl (y2, 2501, .inl (fun _ => 0))), (q3, .inl (y4, 2501, .inl (fun _ => 0))), (q5, .inl (y6, 2501, .inl (fun _ => 0))), (q7, .inl (y8, 2501, .inr (.inl (fun _ => 0)))), (q9, .inl (y10, 35, .inr (.inl f85)))] H := hP
  have hD : va_D A [(h0, .inr (10, [.ref q1, .ref q3, .ref q5, .ref q7, .ref q9, .ref h1, .int 0, .int 0, .int 0, .int 0, .int 0, .long 0])), (q1, .inl (y2, 2501, .inl (fun _ => 0))), (q3, .inl (y4, 2501, .inl (fun _ => 0))), (q5, .inl (y6, 2501, .inl (fun _ => 0))), (q7, .inl (y8, 2501, .inr (.inl (fun _ => 0)))), (q9, .inl (y10, 35, .inr (.inl f85)))] := hD
  have hK : va_K (dC, dI) vwCl [(y2, .int), (y4, .int), (y6, .int), (y8, .long), (y10, .long)] s := hK
  refine va_last hx hb hK hP hD hS 5 4 rfl rfl (iv_in (by decide : iv 25 25 25) (by decide) (by decide) : vp_in 25 35) dX10_init_70 (fun H locs hP hD hS => ?_)
  have hP : va_P (dC, dI) vwCl [(h0, .inr (10, [.ref q1, .ref q3, .ref q5, .ref q7, .ref q9, .ref h1, .int 0, .int 0, .int 0, .int 0, .int 0, .long 0])), (q1, .inl (y2, 2501, .inl (fun _ => 0))), (q3, .inl (y4, 2501, .inl (fun _ => 0))), (q5, .inl (y6, 2501, .inl (fun _ => 0))), (q7, .inl (y8, 2501, .inr (.inl (fun _ => 0)))), (q9, .inl (y10, 35, .inr (.inl (vp_updL f85 (25 : Int32).toNatClampNeg r86))))] H := hP
  have hD : va_D A [(h0, .inr (10, [.ref q1, .ref q3, .ref q5, .ref q7, .ref q9, .ref h1, .int 0, .int 0, .int 0, .int 0, .int 0, .long 0])), (q1, .inl (y2, 2501, .inl (fun _ => 0))), (q3, .inl (y4, 2501, .inl (fun _ => 0))), (q5, .inl (y6, 2501, .inl (fun _ => 0))), (q7, .inl (y8, 2501, .inr (.inl (fun _ => 0)))), (q9, .inl (y10, 35, .inr (.inl (vp_updL f85 (25 : Int32).toNatClampNeg r86))))] := hD
  obtain ⟨f88, ef88⟩ : ∃ z, z = vp_updL f85 (25 : Int32).toNatClampNeg r86 := ⟨_, rfl⟩
  rw [← ef88] at hP hD
  refine lv_iinc (v := 26) (lv' := [(2, .int 26), (0, .ref h0), (1, .ref h1)]) hx hb dX10_init_71 hl (k := 0) rfl (by decide) (by decide) rfl (fun ls hl => ?_)
  refine lv_goto (tgt := 55) hx hb dX10_init_74 (by decide) ?_
  refine lv_iload_n hx hb dX10_init_55 rfl (lv_at hl 0 rfl) ?_
  refine lv_bipush (v := 35) hx hb dX10_init_56 (by decide) ?_
  refine lv_icmp_ge (tgt := 77) hx hb dX10_init_58 (by decide) (fun c => absurd c (by decide)) (fun _ => ?_)
  refine lv_aload_n hx hb dX10_init_61 rfl (lv_at hl 1 rfl) ?_
  refine va_get (D := (dC, dI)) (ci := 10) (v := .ref q9) (C := RX10) (T := TX10) (N := 12) hx hb hG inGX10 hown hK hP 0 rfl rfl 4 (by decide) (hG _ wd_287) (fun _ h9 => h9) rfl dX10_init_62 ?_
  refine lv_iload_n hx hb dX10_init_65 rfl (lv_at hl 0 rfl) ?_
  refine lv_iload_n hx hb dX10_init_66 rfl (lv_at hl 0 rfl) ?_
  have hPc := hP.sub (ws' := []) [] rfl
  have hDc := hD.sub (ws' := []) [] (by decide) rfl
  have hKc := hK.sub (tys' := []) [] rfl
  have hFc := va_free (wc := []) hD hS hA [] rfl
  refine va_calll (va_runS (As := [.int 26]) (rest := [.int 26, .ref q9]) ⟨hx, hb, hml, hown, hG⟩ (cX10_nameKey_1 l dC dI adK adV H.size 26 (iv_w (by decide : iv 26 26 26) (by decide) (by decide))) (va_cwS 1 hG (gS wd_228 wd_229 wd_11 wd_230) rfl rfl rfl (by decide +kernel) ⟨Nat.le_of_ble_eq_true rfl, Nat.le_of_ble_eq_true rfl⟩) ⟨fun a U g mk q => by obtain ⟨q0, q1, qP, qK, qD, qE⟩ := q; exact ⟨q0, q1, qP, va_K.moved (u := U) (U := U.calling g mk a) (Vm.Alike.refl U.vm) qK, qD, qE.same rfl⟩, fun U hU hW => ⟨rfl, by rw [hU], by rw [hU]; exact hPc, va_K.moved hW.alike hKc, hDc.weaken (fun _ _ _ _ => trivial), by rw [hU]; exact ((hE.kept hS.2.1).narrow hFc).warm hW⟩⟩ rfl rfl hl.1 rfl (lv_room (Nat.le_of_ble_eq_true rfl)) dX10_init_67 ⟨by decide, by decide⟩) hS (fun q _ h => hFc q h) hFc (fun r89 u90 t H1 locs ht hvm hw hB hz1 hk1 hS => ?_)
  obtain ⟨hP1, hK1, hD1⟩ := hB
  rw [ht] at hP1
  have hK1 := va_K.moved hvm.symm hK1
  obtain ⟨hP, hD⟩ := va_join (wr := [(h0, .inr (10, [.ref q1, .ref q3, .ref q5, .ref q7, .ref q9, .ref h1, .int 0, .int 0, .int 0, .int 0, .int 0, .long 0])), (q1, .inl (y2, 2501, .inl (fun _ => 0))), (q3, .inl (y4, 2501, .inl (fun _ => 0))), (q5, .inl (y6, 2501, .inl (fun _ => 0))), (q7, .inl (y8, 2501, .inr (.inl (fun _ => 0)))), (q9, .inl (y10, 35, .inr (.inl f88)))]) (w1 := []) hP hD [] [0, 1, 2, 3, 4, 5] rfl rfl (by decide) (by decide) hk1 hFc hP1 hD1
  have hK := (hK.sub (tys' := [(y2, .int), (y4, .int), (y6, .int), (y8, .long), (y10, .long)]) [0, 1, 2, 3, 4] rfl).app hK1
  generalize H1 = H at hP hS ⊢
  have hP : va_P (dC, dI) vwCl [(h0, .inr (10, [.ref q1, .ref q3, .ref q5, .ref q7, .ref q9, .ref h1, .int 0, .int 0, .int 0, .int 0, .int 0, .long 0])), (q1, .inl (y2, 2501, .inl (fun _ => 0))), (q3, .inl (y4, 2501, .inl (fun _ => 0))), (q5, .inl (y6, 2501, .inl (fun _ => 0))), (q7, .inl (y8, 2501, .inr (.inl (fun _ => 0)))), (q9, .inl (y10, 35, .inr (.inl f88)))] H := hP
  have hD : va_D A [(h0, .inr (10, [.ref q1, .ref q3, .ref q5, .ref q7, .ref q9, .ref h1, .int 0, .int 0, .int 0, .int 0, .int 0, .long 0])), (q1, .inl (y2, 2501, .inl (fun _ => 0))), (q3, .inl (y4, 2501, .inl (fun _ => 0))), (q5, .inl (y6, 2501, .inl (fun _ => 0))), (q7, .inl (y8, 2501, .inr (.inl (fun _ => 0)))), (q9, .inl (y10, 35, .inr (.inl f88)))] := hD
  have hK : va_K (dC, dI) vwCl [(y2, .int), (y4, .int), (y6, .int), (y8, .long), (y10, .long)] s := hK
  refine va_last hx hb hK hP hD hS 5 4 rfl rfl (iv_in (by decide : iv 26 26 26) (by decide) (by decide) : vp_in 26 35) dX10_init_70 (fun H locs hP hD hS => ?_)
  have hP : va_P (dC, dI) vwCl [(h0, .inr (10, [.ref q1, .ref q3, .ref q5, .ref q7, .ref q9, .ref h1, .int 0, .int 0, .int 0, .int 0, .int 0, .long 0])), (q1, .inl (y2, 2501, .inl (fun _ => 0))), (q3, .inl (y4, 2501, .inl (fun _ => 0))), (q5, .inl (y6, 2501, .inl (fun _ => 0))), (q7, .inl (y8, 2501, .inr (.inl (fun _ => 0)))), (q9, .inl (y10, 35, .inr (.inl (vp_updL f88 (26 : Int32).toNatClampNeg r89))))] H := hP
  have hD : va_D A [(h0, .inr (10, [.ref q1, .ref q3, .ref q5, .ref q7, .ref q9, .ref h1, .int 0, .int 0, .int 0, .int 0, .int 0, .long 0])), (q1, .inl (y2, 2501, .inl (fun _ => 0))), (q3, .inl (y4, 2501, .inl (fun _ => 0))), (q5, .inl (y6, 2501, .inl (fun _ => 0))), (q7, .inl (y8, 2501, .inr (.inl (fun _ => 0)))), (q9, .inl (y10, 35, .inr (.inl (vp_updL f88 (26 : Int32).toNatClampNeg r89))))] := hD
  obtain ⟨f91, ef91⟩ : ∃ z, z = vp_updL f88 (26 : Int32).toNatClampNeg r89 := ⟨_, rfl⟩
  rw [← ef91] at hP hD
  refine lv_iinc (v := 27) (lv' := [(2, .int 27), (0, .ref h0), (1, .ref h1)]) hx hb dX10_init_71 hl (k := 0) rfl (by decide) (by decide) rfl (fun ls hl => ?_)
  refine lv_goto (tgt := 55) hx hb dX10_init_74 (by decide) ?_
  refine lv_iload_n hx hb dX10_init_55 rfl (lv_at hl 0 rfl) ?_
  refine lv_bipush (v := 35) hx hb dX10_init_56 (by decide) ?_
  refine lv_icmp_ge (tgt := 77) hx hb dX10_init_58 (by decide) (fun c => absurd c (by decide)) (fun _ => ?_)
  refine lv_aload_n hx hb dX10_init_61 rfl (lv_at hl 1 rfl) ?_
  refine va_get (D := (dC, dI)) (ci := 10) (v := .ref q9) (C := RX10) (T := TX10) (N := 12) hx hb hG inGX10 hown hK hP 0 rfl rfl 4 (by decide) (hG _ wd_287) (fun _ h9 => h9) rfl dX10_init_62 ?_
  refine lv_iload_n hx hb dX10_init_65 rfl (lv_at hl 0 rfl) ?_
  refine lv_iload_n hx hb dX10_init_66 rfl (lv_at hl 0 rfl) ?_
  have hPc := hP.sub (ws' := []) [] rfl
  have hDc := hD.sub (ws' := []) [] (by decide) rfl
  have hKc := hK.sub (tys' := []) [] rfl
  have hFc := va_free (wc := []) hD hS hA [] rfl
  refine va_calll (va_runS (As := [.int 27]) (rest := [.int 27, .ref q9]) ⟨hx, hb, hml, hown, hG⟩ (cX10_nameKey_1 l dC dI adK adV H.size 27 (iv_w (by decide : iv 27 27 27) (by decide) (by decide))) (va_cwS 1 hG (gS wd_228 wd_229 wd_11 wd_230) rfl rfl rfl (by decide +kernel) ⟨Nat.le_of_ble_eq_true rfl, Nat.le_of_ble_eq_true rfl⟩) ⟨fun a U g mk q => by obtain ⟨q0, q1, qP, qK, qD, qE⟩ := q; exact ⟨q0, q1, qP, va_K.moved (u := U) (U := U.calling g mk a) (Vm.Alike.refl U.vm) qK, qD, qE.same rfl⟩, fun U hU hW => ⟨rfl, by rw [hU], by rw [hU]; exact hPc, va_K.moved hW.alike hKc, hDc.weaken (fun _ _ _ _ => trivial), by rw [hU]; exact ((hE.kept hS.2.1).narrow hFc).warm hW⟩⟩ rfl rfl hl.1 rfl (lv_room (Nat.le_of_ble_eq_true rfl)) dX10_init_67 ⟨by decide, by decide⟩) hS (fun q _ h => hFc q h) hFc (fun r92 u93 t H1 locs ht hvm hw hB hz1 hk1 hS => ?_)
  obtain ⟨hP1, hK1, hD1⟩ := hB
  rw [ht] at hP1
  have hK1 := va_K.moved hvm.symm hK1
  obtain ⟨hP, hD⟩ := va_join (wr := [(h0, .inr (10, [.ref q1, .ref q3, .ref q5, .ref q7, .ref q9, .ref h1, .int 0, .int 0, .int 0, .int 0, .int 0, .long 0])), (q1, .inl (y2, 2501, .inl (fun _ => 0))), (q3, .inl (y4, 2501, .inl (fun _ => 0))), (q5, .inl (y6, 2501, .inl (fun _ => 0))), (q7, .inl (y8, 2501, .inr (.inl (fun _ => 0)))), (q9, .inl (y10, 35, .inr (.inl f91)))]) (w1 := []) hP hD [] [0, 1, 2, 3, 4, 5] rfl rfl (by decide) (by decide) hk1 hFc hP1 hD1
  have hK := (hK.sub (tys' := [(y2, .int), (y4, .int), (y6, .int), (y8, .long), (y10, .long)]) [0, 1, 2, 3, 4] rfl).app hK1
  generalize H1 = H at hP hS ⊢
  have hP : va_P (dC, dI) vwCl [(h0, .inr (10, [.ref q1, .ref q3, .ref q5, .ref q7, .ref q9, .ref h1, .int 0, .int 0, .int 0, .int 0, .int 0, .long 0])), (q1, .inl (y2, 2501, .inl (fun _ => 0))), (q3, .inl (y4, 2501, .inl (fun _ => 0))), (q5, .inl (y6, 2501, .inl (fun _ => 0))), (q7, .inl (y8, 2501, .inr (.inl (fun _ => 0)))), (q9, .inl (y10, 35, .inr (.inl f91)))] H := hP
  have hD : va_D A [(h0, .inr (10, [.ref q1, .ref q3, .ref q5, .ref q7, .ref q9, .ref h1, .int 0, .int 0, .int 0, .int 0, .int 0, .long 0])), (q1, .inl (y2, 2501, .inl (fun _ => 0))), (q3, .inl (y4, 2501, .inl (fun _ => 0))), (q5, .inl (y6, 2501, .inl (fun _ => 0))), (q7, .inl (y8, 2501, .inr (.inl (fun _ => 0)))), (q9, .inl (y10, 35, .inr (.inl f91)))] := hD
  have hK : va_K (dC, dI) vwCl [(y2, .int), (y4, .int), (y6, .int), (y8, .long), (y10, .long)] s := hK
  refine va_last hx hb hK hP hD hS 5 4 rfl rfl (iv_in (by decide : iv 27 27 27) (by decide) (by decide) : vp_in 27 35) dX10_init_70 (fun H locs hP hD hS => ?_)
  have hP : va_P (dC, dI) vwCl [(h0, .inr (10, [.ref q1, .ref q3, .ref q5, .ref q7, .ref q9, .ref h1, .int 0, .int 0, .int 0, .int 0, .int 0, .long 0])), (q1, .inl (y2, 2501, .inl (fun _ => 0))), (q3, .inl (y4, 2501, .inl (fun _ => 0))), (q5, .inl (y6, 2501, .inl (fun _ => 0))), (q7, .inl (y8, 2501, .inr (.inl (fun _ => 0)))), (q9, .inl (y10, 35, .inr (.inl (vp_updL f91 (27 : Int32).toNatClampNeg r92))))] H := hP
  have hD : va_D A [(h0, .inr (10, [.ref q1, .ref q3, .ref q5, .ref q7, .ref q9, .ref h1, .int 0, .int 0, .int 0, .int 0, .int 0, .long 0])), (q1, .inl (y2, 2501, .inl (fun _ => 0))), (q3, .inl (y4, 2501, .inl (fun _ => 0))), (q5, .inl (y6, 2501, .inl (fun _ => 0))), (q7, .inl (y8, 2501, .inr (.inl (fun _ => 0)))), (q9, .inl (y10, 35, .inr (.inl (vp_updL f91 (27 : Int32).toNatClampNeg r92))))] := hD
  obtain ⟨f94, ef94⟩ : ∃ z, z = vp_updL f91 (27 : Int32).toNatClampNeg r92 := ⟨_, rfl⟩
  rw [← ef94] at hP hD
  refine lv_iinc (v := 28) (lv' := [(2, .int 28), (0, .ref h0), (1, .ref h1)]) hx hb dX10_init_71 hl (k := 0) rfl (by decide) (by decide) rfl (fun ls hl => ?_)
  refine lv_goto (tgt := 55) hx hb dX10_init_74 (by decide) ?_
  refine lv_iload_n hx hb dX10_init_55 rfl (lv_at hl 0 rfl) ?_
  refine lv_bipush (v := 35) hx hb dX10_init_56 (by decide) ?_
  refine lv_icmp_ge (tgt := 77) hx hb dX10_init_58 (by decide) (fun c => absurd c (by decide)) (fun _ => ?_)
  refine lv_aload_n hx hb dX10_init_61 rfl (lv_at hl 1 rfl) ?_
  refine va_get (D := (dC, dI)) (ci := 10) (v := .ref q9) (C := RX10) (T := TX10) (N := 12) hx hb hG inGX10 hown hK hP 0 rfl rfl 4 (by decide) (hG _ wd_287) (fun _ h9 => h9) rfl dX10_init_62 ?_
  refine lv_iload_n hx hb dX10_init_65 rfl (lv_at hl 0 rfl) ?_
  refine lv_iload_n hx hb dX10_init_66 rfl (lv_at hl 0 rfl) ?_
  have hPc := hP.sub (ws' := []) [] rfl
  have hDc := hD.sub (ws' := []) [] (by decide) rfl
  have hKc := hK.sub (tys' := []) [] rfl
  have hFc := va_free (wc := []) hD hS hA [] rfl
  refine va_calll (va_runS (As := [.int 28]) (rest := [.int 28, .ref q9]) ⟨hx, hb, hml, hown, hG⟩ (cX10_nameKey_1 l dC dI adK adV H.size 28 (iv_w (by decide : iv 28 28 28) (by decide) (by decide))) (va_cwS 1 hG (gS wd_228 wd_229 wd_11 wd_230) rfl rfl rfl (by decide +kernel) ⟨Nat.le_of_ble_eq_true rfl, Nat.le_of_ble_eq_true rfl⟩) ⟨fun a U g mk q => by obtain ⟨q0, q1, qP, qK, qD, qE⟩ := q; exact ⟨q0, q1, qP, va_K.moved (u := U) (U := U.calling g mk a) (Vm.Alike.refl U.vm) qK, qD, qE.same rfl⟩, fun U hU hW => ⟨rfl, by rw [hU], by rw [hU]; exact hPc, va_K.moved hW.alike hKc, hDc.weaken (fun _ _ _ _ => trivial), by rw [hU]; exact ((hE.kept hS.2.1).narrow hFc).warm hW⟩⟩ rfl rfl hl.1 rfl (lv_room (Nat.le_of_ble_eq_true rfl)) dX10_init_67 ⟨by decide, by decide⟩) hS (fun q _ h => hFc q h) hFc (fun r95 u96 t H1 locs ht hvm hw hB hz1 hk1 hS => ?_)
  obtain ⟨hP1, hK1, hD1⟩ := hB
  rw [ht] at hP1
  have hK1 := va_K.moved hvm.symm hK1
  obtain ⟨hP, hD⟩ := va_join (wr := [(h0, .inr (10, [.ref q1, .ref q3, .ref q5, .ref q7, .ref q9, .ref h1, .int 0, .int 0, .int 0, .int 0, .int 0, .long 0])), (q1, .inl (y2, 2501, .inl (fun _ => 0))), (q3, .inl (y4, 2501, .inl (fun _ => 0))), (q5, .inl (y6, 2501, .inl (fun _ => 0))), (q7, .inl (y8, 2501, .inr (.inl (fun _ => 0)))), (q9, .inl (y10, 35, .inr (.inl f94)))]) (w1 := []) hP hD [] [0, 1, 2, 3, 4, 5] rfl rfl (by decide) (by decide) hk1 hFc hP1 hD1
  have hK := (hK.sub (tys' := [(y2, .int), (y4, .int), (y6, .int), (y8, .long), (y10, .long)]) [0, 1, 2, 3, 4] rfl).app hK1
  generalize H1 = H at hP hS ⊢
  have hP : va_P (dC, dI) vwCl [(h0, .inr (10, [.ref q1, .ref q3, .ref q5, .ref q7, .ref q9, .ref h1, .int 0, .int 0, .int 0, .int 0, .int 0, .long 0])), (q1, .inl (y2, 2501, .inl (fun _ => 0))), (q3, .inl (y4, 2501, .inl (fun _ => 0))), (q5, .inl (y6, 2501, .inl (fun _ => 0))), (q7, .inl (y8, 2501, .inr (.inl (fun _ => 0)))), (q9, .inl (y10, 35, .inr (.inl f94)))] H := hP
  have hD : va_D A [(h0, .inr (10, [.ref q1, .ref q3, .ref q5, .ref q7, .ref q9, .ref h1, .int 0, .int 0, .int 0, .int 0, .int 0, .long 0])), (q1, .inl (y2, 2501, .inl (fun _ => 0))), (q3, .inl (y4, 2501, .inl (fun _ => 0))), (q5, .inl (y6, 2501, .inl (fun _ => 0))), (q7, .inl (y8, 2501, .inr (.inl (fun _ => 0)))), (q9, .inl (y10, 35, .inr (.inl f94)))] := hD
  have hK : va_K (dC, dI) vwCl [(y2, .int), (y4, .int), (y6, .int), (y8, .long), (y10, .long)] s := hK
  refine va_last hx hb hK hP hD hS 5 4 rfl rfl (iv_in (by decide : iv 28 28 28) (by decide) (by decide) : vp_in 28 35) dX10_init_70 (fun H locs hP hD hS => ?_)
  have hP : va_P (dC, dI) vwCl [(h0, .inr (10, [.ref q1, .ref q3, .ref q5, .ref q7, .ref q9, .ref h1, .int 0, .int 0, .int 0, .int 0, .int 0, .long 0])), (q1, .inl (y2, 2501, .inl (fun _ => 0))), (q3, .inl (y4, 2501, .inl (fun _ => 0))), (q5, .inl (y6, 2501, .inl (fun _ => 0))), (q7, .inl (y8, 2501, .inr (.inl (fun _ => 0)))), (q9, .inl (y10, 35, .inr (.inl (vp_updL f94 (28 : Int32).toNatClampNeg r95))))] H := hP
  have hD : va_D A [(h0, .inr (10, [.ref q1, .ref q3, .ref q5, .ref q7, .ref q9, .ref h1, .int 0, .int 0, .int 0, .int 0, .int 0, .long 0])), (q1, .inl (y2, 2501, .inl (fun _ => 0))), (q3, .inl (y4, 2501, .inl (fun _ => 0))), (q5, .inl (y6, 2501, .inl (fun _ => 0))), (q7, .inl (y8, 2501, .inr (.inl (fun _ => 0)))), (q9, .inl (y10, 35, .inr (.inl (vp_updL f94 (28 : Int32).toNatClampNeg r95))))] := hD
  obtain ⟨f97, ef97⟩ : ∃ z, z = vp_updL f94 (28 : Int32).toNatClampNeg r95 := ⟨_, rfl⟩
  rw [← ef97] at hP hD
  refine lv_iinc (v := 29) (lv' := [(2, .int 29), (0, .ref h0), (1, .ref h1)]) hx hb dX10_init_71 hl (k := 0) rfl (by decide) (by decide) rfl (fun ls hl => ?_)
  refine lv_goto (tgt := 55) hx hb dX10_init_74 (by decide) ?_
  refine lv_iload_n hx hb dX10_init_55 rfl (lv_at hl 0 rfl) ?_
  refine lv_bipush (v := 35) hx hb dX10_init_56 (by decide) ?_
  refine lv_icmp_ge (tgt := 77) hx hb dX10_init_58 (by decide) (fun c => absurd c (by decide)) (fun _ => ?_)
  refine lv_aload_n hx hb dX10_init_61 rfl (lv_at hl 1 rfl) ?_
  refine va_get (D := (dC, dI)) (ci := 10) (v := .ref q9) (C := RX10) (T := TX10) (N := 12) hx hb hG inGX10 hown hK hP 0 rfl rfl 4 (by decide) (hG _ wd_287) (fun _ h9 => h9) rfl dX10_init_62 ?_
  refine lv_iload_n hx hb dX10_init_65 rfl (lv_at hl 0 rfl) ?_
  refine lv_iload_n hx hb dX10_init_66 rfl (lv_at hl 0 rfl) ?_
  have hPc := hP.sub (ws' := []) [] rfl
  have hDc := hD.sub (ws' := []) [] (by decide) rfl
  have hKc := hK.sub (tys' := []) [] rfl
  have hFc := va_free (wc := []) hD hS hA [] rfl
  refine va_calll (va_runS (As := [.int 29]) (rest := [.int 29, .ref q9]) ⟨hx, hb, hml, hown, hG⟩ (cX10_nameKey_1 l dC dI adK adV H.size 29 (iv_w (by decide : iv 29 29 29) (by decide) (by decide))) (va_cwS 1 hG (gS wd_228 wd_229 wd_11 wd_230) rfl rfl rfl (by decide +kernel) ⟨Nat.le_of_ble_eq_true rfl, Nat.le_of_ble_eq_true rfl⟩) ⟨fun a U g mk q => by obtain ⟨q0, q1, qP, qK, qD, qE⟩ := q; exact ⟨q0, q1, qP, va_K.moved (u := U) (U := U.calling g mk a) (Vm.Alike.refl U.vm) qK, qD, qE.same rfl⟩, fun U hU hW => ⟨rfl, by rw [hU], by rw [hU]; exact hPc, va_K.moved hW.alike hKc, hDc.weaken (fun _ _ _ _ => trivial), by rw [hU]; exact ((hE.kept hS.2.1).narrow hFc).warm hW⟩⟩ rfl rfl hl.1 rfl (lv_room (Nat.le_of_ble_eq_true rfl)) dX10_init_67 ⟨by decide, by decide⟩) hS (fun q _ h => hFc q h) hFc (fun r98 u99 t H1 locs ht hvm hw hB hz1 hk1 hS => ?_)
  obtain ⟨hP1, hK1, hD1⟩ := hB
  rw [ht] at hP1
  have hK1 := va_K.moved hvm.symm hK1
  obtain ⟨hP, hD⟩ := va_join (wr := [(h0, .inr (10, [.ref q1, .ref q3, .ref q5, .ref q7, .ref q9, .ref h1, .int 0, .int 0, .int 0, .int 0, .int 0, .long 0])), (q1, .inl (y2, 2501, .inl (fun _ => 0))), (q3, .inl (y4, 2501, .inl (fun _ => 0))), (q5, .inl (y6, 2501, .inl (fun _ => 0))), (q7, .inl (y8, 2501, .inr (.inl (fun _ => 0)))), (q9, .inl (y10, 35, .inr (.inl f97)))]) (w1 := []) hP hD [] [0, 1, 2, 3, 4, 5] rfl rfl (by decide) (by decide) hk1 hFc hP1 hD1
  have hK := (hK.sub (tys' := [(y2, .int), (y4, .int), (y6, .int), (y8, .long), (y10, .long)]) [0, 1, 2, 3, 4] rfl).app hK1
  generalize H1 = H at hP hS ⊢
  have hP : va_P (dC, dI) vwCl [(h0, .inr (10, [.ref q1, .ref q3, .ref q5, .ref q7, .ref q9, .ref h1, .int 0, .int 0, .int 0, .int 0, .int 0, .long 0])), (q1, .inl (y2, 2501, .inl (fun _ => 0))), (q3, .inl (y4, 2501, .inl (fun _ => 0))), (q5, .inl (y6, 2501, .inl (fun _ => 0))), (q7, .inl (y8, 2501, .inr (.inl (fun _ => 0)))), (q9, .inl (y10, 35, .inr (.inl f97)))] H := hP
  have hD : va_D A [(h0, .inr (10, [.ref q1, .ref q3, .ref q5, .ref q7, .ref q9, .ref h1, .int 0, .int 0, .int 0, .int 0, .int 0, .long 0])), (q1, .inl (y2, 2501, .inl (fun _ => 0))), (q3, .inl (y4, 2501, .inl (fun _ => 0))), (q5, .inl (y6, 2501, .inl (fun _ => 0))), (q7, .inl (y8, 2501, .inr (.inl (fun _ => 0)))), (q9, .inl (y10, 35, .inr (.inl f97)))] := hD
  have hK : va_K (dC, dI) vwCl [(y2, .int), (y4, .int), (y6, .int), (y8, .long), (y10, .long)] s := hK
  refine va_last hx hb hK hP hD hS 5 4 rfl rfl (iv_in (by decide : iv 29 29 29) (by decide) (by decide) : vp_in 29 35) dX10_init_70 (fun H locs hP hD hS => ?_)
  have hP : va_P (dC, dI) vwCl [(h0, .inr (10, [.ref q1, .ref q3, .ref q5, .ref q7, .ref q9, .ref h1, .int 0, .int 0, .int 0, .int 0, .int 0, .long 0])), (q1, .inl (y2, 2501, .inl (fun _ => 0))), (q3, .inl (y4, 2501, .inl (fun _ => 0))), (q5, .inl (y6, 2501, .inl (fun _ => 0))), (q7, .inl (y8, 2501, .inr (.inl (fun _ => 0)))), (q9, .inl (y10, 35, .inr (.inl (vp_updL f97 (29 : Int32).toNatClampNeg r98))))] H := hP
  have hD : va_D A [(h0, .inr (10, [.ref q1, .ref q3, .ref q5, .ref q7, .ref q9, .ref h1, .int 0, .int 0, .int 0, .int 0, .int 0, .long 0])), (q1, .inl (y2, 2501, .inl (fun _ => 0))), (q3, .inl (y4, 2501, .inl (fun _ => 0))), (q5, .inl (y6, 2501, .inl (fun _ => 0))), (q7, .inl (y8, 2501, .inr (.inl (fun _ => 0)))), (q9, .inl (y10, 35, .inr (.inl (vp_updL f97 (29 : Int32).toNatClampNeg r98))))] := hD
  obtain ⟨f100, ef100⟩ : ∃ z, z = vp_updL f97 (29 : Int32).toNatClampNeg r98 := ⟨_, rfl⟩
  rw [← ef100] at hP hD
  refine lv_iinc (v := 30) (lv' := [(2, .int 30), (0, .ref h0), (1, .ref h1)]) hx hb dX10_init_71 hl (k := 0) rfl (by decide) (by decide) rfl (fun ls hl => ?_)
  refine lv_goto (tgt := 55) hx hb dX10_init_74 (by decide) ?_
  refine lv_iload_n hx hb dX10_init_55 rfl (lv_at hl 0 rfl) ?_
  refine lv_bipush (v := 35) hx hb dX10_init_56 (by decide) ?_
  refine lv_icmp_ge (tgt := 77) hx hb dX10_init_58 (by decide) (fun c => absurd c (by decide)) (fun _ => ?_)
  refine lv_aload_n hx hb dX10_init_61 rfl (lv_at hl 1 rfl) ?_
  refine va_get (D := (dC, dI)) (ci := 10) (v := .ref q9) (C := RX10) (T := TX10) (N := 12) hx hb hG inGX10 hown hK hP 0 rfl rfl 4 (by decide) (hG _ wd_287) (fun _ h9 => h9) rfl dX10_init_62 ?_
  refine lv_iload_n hx hb dX10_init_65 rfl (lv_at hl 0 rfl) ?_
  refine lv_iload_n hx hb dX10_init_66 rfl (lv_at hl 0 rfl) ?_
  have hPc := hP.sub (ws' := []) [] rfl
  have hDc := hD.sub (ws' := []) [] (by decide) rfl
  have hKc := hK.sub (tys' := []) [] rfl
  have hFc := va_free (wc := []) hD hS hA [] rfl
  refine va_calll (va_runS (As := [.int 30]) (rest := [.int 30, .ref q9]) ⟨hx, hb, hml, hown, hG⟩ (cX10_nameKey_1 l dC dI adK adV H.size 30 (iv_w (by decide : iv 30 30 30) (by decide) (by decide))) (va_cwS 1 hG (gS wd_228 wd_229 wd_11 wd_230) rfl rfl rfl (by decide +kernel) ⟨Nat.le_of_ble_eq_true rfl, Nat.le_of_ble_eq_true rfl⟩) ⟨fun a U g mk q => by obtain ⟨q0, q1, qP, qK, qD, qE⟩ := q; exact ⟨q0, q1, qP, va_K.moved (u := U) (U := U.calling g mk a) (Vm.Alike.refl U.vm) qK, qD, qE.same rfl⟩, fun U hU hW => ⟨rfl, by rw [hU], by rw [hU]; exact hPc, va_K.moved hW.alike hKc, hDc.weaken (fun _ _ _ _ => trivial), by rw [hU]; exact ((hE.kept hS.2.1).narrow hFc).warm hW⟩⟩ rfl rfl hl.1 rfl (lv_room (Nat.le_of_ble_eq_true rfl)) dX10_init_67 ⟨by decide, by decide⟩) hS (fun q _ h => hFc q h) hFc (fun r101 u102 t H1 locs ht hvm hw hB hz1 hk1 hS => ?_)
  obtain ⟨hP1, hK1, hD1⟩ := hB
  rw [ht] at hP1
  have hK1 := va_K.moved hvm.symm hK1
  obtain ⟨hP, hD⟩ := va_join (wr := [(h0, .inr (10, [.ref q1, .ref q3, .ref q5, .ref q7, .ref q9, .ref h1, .int 0, .int 0, .int 0, .int 0, .int 0, .long 0])), (q1, .inl (y2, 2501, .inl (fun _ => 0))), (q3, .inl (y4, 2501, .inl (fun _ => 0))), (q5, .inl (y6, 2501, .inl (fun _ => 0))), (q7, .inl (y8, 2501, .inr (.inl (fun _ => 0)))), (q9, .inl (y10, 35, .inr (.inl f100)))]) (w1 := []) hP hD [] [0, 1, 2, 3, 4, 5] rfl rfl (by decide) (by decide) hk1 hFc hP1 hD1
  have hK := (hK.sub (tys' := [(y2, .int), (y4, .int), (y6, .int), (y8, .long), (y10, .long)]) [0, 1, 2, 3, 4] rfl).app hK1
  generalize H1 = H at hP hS ⊢
  have hP : va_P (dC, dI) vwCl [(h0, .inr (10, [.ref q1, .ref q3, .ref q5, .ref q7, .ref q9, .ref h1, .int 0, .int 0, .int 0, .int 0, .int 0, .long 0])), (q1, .inl (y2, 2501, .inl (fun _ => 0))), (q3, .inl (y4, 2501, .inl (fun _ => 0))), (q5, .inl (y6, 2501, .inl (fun _ => 0))), (q7, .inl (y8, 2501, .inr (.inl (fun _ => 0)))), (q9, .inl (y10, 35, .inr (.inl f100)))] H := hP
  have hD : va_D A [(h0, .inr (10, [.ref q1, .ref q3, .ref q5, .ref q7, .ref q9, .ref h1, .int 0, .int 0, .int 0, .int 0, .int 0, .long 0])), (q1, .inl (y2, 2501, .inl (fun _ => 0))), (q3, .inl (y4, 2501, .inl (fun _ => 0))), (q5, .inl (y6, 2501, .inl (fun _ => 0))), (q7, .inl (y8, 2501, .inr (.inl (fun _ => 0)))), (q9, .inl (y10, 35, .inr (.inl f100)))] := hD
  have hK : va_K (dC, dI) vwCl [(y2, .int), (y4, .int), (y6, .int), (y8, .long), (y10, .long)] s := hK
  refine va_last hx hb hK hP hD hS 5 4 rfl rfl (iv_in (by decide : iv 30 30 30) (by decide) (by decide) : vp_in 30 35) dX10_init_70 (fun H locs hP hD hS => ?_)
  have hP : va_P (dC, dI) vwCl [(h0, .inr (10, [.ref q1, .ref q3, .ref q5, .ref q7, .ref q9, .ref h1, .int 0, .int 0, .int 0, .int 0, .int 0, .long 0])), (q1, .inl (y2, 2501, .inl (fun _ => 0))), (q3, .inl (y4, 2501, .inl (fun _ => 0))), (q5, .inl (y6, 2501, .inl (fun _ => 0))), (q7, .inl (y8, 2501, .inr (.inl (fun _ => 0)))), (q9, .inl (y10, 35, .inr (.inl (vp_updL f100 (30 : Int32).toNatClampNeg r101))))] H := hP
  have hD : va_D A [(h0, .inr (10, [.ref q1, .ref q3, .ref q5, .ref q7, .ref q9, .ref h1, .int 0, .int 0, .int 0, .int 0, .int 0, .long 0])), (q1, .inl (y2, 2501, .inl (fun _ => 0))), (q3, .inl (y4, 2501, .inl (fun _ => 0))), (q5, .inl (y6, 2501, .inl (fun _ => 0))), (q7, .inl (y8, 2501, .inr (.inl (fun _ => 0)))), (q9, .inl (y10, 35, .inr (.inl (vp_updL f100 (30 : Int32).toNatClampNeg r101))))] := hD
  obtain ⟨f103, ef103⟩ : ∃ z, z = vp_updL f100 (30 : Int32).toNatClampNeg r101 := ⟨_, rfl⟩
  rw [← ef103] at hP hD
  refine lv_iinc (v := 31) (lv' := [(2, .int 31), (0, .ref h0), (1, .ref h1)]) hx hb dX10_init_71 hl (k := 0) rfl (by decide) (by decide) rfl (fun ls hl => ?_)
  refine lv_goto (tgt := 55) hx hb dX10_init_74 (by decide) ?_
  refine lv_iload_n hx hb dX10_init_55 rfl (lv_at hl 0 rfl) ?_
  refine lv_bipush (v := 35) hx hb dX10_init_56 (by decide) ?_
  refine lv_icmp_ge (tgt := 77) hx hb dX10_init_58 (by decide) (fun c => absurd c (by decide)) (fun _ => ?_)
  refine lv_aload_n hx hb dX10_init_61 rfl (lv_at hl 1 rfl) ?_
  refine va_get (D := (dC, dI)) (ci := 10) (v := .ref q9) (C := RX10) (T := TX10) (N := 12) hx hb hG inGX10 hown hK hP 0 rfl rfl 4 (by decide) (hG _ wd_287) (fun _ h9 => h9) rfl dX10_init_62 ?_
  refine lv_iload_n hx hb dX10_init_65 rfl (lv_at hl 0 rfl) ?_
  refine lv_iload_n hx hb dX10_init_66 rfl (lv_at hl 0 rfl) ?_
  have hPc := hP.sub (ws' := []) [] rfl
  have hDc := hD.sub (ws' := []) [] (by decide) rfl
  have hKc := hK.sub (tys' := []) [] rfl
  have hFc := va_free (wc := []) hD hS hA [] rfl
  refine va_calll (va_runS (As := [.int 31]) (rest := [.int 31, .ref q9]) ⟨hx, hb, hml, hown, hG⟩ (cX10_nameKey_1 l dC dI adK adV H.size 31 (iv_w (by decide : iv 31 31 31) (by decide) (by decide))) (va_cwS 1 hG (gS wd_228 wd_229 wd_11 wd_230) rfl rfl rfl (by decide +kernel) ⟨Nat.le_of_ble_eq_true rfl, Nat.le_of_ble_eq_true rfl⟩) ⟨fun a U g mk q => by obtain ⟨q0, q1, qP, qK, qD, qE⟩ := q; exact ⟨q0, q1, qP, va_K.moved (u := U) (U := U.calling g mk a) (Vm.Alike.refl U.vm) qK, qD, qE.same rfl⟩, fun U hU hW => ⟨rfl, by rw [hU], by rw [hU]; exact hPc, va_K.moved hW.alike hKc, hDc.weaken (fun _ _ _ _ => trivial), by rw [hU]; exact ((hE.kept hS.2.1).narrow hFc).warm hW⟩⟩ rfl rfl hl.1 rfl (lv_room (Nat.le_of_ble_eq_true rfl)) dX10_init_67 ⟨by decide, by decide⟩) hS (fun q _ h => hFc q h) hFc (fun r104 u105 t H1 locs ht hvm hw hB hz1 hk1 hS => ?_)
  obtain ⟨hP1, hK1, hD1⟩ := hB
  rw [ht] at hP1
  have hK1 := va_K.moved hvm.symm hK1
  obtain ⟨hP, hD⟩ := va_join (wr := [(h0, .inr (10, [.ref q1, .ref q3, .ref q5, .ref q7, .ref q9, .ref h1, .int 0, .int 0, .int 0, .int 0, .int 0, .long 0])), (q1, .inl (y2, 2501, .inl (fun _ => 0))), (q3, .inl (y4, 2501, .inl (fun _ => 0))), (q5, .inl (y6, 2501, .inl (fun _ => 0))), (q7, .inl (y8, 2501, .inr (.inl (fun _ => 0)))), (q9, .inl (y10, 35, .inr (.inl f103)))]) (w1 := []) hP hD [] [0, 1, 2, 3, 4, 5] rfl rfl (by decide) (by decide) hk1 hFc hP1 hD1
  have hK := (hK.sub (tys' := [(y2, .int), (y4, .int), (y6, .int), (y8, .long), (y10, .long)]) [0, 1, 2, 3, 4] rfl).app hK1
  generalize H1 = H at hP hS ⊢
  have hP : va_P (dC, dI) vwCl [(h0, .inr (10, [.ref q1, .ref q3, .ref q5, .ref q7, .ref q9, .ref h1, .int 0, .int 0, .int 0, .int 0, .int 0, .long 0])), (q1, .inl (y2, 2501, .inl (fun _ => 0))), (q3, .inl (y4, 2501, .inl (fun _ => 0))), (q5, .inl (y6, 2501, .inl (fun _ => 0))), (q7, .inl (y8, 2501, .inr (.inl (fun _ => 0)))), (q9, .inl (y10, 35, .inr (.inl f103)))] H := hP
  have hD : va_D A [(h0, .inr (10, [.ref q1, .ref q3, .ref q5, .ref q7, .ref q9, .ref h1, .int 0, .int 0, .int 0, .int 0, .int 0, .long 0])), (q1, .inl (y2, 2501, .inl (fun _ => 0))), (q3, .inl (y4, 2501, .inl (fun _ => 0))), (q5, .inl (y6, 2501, .inl (fun _ => 0))), (q7, .inl (y8, 2501, .inr (.inl (fun _ => 0)))), (q9, .inl (y10, 35, .inr (.inl f103)))] := hD
  have hK : va_K (dC, dI) vwCl [(y2, .int), (y4, .int), (y6, .int), (y8, .long), (y10, .long)] s := hK
  refine va_last hx hb hK hP hD hS 5 4 rfl rfl (iv_in (by decide : iv 31 31 31) (by decide) (by decide) : vp_in 31 35) dX10_init_70 (fun H locs hP hD hS => ?_)
  have hP : va_P (dC, dI) vwCl [(h0, .inr (10, [.ref q1, .ref q3, .ref q5, .ref q7, .ref q9, .ref h1, .int 0, .int 0, .int 0, .int 0, .int 0, .long 0])), (q1, .inl (y2, 2501, .inl (fun _ => 0))), (q3, .inl (y4, 2501, .inl (fun _ => 0))), (q5, .inl (y6, 2501, .inl (fun _ => 0))), (q7, .inl (y8, 2501, .inr (.inl (fun _ => 0)))), (q9, .inl (y10, 35, .inr (.inl (vp_updL f103 (31 : Int32).toNatClampNeg r104))))] H := hP
  have hD : va_D A [(h0, .inr (10, [.ref q1, .ref q3, .ref q5, .ref q7, .ref q9, .ref h1, .int 0, .int 0, .int 0, .int 0, .int 0, .long 0])), (q1, .inl (y2, 2501, .inl (fun _ => 0))), (q3, .inl (y4, 2501, .inl (fun _ => 0))), (q5, .inl (y6, 2501, .inl (fun _ => 0))), (q7, .inl (y8, 2501, .inr (.inl (fun _ => 0)))), (q9, .inl (y10, 35, .inr (.inl (vp_updL f103 (31 : Int32).toNatClampNeg r104))))] := hD
  obtain ⟨f106, ef106⟩ : ∃ z, z = vp_updL f103 (31 : Int32).toNatClampNeg r104 := ⟨_, rfl⟩
  rw [← ef106] at hP hD
  refine lv_iinc (v := 32) (lv' := [(2, .int 32), (0, .ref h0), (1, .ref h1)]) hx hb dX10_init_71 hl (k := 0) rfl (by decide) (by decide) rfl (fun ls hl => ?_)
  refine lv_goto (tgt := 55) hx hb dX10_init_74 (by decide) ?_
  refine lv_iload_n hx hb dX10_init_55 rfl (lv_at hl 0 rfl) ?_
  refine lv_bipush (v := 35) hx hb dX10_init_56 (by decide) ?_
  refine lv_icmp_ge (tgt := 77) hx hb dX10_init_58 (by decide) (fun c => absurd c (by decide)) (fun _ => ?_)
  refine lv_aload_n hx hb dX10_init_61 rfl (lv_at hl 1 rfl) ?_
  refine va_get (D := (dC, dI)) (ci := 10) (v := .ref q9) (C := RX10) (T := TX10) (N := 12) hx hb hG inGX10 hown hK hP 0 rfl rfl 4 (by decide) (hG _ wd_287) (fun _ h9 => h9) rfl dX10_init_62 ?_
  refine lv_iload_n hx hb dX10_init_65 rfl (lv_at hl 0 rfl) ?_
  refine lv_iload_n hx hb dX10_init_66 rfl (lv_at hl 0 rfl) ?_
  have hPc := hP.sub (ws' := []) [] rfl
  have hDc := hD.sub (ws' := []) [] (by decide) rfl
  have hKc := hK.sub (tys' := []) [] rfl
  have hFc := va_free (wc := []) hD hS hA [] rfl
  refine va_calll (va_runS (As := [.int 32]) (rest := [.int 32, .ref q9]) ⟨hx, hb, hml, hown, hG⟩ (cX10_nameKey_1 l dC dI adK adV H.size 32 (iv_w (by decide : iv 32 32 32) (by decide) (by decide))) (va_cwS 1 hG (gS wd_228 wd_229 wd_11 wd_230) rfl rfl rfl (by decide +kernel) ⟨Nat.le_of_ble_eq_true rfl, Nat.le_of_ble_eq_true rfl⟩) ⟨fun a U g mk q => by obtain ⟨q0, q1, qP, qK, qD, qE⟩ := q; exact ⟨q0, q1, qP, va_K.moved (u := U) (U := U.calling g mk a) (Vm.Alike.refl U.vm) qK, qD, qE.same rfl⟩, fun U hU hW => ⟨rfl, by rw [hU], by rw [hU]; exact hPc, va_K.moved hW.alike hKc, hDc.weaken (fun _ _ _ _ => trivial), by rw [hU]; exact ((hE.kept hS.2.1).narrow hFc).warm hW⟩⟩ rfl rfl hl.1 rfl (lv_room (Nat.le_of_ble_eq_true rfl)) dX10_init_67 ⟨by decide, by decide⟩) hS (fun q _ h => hFc q h) hFc (fun r107 u108 t H1 locs ht hvm hw hB hz1 hk1 hS => ?_)
  obtain ⟨hP1, hK1, hD1⟩ := hB
  rw [ht] at hP1
  have hK1 := va_K.moved hvm.symm hK1
  obtain ⟨hP, hD⟩ := va_join (wr := [(h0, .inr (10, [.ref q1, .ref q3, .ref q5, .ref q7, .ref q9, .ref h1, .int 0, .int 0, .int 0, .int 0, .int 0, .long 0])), (q1, .inl (y2, 2501, .inl (fun _ => 0))), (q3, .inl (y4, 2501, .inl (fun _ => 0))), (q5, .inl (y6, 2501, .inl (fun _ => 0))), (q7, .inl (y8, 2501, .inr (.inl (fun _ => 0)))), (q9, .inl (y10, 35, .inr (.inl f106)))]) (w1 := []) hP hD [] [0, 1, 2, 3, 4, 5] rfl rfl (by decide) (by decide) hk1 hFc hP1 hD1
  have hK := (hK.sub (tys' := [(y2, .int), (y4, .int), (y6, .int), (y8, .long), (y10, .long)]) [0, 1, 2, 3, 4] rfl).app hK1
  generalize H1 = H at hP hS ⊢
  have hP : va_P (dC, dI) vwCl [(h0, .inr (10, [.ref q1, .ref q3, .ref q5, .ref q7, .ref q9, .ref h1, .int 0, .int 0, .int 0, .int 0, .int 0, .long 0])), (q1, .inl (y2, 2501, .inl (fun _ => 0))), (q3, .inl (y4, 2501, .inl (fun _ => 0))), (q5, .inl (y6, 2501, .inl (fun _ => 0))), (q7, .inl (y8, 2501, .inr (.inl (fun _ => 0)))), (q9, .inl (y10, 35, .inr (.inl f106)))] H := hP
  have hD : va_D A [(h0, .inr (10, [.ref q1, .ref q3, .ref q5, .ref q7, .ref q9, .ref h1, .int 0, .int 0, .int 0, .int 0, .int 0, .long 0])), (q1, .inl (y2, 2501, .inl (fun _ => 0))), (q3, .inl (y4, 2501, .inl (fun _ => 0))), (q5, .inl (y6, 2501, .inl (fun _ => 0))), (q7, .inl (y8, 2501, .inr (.inl (fun _ => 0)))), (q9, .inl (y10, 35, .inr (.inl f106)))] := hD
  have hK : va_K (dC, dI) vwCl [(y2, .int), (y4, .int), (y6, .int), (y8, .long), (y10, .long)] s := hK
  refine va_last hx hb hK hP hD hS 5 4 rfl rfl (iv_in (by decide : iv 32 32 32) (by decide) (by decide) : vp_in 32 35) dX10_init_70 (fun H locs hP hD hS => ?_)
  have hP : va_P (dC, dI) vwCl [(h0, .inr (10, [.ref q1, .ref q3, .ref q5, .ref q7, .ref q9, .ref h1, .int 0, .int 0, .int 0, .int 0, .int 0, .long 0])), (q1, .inl (y2, 2501, .inl (fun _ => 0))), (q3, .inl (y4, 2501, .inl (fun _ => 0))), (q5, .inl (y6, 2501, .inl (fun _ => 0))), (q7, .inl (y8, 2501, .inr (.inl (fun _ => 0)))), (q9, .inl (y10, 35, .inr (.inl (vp_updL f106 (32 : Int32).toNatClampNeg r107))))] H := hP
  have hD : va_D A [(h0, .inr (10, [.ref q1, .ref q3, .ref q5, .ref q7, .ref q9, .ref h1, .int 0, .int 0, .int 0, .int 0, .int 0, .long 0])), (q1, .inl (y2, 2501, .inl (fun _ => 0))), (q3, .inl (y4, 2501, .inl (fun _ => 0))), (q5, .inl (y6, 2501, .inl (fun _ => 0))), (q7, .inl (y8, 2501, .inr (.inl (fun _ => 0)))), (q9, .inl (y10, 35, .inr (.inl (vp_updL f106 (32 : Int32).toNatClampNeg r107))))] := hD
  obtain ⟨f109, ef109⟩ : ∃ z, z = vp_updL f106 (32 : Int32).toNatClampNeg r107 := ⟨_, rfl⟩
  rw [← ef109] at hP hD
  refine lv_iinc (v := 33) (lv' := [(2, .int 33), (0, .ref h0), (1, .ref h1)]) hx hb dX10_init_71 hl (k := 0) rfl (by decide) (by decide) rfl (fun ls hl => ?_)
  refine lv_goto (tgt := 55) hx hb dX10_init_74 (by decide) ?_
  refine lv_iload_n hx hb dX10_init_55 rfl (lv_at hl 0 rfl) ?_
  refine lv_bipush (v := 35) hx hb dX10_init_56 (by decide) ?_
  refine lv_icmp_ge (tgt := 77) hx hb dX10_init_58 (by decide) (fun c => absurd c (by decide)) (fun _ => ?_)
  refine lv_aload_n hx hb dX10_init_61 rfl (lv_at hl 1 rfl) ?_
  refine va_get (D := (dC, dI)) (ci := 10) (v := .ref q9) (C := RX10) (T := TX10) (N := 12) hx hb hG inGX10 hown hK hP 0 rfl rfl 4 (by decide) (hG _ wd_287) (fun _ h9 => h9) rfl dX10_init_62 ?_
  refine lv_iload_n hx hb dX10_init_65 rfl (lv_at hl 0 rfl) ?_
  refine lv_iload_n hx hb dX10_init_66 rfl (lv_at hl 0 rfl) ?_
  have hPc := hP.sub (ws' := []) [] rfl
  have hDc := hD.sub (ws' := []) [] (by decide) rfl
  have hKc := hK.sub (tys' := []) [] rfl
  have hFc := va_free (wc := []) hD hS hA [] rfl
  refine va_calll (va_runS (As := [.int 33]) (rest := [.int 33, .ref q9]) ⟨hx, hb, hml, hown, hG⟩ (cX10_nameKey_1 l dC dI adK adV H.size 33 (iv_w (by decide : iv 33 33 33) (by decide) (by decide))) (va_cwS 1 hG (gS wd_228 wd_229 wd_11 wd_230) rfl rfl rfl (by decide +kernel) ⟨Nat.le_of_ble_eq_true rfl, Nat.le_of_ble_eq_true rfl⟩) ⟨fun a U g mk q => by obtain ⟨q0, q1, qP, qK, qD, qE⟩ := q; exact ⟨q0, q1, qP, va_K.moved (u := U) (U := U.calling g mk a) (Vm.Alike.refl U.vm) qK, qD, qE.same rfl⟩, fun U hU hW => ⟨rfl, by rw [hU], by rw [hU]; exact hPc, va_K.moved hW.alike hKc, hDc.weaken (fun _ _ _ _ => trivial), by rw [hU]; exact ((hE.kept hS.2.1).narrow hFc).warm hW⟩⟩ rfl rfl hl.1 rfl (lv_room (Nat.le_of_ble_eq_true rfl)) dX10_init_67 ⟨by decide, by decide⟩) hS (fun q _ h => hFc q h) hFc (fun r110 u111 t H1 locs ht hvm hw hB hz1 hk1 hS => ?_)
  obtain ⟨hP1, hK1, hD1⟩ := hB
  rw [ht] at hP1
  have hK1 := va_K.moved hvm.symm hK1
  obtain ⟨hP, hD⟩ := va_join (wr := [(h0, .inr (10, [.ref q1, .ref q3, .ref q5, .ref q7, .ref q9, .ref h1, .int 0, .int 0, .int 0, .int 0, .int 0, .long 0])), (q1, .inl (y2, 2501, .inl (fun _ => 0))), (q3, .inl (y4, 2501, .inl (fun _ => 0))), (q5, .inl (y6, 2501, .inl (fun _ => 0))), (q7, .inl (y8, 2501, .inr (.inl (fun _ => 0)))), (q9, .inl (y10, 35, .inr (.inl f109)))]) (w1 := []) hP hD [] [0, 1, 2, 3, 4, 5] rfl rfl (by decide) (by decide) hk1 hFc hP1 hD1
  have hK := (hK.sub (tys' := [(y2, .int), (y4, .int), (y6, .int), (y8, .long), (y10, .long)]) [0, 1, 2, 3, 4] rfl).app hK1
  generalize H1 = H at hP hS ⊢
  have hP : va_P (dC, dI) vwCl [(h0, .inr (10, [.ref q1, .ref q3, .ref q5, .ref q7, .ref q9, .ref h1, .int 0, .int 0, .int 0, .int 0, .int 0, .long 0])), (q1, .inl (y2, 2501, .inl (fun _ => 0))), (q3, .inl (y4, 2501, .inl (fun _ => 0))), (q5, .inl (y6, 2501, .inl (fun _ => 0))), (q7, .inl (y8, 2501, .inr (.inl (fun _ => 0)))), (q9, .inl (y10, 35, .inr (.inl f109)))] H := hP
  have hD : va_D A [(h0, .inr (10, [.ref q1, .ref q3, .ref q5, .ref q7, .ref q9, .ref h1, .int 0, .int 0, .int 0, .int 0, .int 0, .long 0])), (q1, .inl (y2, 2501, .inl (fun _ => 0))), (q3, .inl (y4, 2501, .inl (fun _ => 0))), (q5, .inl (y6, 2501, .inl (fun _ => 0))), (q7, .inl (y8, 2501, .inr (.inl (fun _ => 0)))), (q9, .inl (y10, 35, .inr (.inl f109)))] := hD
  have hK : va_K (dC, dI) vwCl [(y2, .int), (y4, .int), (y6, .int), (y8, .long), (y10, .long)] s := hK
  refine va_last hx hb hK hP hD hS 5 4 rfl rfl (iv_in (by decide : iv 33 33 33) (by decide) (by decide) : vp_in 33 35) dX10_init_70 (fun H locs hP hD hS => ?_)
  have hP : va_P (dC, dI) vwCl [(h0, .inr (10, [.ref q1, .ref q3, .ref q5, .ref q7, .ref q9, .ref h1, .int 0, .int 0, .int 0, .int 0, .int 0, .long 0])), (q1, .inl (y2, 2501, .inl (fun _ => 0))), (q3, .inl (y4, 2501, .inl (fun _ => 0))), (q5, .inl (y6, 2501, .inl (fun _ => 0))), (q7, .inl (y8, 2501, .inr (.inl (fun _ => 0)))), (q9, .inl (y10, 35, .inr (.inl (vp_updL f109 (33 : Int32).toNatClampNeg r110))))] H := hP
  have hD : va_D A [(h0, .inr (10, [.ref q1, .ref q3, .ref q5, .ref q7, .ref q9, .ref h1, .int 0, .int 0, .int 0, .int 0, .int 0, .long 0])), (q1, .inl (y2, 2501, .inl (fun _ => 0))), (q3, .inl (y4, 2501, .inl (fun _ => 0))), (q5, .inl (y6, 2501, .inl (fun _ => 0))), (q7, .inl (y8, 2501, .inr (.inl (fun _ => 0)))), (q9, .inl (y10, 35, .inr (.inl (vp_updL f109 (33 : Int32).toNatClampNeg r110))))] := hD
  obtain ⟨f112, ef112⟩ : ∃ z, z = vp_updL f109 (33 : Int32).toNatClampNeg r110 := ⟨_, rfl⟩
  rw [← ef112] at hP hD
  refine lv_iinc (v := 34) (lv' := [(2, .int 34), (0, .ref h0), (1, .ref h1)]) hx hb dX10_init_71 hl (k := 0) rfl (by decide) (by decide) rfl (fun ls hl => ?_)
  refine lv_goto (tgt := 55) hx hb dX10_init_74 (by decide) ?_
  refine lv_iload_n hx hb dX10_init_55 rfl (lv_at hl 0 rfl) ?_
  refine lv_bipush (v := 35) hx hb dX10_init_56 (by decide) ?_
  refine lv_icmp_ge (tgt := 77) hx hb dX10_init_58 (by decide) (fun c => absurd c (by decide)) (fun _ => ?_)
  refine lv_aload_n hx hb dX10_init_61 rfl (lv_at hl 1 rfl) ?_
  refine va_get (D := (dC, dI)) (ci := 10) (v := .ref q9) (C := RX10) (T := TX10) (N := 12) hx hb hG inGX10 hown hK hP 0 rfl rfl 4 (by decide) (hG _ wd_287) (fun _ h9 => h9) rfl dX10_init_62 ?_
  refine lv_iload_n hx hb dX10_init_65 rfl (lv_at hl 0 rfl) ?_
  refine lv_iload_n hx hb dX10_init_66 rfl (lv_at hl 0 rfl) ?_
  have hPc := hP.sub (ws' := []) [] rfl
  have hDc := hD.sub (ws' := []) [] (by decide) rfl
  have hKc := hK.sub (tys' := []) [] rfl
  have hFc := va_free (wc := []) hD hS hA [] rfl
  refine va_calll (va_runS (As := [.int 34]) (rest := [.int 34, .ref q9]) ⟨hx, hb, hml, hown, hG⟩ (cX10_nameKey_1 l dC dI adK adV H.size 34 (iv_w (by decide : iv 34 34 34) (by decide) (by decide))) (va_cwS 1 hG (gS wd_228 wd_229 wd_11 wd_230) rfl rfl rfl (by decide +kernel) ⟨Nat.le_of_ble_eq_true rfl, Nat.le_of_ble_eq_true rfl⟩) ⟨fun a U g mk q => by obtain ⟨q0, q1, qP, qK, qD, qE⟩ := q; exact ⟨q0, q1, qP, va_K.moved (u := U) (U := U.calling g mk a) (Vm.Alike.refl U.vm) qK, qD, qE.same rfl⟩, fun U hU hW => ⟨rfl, by rw [hU], by rw [hU]; exact hPc, va_K.moved hW.alike hKc, hDc.weaken (fun _ _ _ _ => trivial), by rw [hU]; exact ((hE.kept hS.2.1).narrow hFc).warm hW⟩⟩ rfl rfl hl.1 rfl (lv_room (Nat.le_of_ble_eq_true rfl)) dX10_init_67 ⟨by decide, by decide⟩) hS (fun q _ h => hFc q h) hFc (fun r113 u114 t H1 locs ht hvm hw hB hz1 hk1 hS => ?_)
  obtain ⟨hP1, hK1, hD1⟩ := hB
  rw [ht] at hP1
  have hK1 := va_K.moved hvm.symm hK1
  obtain ⟨hP, hD⟩ := va_join (wr := [(h0, .inr (10, [.ref q1, .ref q3, .ref q5, .ref q7, .ref q9, .ref h1, .int 0, .int 0, .int 0, .int 0, .int 0, .long 0])), (q1, .inl (y2, 2501, .inl (fun _ => 0))), (q3, .inl (y4, 2501, .inl (fun _ => 0))), (q5, .inl (y6, 2501, .inl (fun _ => 0))), (q7, .inl (y8, 2501, .inr (.inl (fun _ => 0)))), (q9, .inl (y10, 35, .inr (.inl f112)))]) (w1 := []) hP hD [] [0, 1, 2, 3, 4, 5] rfl rfl (by decide) (by decide) hk1 hFc hP1 hD1
  have hK := (hK.sub (tys' := [(y2, .int), (y4, .int), (y6, .int), (y8, .long), (y10, .long)]) [0, 1, 2, 3, 4] rfl).app hK1
  generalize H1 = H at hP hS ⊢
  have hP : va_P (dC, dI) vwCl [(h0, .inr (10, [.ref q1, .ref q3, .ref q5, .ref q7, .ref q9, .ref h1, .int 0, .int 0, .int 0, .int 0, .int 0, .long 0])), (q1, .inl (y2, 2501, .inl (fun _ => 0))), (q3, .inl (y4, 2501, .inl (fun _ => 0))), (q5, .inl (y6, 2501, .inl (fun _ => 0))), (q7, .inl (y8, 2501, .inr (.inl (fun _ => 0)))), (q9, .inl (y10, 35, .inr (.inl f112)))] H := hP
  have hD : va_D A [(h0, .inr (10, [.ref q1, .ref q3, .ref q5, .ref q7, .ref q9, .ref h1, .int 0, .int 0, .int 0, .int 0, .int 0, .long 0])), (q1, .inl (y2, 2501, .inl (fun _ => 0))), (q3, .inl (y4, 2501, .inl (fun _ => 0))), (q5, .inl (y6, 2501, .inl (fun _ => 0))), (q7, .inl (y8, 2501, .inr (.inl (fun _ => 0)))), (q9, .inl (y10, 35, .inr (.inl f112)))] := hD
  have hK : va_K (dC, dI) vwCl [(y2, .int), (y4, .int), (y6, .int), (y8, .long), (y10, .long)] s := hK
  refine va_last hx hb hK hP hD hS 5 4 rfl rfl (iv_in (by decide : iv 34 34 34) (by decide) (by decide) : vp_in 34 35) dX10_init_70 (fun H locs hP hD hS => ?_)
  have hP : va_P (dC, dI) vwCl [(h0, .inr (10, [.ref q1, .ref q3, .ref q5, .ref q7, .ref q9, .ref h1, .int 0, .int 0, .int 0, .int 0, .int 0, .long 0])), (q1, .inl (y2, 2501, .inl (fun _ => 0))), (q3, .inl (y4, 2501, .inl (fun _ => 0))), (q5, .inl (y6, 2501, .inl (fun _ => 0))), (q7, .inl (y8, 2501, .inr (.inl (fun _ => 0)))), (q9, .inl (y10, 35, .inr (.inl (vp_updL f112 (34 : Int32).toNatClampNeg r113))))] H := hP
  have hD : va_D A [(h0, .inr (10, [.ref q1, .ref q3, .ref q5, .ref q7, .ref q9, .ref h1, .int 0, .int 0, .int 0, .int 0, .int 0, .long 0])), (q1, .inl (y2, 2501, .inl (fun _ => 0))), (q3, .inl (y4, 2501, .inl (fun _ => 0))), (q5, .inl (y6, 2501, .inl (fun _ => 0))), (q7, .inl (y8, 2501, .inr (.inl (fun _ => 0)))), (q9, .inl (y10, 35, .inr (.inl (vp_updL f112 (34 : Int32).toNatClampNeg r113))))] := hD
  obtain ⟨f115, ef115⟩ : ∃ z, z = vp_updL f112 (34 : Int32).toNatClampNeg r113 := ⟨_, rfl⟩
  rw [← ef115] at hP hD
  refine lv_iinc (v := 35) (lv' := [(2, .int 35), (0, .ref h0), (1, .ref h1)]) hx hb dX10_init_71 hl (k := 0) rfl (by decide) (by decide) rfl (fun ls hl => ?_)
  refine lv_goto (tgt := 55) hx hb dX10_init_74 (by decide) ?_
  refine lv_iload_n hx hb dX10_init_55 rfl (lv_at hl 0 rfl) ?_
  refine lv_bipush (v := 35) hx hb dX10_init_56 (by decide) ?_
  refine lv_icmp_ge (tgt := 77) hx hb dX10_init_58 (by decide) (fun _ => ?_) (fun c => absurd (by decide) c)
  have hP9 := hP.sub (ws' := [(h0, .inr (10, [.ref q1, .ref q3, .ref q5, .ref q7, .ref q9, .ref h1, .int 0, .int 0, .int 0, .int 0, .int 0, .long 0])), (q1, .inl (y2, 2501, .inl (fun _ => 0))), (q3, .inl (y4, 2501, .inl (fun _ => 0))), (q5, .inl (y6, 2501, .inl (fun _ => 0))), (q7, .inl (y8, 2501, .inr (.inl (fun _ => 0)))), (q9, .inl (y10, 35, .inr (.inl f115)))]) [0, 1, 2, 3, 4, 5] rfl
  have hD9 := hD.sub (ws' := [(h0, .inr (10, [.ref q1, .ref q3, .ref q5, .ref q7, .ref q9, .ref h1, .int 0, .int 0, .int 0, .int 0, .int 0, .long 0])), (q1, .inl (y2, 2501, .inl (fun _ => 0))), (q3, .inl (y4, 2501, .inl (fun _ => 0))), (q5, .inl (y6, 2501, .inl (fun _ => 0))), (q7, .inl (y8, 2501, .inr (.inl (fun _ => 0)))), (q9, .inl (y10, 35, .inr (.inl f115)))]) [0, 1, 2, 3, 4, 5] (by decide) rfl
  have hK9 := hK.sub (tys' := [(y2, .int), (y4, .int), (y6, .int), (y8, .long), (y10, .long)]) [0, 1, 2, 3, 4] rfl
  refine W.widen (k := 5) (n := 10039) (by decide) (by decide) ?_
  exact W.vret hx hb hr (fun t ht hW => ⟨⟨(q1, q3, q5, q7, q9, y2, y4, y6, y8, y10, f115), rfl, trivial, by rw [ht]; exact hP9, va_K.moved hW.alike hK9, hD9⟩, hS.F ht⟩) hS.2.2 dX10_init_77
