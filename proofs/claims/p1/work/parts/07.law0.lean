-- ===== end of PART A; then your names; then what follows =====
/-! THE CLAIM OUT OF ONE WALK OF THE LAW'S BODY. Your part is whole_start (and what it stands on); all else here is the same for every law, but numbers. -/
def R_law : String := "NapMachineLaw"
def lw_P (b : Addr) (xs : List Int32) (args : Array Value) (s : State) : Prop := args = #[.ref b] ∧ s.IntsAt b xs ∧ xs.length ≤ 6 ∧ (Jvm.Cond.and given_1 narrow_1).before args s = true
def lw_Q (_ : Array Value) (s : State) (o : Outcome) (t : State) : Prop := o = .returned (some (.int 1)) ∧ Framed s o t [] 600002 7302232
def lw_Z (below : List Frame) (a : Array Value) (s : State) : State → Prop := fun t => ∃ o, t.status = .running ∧ Ended t below o ∧ lw_Q a s o t
/-- the law's own end, with 1 on the stack, nothing written that was there before, its room as the claim has it -/
theorem lw_ret {p : Program} {l : Launch} {e : Env} {s : State} {m : MethodId} {below : List Frame} {meth : Method} {c : Code} {b : Nat} (hx : p.tables.exec = Jvm.exec) (hb : c.code = code) (hr : meth.sig.returnType = ret) (hlocks : meth.locks = false) {pc : Nat} {H : Heap} {ls : Array Slot} (hdg : decode code pc = .ok (.ireturn, 1)) : W p l e room_1 s m #[Value.ref b] below meth c H [] 600002 7302232 (lw_Z below #[Value.ref b] s) (F0 m pc ls [.int 1]) := by
  intro T hT X
  obtain ⟨fs, hret, hrun, hended, hW, hframe⟩ := X.leave (v := some (.int 1)) (hlocks := hlocks) (fun h => by rw [hr] at h; cases h)
  have hmeth' : T.vm.method? m = some meth := X.method'
  refine ⟨T.setFrames fs, ?_, .returned (some (.int 1)), hrun, hended, rfl, ⟨_, rfl⟩, hW, hframe⟩
  jvm_step X.here [X.here.top, hx, hb, hdg, hmeth', hr, ret, narrow_b1]
  (try refine ⟨rfl, ?_⟩); (try refine ⟨rfl, ?_⟩)
  first | (intro acts; rw [hret _ acts rfl rfl rfl]) | rw [hret _ _ rfl rfl rfl]
  exact Steps.refl _
/-- what holds at the law's entry: the machine, the code, the tables' words (any of lw_tbl by 'hts w (by decide +kernel)'), the script of L ints xs at the cell b, what the Statement gives of the start (any of its parts by flat_of_before) -/
def lw_At (p : Program) (s : State) (m : MethodId) (meth : Method) (c : Code) (b L : Nat) (xs : Nat → Int32) : Prop :=
  p.tables.exec = Jvm.exec ∧ c.code = code ∧ meth.sig.returnType = ret ∧ c.maxLocals = 7 ∧ s.vm.findClass R_law = some m.cls ∧ (∀ w ∈ lw_tbl, w.before #[Value.ref b] s = true) ∧ va_X b L xs s s.heap ∧ b < s.heap.size ∧ meth.locks = false ∧ (Jvm.Cond.and given_1 narrow_1).before #[Value.ref b] s = true
theorem law_K {args : Array Value} {s : State} (hG : ∀ w ∈ lw_G, w.before args s = true) : ∃ (dC : Nat → ClassId) (dI : Nat → Nat → Nat), va_K (dC, dI) vwCl [] s := by
  obtain ⟨c0, i0, k0⟩ := u_known (C := RX0) (T := TX0) (N := 17) (n := 17) hG inGX0 (hG (.instantiable RX0 17) wd_175)
  obtain ⟨c1, i1, k1⟩ := u_known (C := RX1) (T := TX1) (N := 4) (n := 4) hG inGX1 (hG (.instantiable RX1 4) wd_35)
  obtain ⟨c2, i2, k2⟩ := u_known (C := RX2) (T := TX2) (N := 8) (n := 8) hG inGX2 (hG (.instantiable RX2 8) wd_128)
  obtain ⟨c3, i3, k3⟩ := u_known (C := RX3) (T := TX3) (N := 3) (n := 3) hG inGX3 (hG (.instantiable RX3 3) wd_134)
  obtain ⟨c4, i4, k4⟩ := u_known (C := RX4) (T := TX4) (N := 4) (n := 4) hG inGX4 (hG (.instantiable RX4 4) wd_203)
  obtain ⟨c5, i5, k5⟩ := u_known (C := RX5) (T := TX5) (N := 6) (n := 6) hG inGX5 (hG (.instantiable RX5 6) wd_65)
  obtain ⟨c6, i6, k6⟩ := u_known (C := RX6) (T := TX6) (N := 5) (n := 5) hG inGX6 (hG (.instantiable RX6 5) wd_181)
  obtain ⟨c7, i7, k7⟩ := u_known (C := RX7) (T := TX7) (N := 5) (n := 5) hG inGX7 (hG (.instantiable RX7 5) wd_42)
  obtain ⟨c8, i8, k8⟩ := u_known (C := RX8) (T := TX8) (N := 5) (n := 5) hG inGX8 (hG (.instantiable RX8 5) wd_374)
  obtain ⟨c9, i9, k9⟩ := u_known (C := RX9) (T := TX9) (N := 6) (n := 6) hG inGX9 (hG (.instantiable RX9 6) wd_90)
  obtain ⟨c10, i10, k10⟩ := u_known (C := RX10) (T := TX10) (N := 12) (n := 12) hG inGX10 (hG (.instantiable RX10 12) wd_223)
  obtain ⟨c11, i11, k11⟩ := u_known (C := RX11) (T := TX11) (N := 7) (n := 7) hG inGX11 (hG (.instantiable RX11 7) wd_27)
  obtain ⟨c12, i12, k12⟩ := u_known (C := RX12) (T := TX12) (N := 72) (n := 72) hG inGX12 (hG (.instantiable RX12 72) wd_1266)
  refine ⟨fun k => if k = 0 then c0 else if k = 1 then c1 else if k = 2 then c2 else if k = 3 then c3 else if k = 4 then c4 else if k = 5 then c5 else if k = 6 then c6 else if k = 7 then c7 else if k = 8 then c8 else if k = 9 then c9 else if k = 10 then c10 else if k = 11 then c11 else c12, fun k => if k = 0 then i0 else if k = 1 then i1 else if k = 2 then i2 else if k = 3 then i3 else if k = 4 then i4 else if k = 5 then i5 else if k = 6 then i6 else if k = 7 then i7 else if k = 8 then i8 else if k = 9 then i9 else if k = 10 then i10 else if k = 11 then i11 else i12, ?_, fun k q h => by simp at h⟩
  intro k q hq
  match k, hq with
  | 0, hq => cases hq; exact k0
  | 1, hq => cases hq; exact k1
  | 2, hq => cases hq; exact k2
  | 3, hq => cases hq; exact k3
  | 4, hq => cases hq; exact k4
  | 5, hq => cases hq; exact k5
  | 6, hq => cases hq; exact k6
  | 7, hq => cases hq; exact k7
  | 8, hq => cases hq; exact k8
  | 9, hq => cases hq; exact k9
  | 10, hq => cases hq; exact k10
  | 11, hq => cases hq; exact k11
  | 12, hq => cases hq; exact k12
  | k + 13, hq => simp [vwCl] at hq
theorem hev0 {x : Option Value} {a : Nat} (h : x = some (.ref a)) : x = some (.ref a) := h
def tmL : List Term := [Term.string "NapMachine$Tokens" 35, Term.string "NapMachine$Tokens" 85, Term.string "NapMachine" 91, Term.string "NapMachine" 108, Term.string "NapMachine" 116, Term.string "NapMachine" 151]
def tmS (i : Nat) : Term := tmL.getD i (.arg 0)
theorem lawX : ∀ w ∈ evX, w ∈ lw_tbl := by
  have h : ∀ w ∈ evX, w ∈ ([888, 889, 890, 891, 892, 893, 894, 1128, 1247, 1875, 1876, 1877, 1878, 1879, 1880, 1881, 1882, 1883, 1884, 1885, 1886, 1887, 1888, 1889, 1890, 1891, 1892] : List Nat).filterMap (fun i => tables_1[i]?) := by decide +kernel
  intro w hw
  obtain ⟨i, -, hi⟩ := List.mem_filterMap.mp (h w hw)
  exact List.mem_append_right _ (List.mem_of_getElem? hi)
def flN : List Cond := flatC (Jvm.Cond.and given_1 narrow_1)
theorem fl_ex : ∀ i, i < 6 → Cond.exactly (tmS i) "java/lang/String" ∈ flN := by decide +kernel
theorem fl_co : ∀ i, i < 6 → Cond.eq (.field (tmS i) "java/lang/String" "coder" "B") (.int 0) ∈ flN := by decide +kernel
theorem fl_ar : ∀ i, i < 6 → Cond.arrayOf (.field (tmS i) "java/lang/String" "value" "[B") .byte ∈ flN := by decide +kernel
theorem fl_le : ∀ i, i < 6 → Cond.eq (.length (.field (tmS i) "java/lang/String" "value" "[B")) (.int (Int32.ofNat (lenS.getD i 0))) ∈ flN := by decide +kernel
theorem fl_e0 : (flN.drop 60).take 140 = (List.range 140).map (fun j => Cond.eq (.elem (.field (tmS 0) "java/lang/String" "value" "[B") (.int (Int32.ofNat j))) (.int ((bytS.getD 0 []).getD j 0))) := by decide +kernel
theorem fl_e1 : (flN.drop 204).take 9 = (List.range 9).map (fun j => Cond.eq (.elem (.field (tmS 1) "java/lang/String" "value" "[B") (.int (Int32.ofNat j))) (.int ((bytS.getD 1 []).getD j 0))) := by decide +kernel
theorem fl_e2 : (flN.drop 218).take 19 = (List.range 19).map (fun j => Cond.eq (.elem (.field (tmS 2) "java/lang/String" "value" "[B") (.int (Int32.ofNat j))) (.int ((bytS.getD 2 []).getD j 0))) := by decide +kernel
theorem fl_e3 : (flN.drop 243).take 16 = (List.range 16).map (fun j => Cond.eq (.elem (.field (tmS 3) "java/lang/String" "value" "[B") (.int (Int32.ofNat j))) (.int ((bytS.getD 3 []).getD j 0))) := by decide +kernel
theorem fl_e4 : (flN.drop 266).take 15 = (List.range 15).map (fun j => Cond.eq (.elem (.field (tmS 4) "java/lang/String" "value" "[B") (.int (Int32.ofNat j))) (.int ((bytS.getD 4 []).getD j 0))) := by decide +kernel
theorem fl_e5 : (flN.drop 289).take 19 = (List.range 19).map (fun j => Cond.eq (.elem (.field (tmS 5) "java/lang/String" "value" "[B") (.int (Int32.ofNat j))) (.int ((bytS.getD 5 []).getD j 0))) := by decide +kernel
theorem fl_el : ∀ i, i < 6 → ∀ j, j < lenS.getD i 0 → Cond.eq (.elem (.field (tmS i) "java/lang/String" "value" "[B") (.int (Int32.ofNat j))) (.int ((bytS.getD i []).getD j 0)) ∈ flN := by
  intro i hi j hj
  match i, hi, hj with
  | 0, _, hj => exact List.mem_of_mem_drop (List.mem_of_mem_take (by rw [fl_e0]; exact List.mem_map.mpr ⟨j, List.mem_range.mpr hj, rfl⟩))
  | 1, _, hj => exact List.mem_of_mem_drop (List.mem_of_mem_take (by rw [fl_e1]; exact List.mem_map.mpr ⟨j, List.mem_range.mpr hj, rfl⟩))
  | 2, _, hj => exact List.mem_of_mem_drop (List.mem_of_mem_take (by rw [fl_e2]; exact List.mem_map.mpr ⟨j, List.mem_range.mpr hj, rfl⟩))
  | 3, _, hj => exact List.mem_of_mem_drop (List.mem_of_mem_take (by rw [fl_e3]; exact List.mem_map.mpr ⟨j, List.mem_range.mpr hj, rfl⟩))
  | 4, _, hj => exact List.mem_of_mem_drop (List.mem_of_mem_take (by rw [fl_e4]; exact List.mem_map.mpr ⟨j, List.mem_range.mpr hj, rfl⟩))
  | 5, _, hj => exact List.mem_of_mem_drop (List.mem_of_mem_take (by rw [fl_e5]; exact List.mem_map.mpr ⟨j, List.mem_range.mpr hj, rfl⟩))
theorem fl_ne : ∀ i, i < 6 → ∀ j, j < 6 → i ≠ j → Cond.not (Cond.eq (tmS i) (tmS j)) ∈ flN ∨ Cond.not (Cond.eq (tmS j) (tmS i)) ∈ flN := by decide +kernel
theorem fl_len : ∀ i, i < 6 → lenS.getD i 0 < 2 ^ 31 := by decide +kernel
theorem fl_cs : Cond.eq (.static "java/lang/String" "COMPACT_STRINGS" "Z") (.int 1) ∈ flN := by decide +kernel
theorem fl_si : Cond.isRef (.static "jdk/internal/util/Preconditions" "SIOOBE_FORMATTER" "Ljava/util/function/BiFunction;") ∈ flN := by decide +kernel
theorem fl_us : Cond.isRef (.static Bundle.tN "UNASSIGNED_STACK" Bundle.steD) ∈ flN := by decide +kernel
theorem fl_ss : Cond.isRef (.static Bundle.tN "SUPPRESSED_SENTINEL" Bundle.listD) ∈ flN := by decide +kernel
theorem lt_cs : Cond.laysStatic "java/lang/String" "COMPACT_STRINGS" "Z" ∈ lw_tbl := List.mem_append_right _ (List.mem_of_getElem? (i := 244) (by decide +kernel))
theorem lt_si : Cond.laysStatic "jdk/internal/util/Preconditions" "SIOOBE_FORMATTER" "Ljava/util/function/BiFunction;" ∈ lw_tbl := List.mem_append_right _ (List.mem_of_getElem? (i := 260) (by decide +kernel))
theorem lt_us : Cond.laysStatic Bundle.tN "UNASSIGNED_STACK" Bundle.steD ∈ lw_tbl := List.mem_append_right _ (List.mem_of_getElem? (i := 913) (by decide +kernel))
theorem lt_ss : Cond.laysStatic Bundle.tN "SUPPRESSED_SENTINEL" Bundle.listD ∈ lw_tbl := List.mem_append_right _ (List.mem_of_getElem? (i := 915) (by decide +kernel))
theorem lt_is : Cond.initialized "java/lang/String" ∈ lw_tbl := List.mem_append_right _ (List.mem_of_getElem? (i := 12) (by decide +kernel))
theorem lt_ip : Cond.initialized "jdk/internal/util/Preconditions" ∈ lw_tbl := List.mem_append_right _ (List.mem_of_getElem? (i := 14) (by decide +kernel))
theorem lt_it : Cond.initialized Bundle.tN ∈ lw_tbl := List.mem_append_right _ (List.mem_of_getElem? (i := 20) (by decide +kernel))
theorem lt_s0 : Cond.stringRef RX10 35 evT0 ∈ lw_tbl := List.mem_append_right _ (List.mem_of_getElem? (i := 234) (by decide +kernel))
theorem lt_s1 : Cond.stringRef RX10 85 evT1 ∈ lw_tbl := List.mem_append_right _ (List.mem_of_getElem? (i := 479) (by decide +kernel))
theorem lt_s2 : Cond.stringRef RX11 91 evT2 ∈ lw_tbl := List.mem_append_right _ (List.mem_of_getElem? (i := 927) (by decide +kernel))
theorem lt_s3 : Cond.stringRef RX11 108 evT3 ∈ lw_tbl := List.mem_append_right _ (List.mem_of_getElem? (i := 1135) (by decide +kernel))
theorem lt_s4 : Cond.stringRef RX11 116 evT4 ∈ lw_tbl := List.mem_append_right _ (List.mem_of_getElem? (i := 1158) (by decide +kernel))
theorem lt_s5 : Cond.stringRef RX11 151 evT5 ∈ lw_tbl := List.mem_append_right _ (List.mem_of_getElem? (i := 1254) (by decide +kernel))
theorem lt_n0 : Cond.methodLinkNest RX11 15 yX1_init RX11 ∈ lw_tbl := List.mem_append_right _ (List.mem_of_getElem? (i := 36) (by decide +kernel))
theorem lt_n1 : Cond.methodLinkNest RX1 18 yX7_init RX11 ∈ lw_tbl := List.mem_append_right _ (List.mem_of_getElem? (i := 43) (by decide +kernel))
theorem lt_n2 : Cond.methodLinkNest RX1 25 yX5_init RX11 ∈ lw_tbl := List.mem_append_right _ (List.mem_of_getElem? (i := 66) (by decide +kernel))
theorem lt_n3 : Cond.methodLinkNest RX1 32 yX9_init RX11 ∈ lw_tbl := List.mem_append_right _ (List.mem_of_getElem? (i := 91) (by decide +kernel))
theorem lt_n4 : Cond.methodLinkNest RX2 17 yX3_init RX11 ∈ lw_tbl := List.mem_append_right _ (List.mem_of_getElem? (i := 135) (by decide +kernel))
theorem lt_n5 : Cond.methodLinkNest RX0 11 yX6_init RX11 ∈ lw_tbl := List.mem_append_right _ (List.mem_of_getElem? (i := 182) (by decide +kernel))
theorem lt_n6 : Cond.methodLinkNest RX0 30 yX4_init RX11 ∈ lw_tbl := List.mem_append_right _ (List.mem_of_getElem? (i := 204) (by decide +kernel))
theorem law_ev {args : Array Value} {s : State} {A : Nat → Prop} (hts : ∀ w ∈ lw_tbl, w.before args s = true) (hgv : (Jvm.Cond.and given_1 narrow_1).before args s = true) (hA : ∀ a : Nat, a < s.heap.size → ¬ A a) : ∃ adK adV : Nat → Nat, ev adK adV A s s.heap := by
  have hs : ∀ c ∈ flN, c.before args s = true := flat_of_before _ hgv
  obtain ⟨adK, adV, hS6, hev⟩ := vk_Sof (N := 6) (tm := tmS) (len := lenS) (byt := bytS) (A := A) fl_len (fun i hi => hs _ (fl_ex i hi)) (fun i hi => hs _ (fl_co i hi)) (fun i hi => hs _ (fl_ar i hi)) (fun i hi => hs _ (fl_le i hi)) (fun i hi j hj => hs _ (fl_el i hi j hj)) (fun i j hi hj hn => (fl_ne i hi j hj hn).imp (hs _) (hs _)) hA
  refine ⟨adK, adV, hS6, va_Zof (hts _ lt_cs) (hts _ lt_is) (va_eqi (hs _ fl_cs)) hA, va_Zqof (hts _ lt_si) (hts _ lt_ip) (hs _ fl_si) hA, vx_Zqof (hts _ lt_us) (hts _ lt_it) (hs _ fl_us) hA, vx_Zqof (hts _ lt_ss) (hts _ lt_it) (hs _ fl_ss) hA, ?_, ?_, fun w hw => va_Nw.of (evX_on w hw) (hts w (lawX w hw))⟩
  · intro i q e
    match i, e with
    | 0, e => cases e; exact vk_R.of (A := args) (hts _ lt_s0) (hev 0 (by decide))
    | 1, e => cases e; exact vk_R.of (A := args) (hts _ lt_s1) (hev 1 (by decide))
    | 2, e => cases e; exact vk_R.of (A := args) (hts _ lt_s2) (hev 2 (by decide))
    | 3, e => cases e; exact vk_R.of (A := args) (hts _ lt_s3) (hev 3 (by decide))
    | 4, e => cases e; exact vk_R.of (A := args) (hts _ lt_s4) (hev 4 (by decide))
    | 5, e => cases e; exact vk_R.of (A := args) (hts _ lt_s5) (hev 5 (by decide))
    | k + 6, e => exact absurd e (by simp [evK])
  · intro i w e
    match i, e with
    | 0, e => cases e; exact va_Nw.of rfl (hts _ lt_n0)
    | 1, e => cases e; exact va_Nw.of rfl (hts _ lt_n1)
    | 2, e => cases e; exact va_Nw.of rfl (hts _ lt_n2)
    | 3, e => cases e; exact va_Nw.of rfl (hts _ lt_n3)
    | 4, e => cases e; exact va_Nw.of rfl (hts _ lt_n4)
    | 5, e => cases e; exact va_Nw.of rfl (hts _ lt_n5)
    | 6, e => cases e; exact va_Nw.of rfl (hts _ lt_n6)
    | k + 7, e => exact absurd e (by simp [evN])
