-- ===== end of PART A; then your names; then what follows =====
/-! THE CLAIM OUT OF ONE WALK OF THE LAW'S BODY. Your part is whole_start (and what it stands on); all else here is the same for every law, but numbers. -/
def R_law : String := "NapMachineLaw"
def lw_P (b : Addr) (xs : List Int32) (args : Array Value) (s : State) : Prop := args = #[.ref b] ∧ s.IntsAt b xs ∧ xs.length ≤ 3072 ∧ (Jvm.Cond.and given_1 narrow_1).before args s = true
def lw_Q (_ : Array Value) (s : State) (o : Outcome) (t : State) : Prop := o = .returned (some (.int 1)) ∧ Framed s o t [] 601024 7293034
def lw_Z (below : List Frame) (a : Array Value) (s : State) : State → Prop := fun t => ∃ o, t.status = .running ∧ Ended t below o ∧ lw_Q a s o t
/-- the law's own end, with 1 on the stack, nothing written that was there before, its room as the claim has it -/
theorem lw_ret {p : Program} {l : Launch} {e : Env} {s : State} {m : MethodId} {below : List Frame} {meth : Method} {c : Code} {b : Nat} (hx : p.tables.exec = Jvm.exec) (hb : c.code = code) (hr : meth.sig.returnType = ret) (hlocks : meth.locks = false) {pc : Nat} {H : Heap} {ls : Array Slot} (hdg : decode code pc = .ok (.ireturn, 1)) : W p l e room_1 s m #[Value.ref b] below meth c H [] 601024 7293034 (lw_Z below #[Value.ref b] s) (F0 m pc ls [.int 1]) := by
  intro T hT X
  obtain ⟨fs, hret, hrun, hended, hW, hframe⟩ := X.leave (v := some (.int 1)) (hlocks := hlocks) (fun h => by rw [hr] at h; cases h)
  have hmeth' : T.vm.method? m = some meth := X.method'
  refine ⟨T.setFrames fs, ?_, .returned (some (.int 1)), hrun, hended, rfl, ⟨_, rfl⟩, hW, hframe⟩
  jvm_step X.here [X.here.top, hx, hb, hdg, hmeth', hr, ret, narrow_b1]
  (try refine ⟨rfl, ?_⟩); (try refine ⟨rfl, ?_⟩)
  first | (intro acts; rw [hret _ acts rfl rfl rfl]) | rw [hret _ _ rfl rfl rfl]
  exact Steps.refl _
/-- what holds at the law's entry: the machine, the code, the tables' words (any of lw_tbl by 'hts w (by decide +kernel)'), the script of L ints xs at the cell b, what the Statement gives of the start (any of its parts by flat_of_before) -/
def lw_At (p : Program) (s : State) (m : MethodId) (meth : Method) (c : Code) (b L : Nat) (xs : Nat → Int32) : Prop :=
  p.tables.exec = Jvm.exec ∧ c.code = code ∧ meth.sig.returnType = ret ∧ c.maxLocals = 7 ∧ s.vm.findClass R_law = some m.cls ∧ (∀ w ∈ lw_tbl, w.before #[Value.ref b] s = true) ∧ va_X b L xs s s.heap ∧ b < s.heap.size ∧ meth.locks = false ∧ (Jvm.Cond.and given_1 narrow_1).before #[Value.ref b] s = true
theorem law_K {args : Array Value} {s : State} (hG : ∀ w ∈ lw_G, w.before args s = true) : ∃ (dC : Nat → ClassId) (dI : Nat → Nat → Nat), va_K (dC, dI) vwCl [] s := by
  obtain ⟨c0, i0, k0⟩ := u_known (C := RX0) (T := TX0) (N := 17) (n := 17) hG inGX0 (hG (.instantiable RX0 17) wd_175)
  obtain ⟨c1, i1, k1⟩ := u_known (C := RX1) (T := TX1) (N := 4) (n := 4) hG inGX1 (hG (.instantiable RX1 4) wd_35)
  obtain ⟨c2, i2, k2⟩ := u_known (C := RX2) (T := TX2) (N := 8) (n := 8) hG inGX2 (hG (.instantiable RX2 8) wd_128)
  obtain ⟨c3, i3, k3⟩ := u_known (C := RX3) (T := TX3) (N := 3) (n := 3) hG inGX3 (hG (.instantiable RX3 3) wd_134)
  obtain ⟨c4, i4, k4⟩ := u_known (C := RX4) (T := TX4) (N := 4) (n := 4) hG inGX4 (hG (.instantiable RX4 4) wd_203)
  obtain ⟨c5, i5, k5⟩ := u_known (C := RX5) (T := TX5) (N := 6) (n := 6) hG inGX5 (hG (.instantiable RX5 6) wd_65)
  obtain ⟨c6, i6, k6⟩ := u_known (C := RX6) (T := TX6) (N := 5) (n := 5) hG inGX6 (hG (.instantiable RX6 5) wd_181)
  obtain ⟨c7, i7, k7⟩ := u_known (C := RX7) (T := TX7) (N := 5) (n := 5) hG inGX7 (hG (.instantiable RX7 5) wd_42)
  obtain ⟨c8, i8, k8⟩ := u_known (C := RX8) (T := TX8) (N := 5) (n := 5) hG inGX8 (hG (.instantiable RX8 5) wd_374)
  obtain ⟨c9, i9, k9⟩ := u_known (C := RX9) (T := TX9) (N := 6) (n := 6) hG inGX9 (hG (.instantiable RX9 6) wd_90)
  obtain ⟨c10, i10, k10⟩ := u_known (C := RX10) (T := TX10) (N := 12) (n := 12) hG inGX10 (hG (.instantiable RX10 12) wd_223)
  obtain ⟨c11, i11, k11⟩ := u_known (C := RX11) (T := TX11) (N := 7) (n := 7) hG inGX11 (hG (.instantiable RX11 7) wd_27)
  obtain ⟨c12, i12, k12⟩ := u_known (C := RX12) (T := TX12) (N := 72) (n := 72) hG inGX12 (hG (.instantiable RX12 72) wd_1266)
  refine ⟨fun k => if k = 0 then c0 else if k = 1 then c1 else if k = 2 then c2 else if k = 3 then c3 else if k = 4 then c4 else if k = 5 then c5 else if k = 6 then c6 else if k = 7 then c7 else if k = 8 then c8 else if k = 9 then c9 else if k = 10 then c10 else if k = 11 then c11 else c12, fun k => if k = 0 then i0 else if k = 1 then i1 else if k = 2 then i2 else if k = 3 then i3 else if k = 4 then i4 else if k = 5 then i5 else if k = 6 then i6 else if k = 7 then i7 else if k = 8 then i8 else if k = 9 then i9 else if k = 10 then i10 else if k = 11 then i11 else i12, ?_, fun k q h => by simp at h⟩
  intro k q hq
  match k, hq with
  | 0, hq => cases hq; exact k0
  | 1, hq => cases hq; exact k1
  | 2, hq => cases hq; exact k2
  | 3, hq => cases hq; exact k3
  | 4, hq => cases hq; exact k4
  | 5, hq => cases hq; exact k5
  | 6, hq => cases hq; exact k6
  | 7, hq => cases hq; exact k7
  | 8, hq => cases hq; exact k8
  | 9, hq => cases hq; exact k9
  | 10, hq => cases hq; exact k10
  | 11, hq => cases hq; exact k11
  | 12, hq => cases hq; exact k12
  | k + 13, hq => simp [vwCl] at hq
theorem hev0 {x : Option Value} {a : Nat} (h : x = some (.ref a)) : x = some (.ref a) := h
def tmL : List Term := [Term.string "NapMachine$Tokens" 35, Term.string "NapMachine$Tokens" 85, Term.string "NapMachine" 91, Term.string "NapMachine" 108, Term.string "NapMachine" 116, Term.string "NapMachine" 151]
def tmS (i : Nat) : Term := tmL.getD i (.arg 0)
theorem lawX : ∀ w ∈ evX, w ∈ lw_tbl := by
  have h : ∀ w ∈ evX, w ∈ ([888, 889, 890, 891, 892, 893, 894, 1128, 1247, 1871, 1872, 1873, 1874, 1875, 1876, 1877, 1878, 1879, 1880, 1881, 1882, 1883, 1884, 1885, 1886, 1887, 1888] : List Nat).filterMap (fun i => tables_1[i]?) := by decide +kernel
  intro w hw
  obtain ⟨i, -, hi⟩ := List.mem_filterMap.mp (h w hw)
  exact List.mem_append_right _ (List.mem_of_getElem? hi)
def flN : List Cond := flatC (Jvm.Cond.and given_1 narrow_1)
theorem fl_ex : ∀ i, i < 6 → Cond.exactly (tmS i) "java/lang/String" ∈ flN := by decide +kernel
theorem fl_co : ∀ i, i < 6 → Cond.eq (.field (tmS i) "java/lang/String" "coder" "B") (.int 0) ∈ flN := by decide +kernel
theorem fl_ar : ∀ i, i < 6 → Cond.arrayOf (.field (tmS i) "java/lang/String" "value" "[B") .byte ∈ flN := by decide +kernel
theorem fl_le : ∀ i, i < 6 → Cond.eq (.length (.field (tmS i) "java/lang/String" "value" "[B")) (.int (Int32.ofNat (lenS.getD i 0))) ∈ flN := by decide +kernel
theorem fl_e0 : (flN.drop 60).take 140 = (List.range 140).map (fun j => Cond.eq (.elem (.field (tmS 0) "java/lang/String" "value" "[B") (.int (Int32.ofNat j))) (.int ((bytS.getD 0 []).getD j 0))) := by decide +kernel
theorem fl_e1 : (flN.drop 204).take 9 = (List.range 9).map (fun j => Cond.eq (.elem (.field (tmS 1) "java/lang/String" "value" "[B") (.int (Int32.ofNat j))) (.int ((bytS.getD 1 []).getD j 0))) := by decide +kernel
theorem fl_e2 : (flN.drop 218).take 19 = (List.range 19).map (fun j => Cond.eq (.elem (.field (tmS 2) "java/lang/String" "value" "[B") (.int (Int32.ofNat j))) (.int ((bytS.getD 2 []).getD j 0))) := by decide +kernel
theorem fl_e3 : (flN.drop 243).take 16 = (List.range 16).map (fun j => Cond.eq (.elem (.field (tmS 3) "java/lang/String" "value" "[B") (.int (Int32.ofNat j))) (.int ((bytS.getD 3 []).getD j 0))) := by decide +kernel
theorem fl_e4 : (flN.drop 266).take 15 = (List.range 15).map (fun j => Cond.eq (.elem (.field (tmS 4) "java/lang/String" "value" "[B") (.int (Int32.ofNat j))) (.int ((bytS.getD 4 []).getD j 0))) := by decide +kernel
theorem fl_e5 : (flN.drop 289).take 19 = (List.range 19).map (fun j => Cond.eq (.elem (.field (tmS 5) "java/lang/String" "value" "[B") (.int (Int32.ofNat j))) (.int ((bytS.getD 5 []).getD j 0))) := by decide +kernel
theorem fl_el : ∀ i, i < 6 → ∀ j, j < lenS.getD i 0 → Cond.eq (.elem (.field (tmS i) "java/lang/String" "value" "[B") (.int (Int32.ofNat j))) (.int ((bytS.getD i []).getD j 0)) ∈ flN := by
  intro i hi j hj
  match i, hi, hj with
  | 0, _, hj => exact List.mem_of_mem_drop (List.mem_of_mem_take (by rw [fl_e0]; exact List.mem_map.mpr ⟨j, List.mem_range.mpr hj, rfl⟩))
  | 1, _, hj => exact List.mem_of_mem_drop (List.mem_of_mem_take (by rw [fl_e1]; exact List.mem_map.mpr ⟨j, List.mem_range.mpr hj, rfl⟩))
  | 2, _, hj => exact List.mem_of_mem_drop (List.mem_of_mem_take (by rw [fl_e2]; exact List.mem_map.mpr ⟨j, List.mem_range.mpr hj, rfl⟩))
  | 3, _, hj => exact List.mem_of_mem_drop (List.mem_of_mem_take (by rw [fl_e3]; exact List.mem_map.mpr ⟨j, List.mem_range.mpr hj, rfl⟩))
  | 4, _, hj => exact List.mem_of_mem_drop (List.mem_of_mem_take (by rw [fl_e4]; exact List.mem_map.mpr ⟨j, List.mem_range.mpr hj, rfl⟩))
  | 5, _, hj => exact List.mem_of_mem_drop (List.mem_of_mem_take (by rw [fl_e5]; exact List.mem_map.mpr ⟨j, List.mem_range.mpr hj, rfl⟩))
theorem fl_ne : ∀ i, i < 6 → ∀ j, j < 6 → i ≠ j → Cond.not (Cond.eq (tmS i) (tmS j)) ∈ flN ∨ Cond.not (Cond.eq (tmS j) (tmS i)) ∈ flN := by decide +kernel
theorem fl_len : ∀ i, i < 6 → lenS.getD i 0 < 2 ^ 31 := by decide +kernel
theorem fl_cs : Cond.eq (.static "java/lang/String" "COMPACT_STRINGS" "Z") (.int 1) ∈ flN := by decide +kernel
theorem fl_si : Cond.isRef (.static "jdk/internal/util/Preconditions" "SIOOBE_FORMATTER" "Ljava/util/function/BiFunction;") ∈ flN := by decide +kernel
theorem fl_us : Cond.isRef (.static Bundle.tN "UNASSIGNED_STACK" Bundle.steD) ∈ flN := by decide +kernel
theorem fl_ss : Cond.isRef (.static Bundle.tN "SUPPRESSED_SENTINEL" Bundle.listD) ∈ flN := by decide +kernel
theorem lt_cs : Cond.laysStatic "java/lang/String" "COMPACT_STRINGS" "Z" ∈ lw_tbl := List.mem_append_right _ (List.mem_of_getElem? (i := 244) (by decide +kernel))
theorem lt_si : Cond.laysStatic "jdk/internal/util/Preconditions" "SIOOBE_FORMATTER" "Ljava/util/function/BiFunction;" ∈ lw_tbl := List.mem_append_right _ (List.mem_of_getElem? (i := 260) (by decide +kernel))
theorem lt_us : Cond.laysStatic Bundle.tN "UNASSIGNED_STACK" Bundle.steD ∈ lw_tbl := List.mem_append_right _ (List.mem_of_getElem? (i := 913) (by decide +kernel))
theorem lt_ss : Cond.laysStatic Bundle.tN "SUPPRESSED_SENTINEL" Bundle.listD ∈ lw_tbl := List.mem_append_right _ (List.mem_of_getElem? (i := 915) (by decide +kernel))
theorem lt_is : Cond.initialized "java/lang/String" ∈ lw_tbl := List.mem_append_right _ (List.mem_of_getElem? (i := 12) (by decide +kernel))
theorem lt_ip : Cond.initialized "jdk/internal/util/Preconditions" ∈ lw_tbl := List.mem_append_right _ (List.mem_of_getElem? (i := 14) (by decide +kernel))
theorem lt_it : Cond.initialized Bundle.tN ∈ lw_tbl := List.mem_append_right _ (List.mem_of_getElem? (i := 20) (by decide +kernel))
theorem lt_s0 : Cond.stringRef RX10 35 evT0 ∈ lw_tbl := List.mem_append_right _ (List.mem_of_getElem? (i := 234) (by decide +kernel))
theorem lt_s1 : Cond.stringRef RX10 85 evT1 ∈ lw_tbl := List.mem_append_right _ (List.mem_of_getElem? (i := 479) (by decide +kernel))
theorem lt_s2 : Cond.stringRef RX11 91 evT2 ∈ lw_tbl := List.mem_append_right _ (List.mem_of_getElem? (i := 927) (by decide +kernel))
theorem lt_s3 : Cond.stringRef RX11 108 evT3 ∈ lw_tbl := List.mem_append_right _ (List.mem_of_getElem? (i := 1135) (by decide +kernel))
theorem lt_s4 : Cond.stringRef RX11 116 evT4 ∈ lw_tbl := List.mem_append_right _ (List.mem_of_getElem? (i := 1158) (by decide +kernel))
theorem lt_s5 : Cond.stringRef RX11 151 evT5 ∈ lw_tbl := List.mem_append_right _ (List.mem_of_getElem? (i := 1254) (by decide +kernel))
theorem lt_n0 : Cond.methodLinkNest RX11 15 yX1_init RX11 ∈ lw_tbl := List.mem_append_right _ (List.mem_of_getElem? (i := 36) (by decide +kernel))
theorem lt_n1 : Cond.methodLinkNest RX1 18 yX7_init RX11 ∈ lw_tbl := List.mem_append_right _ (List.mem_of_getElem? (i := 43) (by decide +kernel))
theorem lt_n2 : Cond.methodLinkNest RX1 25 yX5_init RX11 ∈ lw_tbl := List.mem_append_right _ (List.mem_of_getElem? (i := 66) (by decide +kernel))
theorem lt_n3 : Cond.methodLinkNest RX1 32 yX9_init RX11 ∈ lw_tbl := List.mem_append_right _ (List.mem_of_getElem? (i := 91) (by decide +kernel))
theorem lt_n4 : Cond.methodLinkNest RX2 17 yX3_init RX11 ∈ lw_tbl := List.mem_append_right _ (List.mem_of_getElem? (i := 135) (by decide +kernel))
theorem lt_n5 : Cond.methodLinkNest RX0 11 yX6_init RX11 ∈ lw_tbl := List.mem_append_right _ (List.mem_of_getElem? (i := 182) (by decide +kernel))
theorem lt_n6 : Cond.methodLinkNest RX0 30 yX4_init RX11 ∈ lw_tbl := List.mem_append_right _ (List.mem_of_getElem? (i := 204) (by decide +kernel))
theorem law_ev {args : Array Value} {s : State} {A : Nat → Prop} (hts : ∀ w ∈ lw_tbl, w.before args s = true) (hgv : (Jvm.Cond.and given_1 narrow_1).before args s = true) (hA : ∀ a : Nat, a < s.heap.size → ¬ A a) : ∃ adK adV : Nat → Nat, ev adK adV A s s.heap := by
  have hs : ∀ c ∈ flN, c.before args s = true := flat_of_before _ hgv
  obtain ⟨adK, adV, hS6, hev⟩ := vk_Sof (N := 6) (tm := tmS) (len := lenS) (byt := bytS) (A := A) fl_len (fun i hi => hs _ (fl_ex i hi)) (fun i hi => hs _ (fl_co i hi)) (fun i hi => hs _ (fl_ar i hi)) (fun i hi => hs _ (fl_le i hi)) (fun i hi j hj => hs _ (fl_el i hi j hj)) (fun i j hi hj hn => (fl_ne i hi j hj hn).imp (hs _) (hs _)) hA
  refine ⟨adK, adV, hS6, va_Zof (hts _ lt_cs) (hts _ lt_is) (va_eqi (hs _ fl_cs)) hA, va_Zqof (hts _ lt_si) (hts _ lt_ip) (hs _ fl_si) hA, vx_Zqof (hts _ lt_us) (hts _ lt_it) (hs _ fl_us) hA, vx_Zqof (hts _ lt_ss) (hts _ lt_it) (hs _ fl_ss) hA, ?_, ?_, fun w hw => va_Nw.of (evX_on w hw) (hts w (lawX w hw))⟩
  · intro i q e
    match i, e with
    | 0, e => cases e; exact vk_R.of (A := args) (hts _ lt_s0) (hev 0 (by decide))
    | 1, e => cases e; exact vk_R.of (A := args) (hts _ lt_s1) (hev 1 (by decide))
    | 2, e => cases e; exact vk_R.of (A := args) (hts _ lt_s2) (hev 2 (by decide))
    | 3, e => cases e; exact vk_R.of (A := args) (hts _ lt_s3) (hev 3 (by decide))
    | 4, e => cases e; exact vk_R.of (A := args) (hts _ lt_s4) (hev 4 (by decide))
    | 5, e => cases e; exact vk_R.of (A := args) (hts _ lt_s5) (hev 5 (by decide))
    | k + 6, e => exact absurd e (by simp [evK])
  · intro i w e
    match i, e with
    | 0, e => cases e; exact va_Nw.of rfl (hts _ lt_n0)
    | 1, e => cases e; exact va_Nw.of rfl (hts _ lt_n1)
    | 2, e => cases e; exact va_Nw.of rfl (hts _ lt_n2)
    | 3, e => cases e; exact va_Nw.of rfl (hts _ lt_n3)
    | 4, e => cases e; exact va_Nw.of rfl (hts _ lt_n4)
    | 5, e => cases e; exact va_Nw.of rfl (hts _ lt_n5)
    | 6, e => cases e; exact va_Nw.of rfl (hts _ lt_n6)
    | k + 7, e => exact absurd e (by simp [evN])
set_option maxRecDepth 100000 in
def LawHeadB (p : Program) (l : Launch) (e : Env) (s : State) (m : MethodId) (below : List Frame) (meth : Method) (c : Code) (b L : Nat) (A : Nat → Prop) (dC : Nat → ClassId) (dI : Nat → Nat → Nat) (n : Nat) (hI d : Int) (pc : Nat) (cc ss : Nat) (i : Int32) (h0 h1 h2 h3 h4 h5 h6 h7 h8 h9 h10 h11 h12 h13 h14 h15 h16 h17 h18 h19 h20 h21 h22 h23 h24 h25 h26 h27 h28 h29 h30 h31 h32 h33 h34 h35 h36 h37 h38 h39 h40 h41 h42 h43 h44 h45 h46 h47 h48 h49 h50 h51 h52 h53 : Nat) (y0 y1 y2 y3 y4 y5 y6 y7 y8 y9 y10 y11 y12 y13 y14 y15 y16 y17 y18 y19 y20 y21 y22 y23 y24 y25 y26 y27 y28 y29 y30 y31 y32 y33 y34 y35 y36 y37 y38 : ClassId) (x0 x1 x2 x3 x4 x5 x6 x7 x8 x9 x10 x11 x12 x13 x14 x15 x16 x17 x18 x19 x20 x21 x22 x23 x24 x25 x27 x28 x29 x30 x31 x32 x33 x34 x35 x36 x37 x38 x39 x40 x41 x42 x43 x44 x45 x46 x47 x48 x49 x50 x51 x52 x53 x54 x55 x56 x57 x58 x59 x60 x61 x62 x63 x64 x65 x66 x67 x68 x69 x70 x71 x72 x73 x74 x75 x76 x77 x78 x79 x80 x81 x82 x83 x84 x85 x86 x87 x88 x89 x90 x91 x92 x93 x94 x95 x96 x97 x98 x99 x100 x101 x102 x103 x104 x105 x106 : Int32) (z0 z1 : Int64) (f0 f1 f2 f3 f4 f5 f6 f7 f8 f9 f10 f11 f12 f13 f14 f15 f16 f17 f18 f19 f20 f21 f22 f23 f24 f25 f26 f27 f28 f29 f30 f31 : Nat → Int32) (g0 g1 g2 g3 g4 g5 g6 : Nat → Int64) (H : Heap) (locs : List Loc) (ls : Array Slot) : Prop :=
  (cc + n ≤ 600000) →
  (ss + 6 * n ≤ 7290000) →
  (iv i 0 hI) →
  (i.toInt + d ≤ (L : Int)) →
  ((L : Int) - i.toInt < 6 * (n : Int)) →
  (iv x0 0 2600) →
  (iv x17 0 1) →
  (iv x18 0 40) →
  (iv x23 0 65535) →
  (iv x24 0 1) →
  (iv x25 0 1) →
  (iv x27 0 2600) →
  (iv x28 0 2500) →
  (iv x29 0 2500) →
  (iv x33 0 1048575) →
  (iv x34 0 60) →
  (iv x35 0 60) →
  (iv x36 0 1) →
  (iv x37 0 1) →
  (iv x38 0 65535) →
  (iv x43 0 5200) →
  (iv x44 0 70800) →
  (iv x48 0 1) →
  (iv x49 0 1) →
  (iv x51 0 100) →
  (iv x55 0 1) →
  (iv x60 0 1) →
  (iv x61 0 2600) →
  (iv x62 0 1) →
  (iv x68 0 1) →
  (iv x71 0 64) →
  (iv x88 0 1) →
  (iv x89 0 40) →
  (iv x90 0 2600) →
  (iv x91 0 2501) →
  (iv x92 0 2500) →
  (iv x98 0 1) →
  (iv x99 0 1) →
  (iv x103 0 1) →
  (iv x104 0 1) →
  (iv x105 0 60) →
  (iv x106 0 60) →
  (∀ j, iv (f1 j) (-128) 127) →
  (∀ j, iv (f2 j) 0 65535) →
  (∀ j, iv (f7 j) (-128) 127) →
  (∀ j, iv (f8 j) 0 48) →
  (∀ j, iv (f13 j) 0 65535) →
  (∀ j, iv (f14 j) (-128) 127) →
  (∀ j, iv (f15 j) (-128) 127) →
  (f8 0 = 0) →
  (f8 1 = 1) →
  (f8 2 = 2) →
  (f8 3 = 3) →
  (f8 4 = 4) →
  (f8 5 = 5) →
  (f8 6 = 6) →
  (f8 7 = 7) →
  (f8 8 = 8) →
  (f8 9 = 9) →
  (f8 10 = 10) →
  (f8 11 = 11) →
  (f8 12 = 20) →
  (f8 13 = 21) →
  (f8 14 = 22) →
  (f8 15 = 23) →
  (f8 16 = 24) →
  (f8 17 = 25) →
  (f8 18 = 30) →
  (f8 19 = 31) →
  (f8 20 = 32) →
  (f8 21 = 33) →
  (f8 22 = 34) →
  (f8 23 = 35) →
  (f8 24 = 36) →
  (f8 25 = 37) →
  (f8 26 = 40) →
  (f8 27 = 41) →
  (f8 28 = 42) →
  (f8 29 = 43) →
  (f8 30 = 44) →
  (f8 31 = 45) →
  (f8 32 = 46) →
  (f8 33 = 47) →
  (f8 34 = 48) →
  (va_K (dC, dI) vwCl [(y0, .long), (y1, .int), (y2, .byte), (y3, .int), (y4, .int), (y5, .int), (y6, .int), (y7, .int), (y8, .byte), (y9, .long), (y10, .int), (y11, .long), (y12, .int), (y13, .int), (y14, .int), (y15, .int), (y16, .int), (y17, .byte), (y18, .byte), (y19, .int), (y20, .int), (y21, .int), (y22, .int), (y23, .int), (y24, .int), (y25, .int), (y26, .int), (y27, .int), (y28, .int), (y29, .int), (y30, .int), (y31, .long), (y32, .long), (y33, .long), (y34, .int), (y35, .int), (y36, .long), (y37, .int), (y38, .int)] s) →
  (va_P (dC, dI) vwCl [(h0, .inr (11, [.ref h3, .ref h4, .ref h5, .ref h6, .ref h7, .int x0, .int x1])), (h1, .inr (12, .int x2 :: .ref h8 :: .ref h9 :: .int x3 :: .int x4 :: .int x5 :: .int x6 :: .int x7 :: .int x8 :: .int x9 :: .int x10 :: .int x11 :: [.int x12, .int x13, .int x14, .int x15, .int x16, .int x17, .ref h10, .ref h11, .ref h12, .ref h13, .int x18, .int x19, .int x20, .int x21, .int x22, .int x23, .int x24, .int x25, .ref h14, .int x0, .int x27, .int x28, .int x29, .ref h15, .ref h16, .int x30, .int x31, .long z0, .int x32, .int x33, .ref h17, .ref h18, .ref h19, .ref h20, .ref h21, .int x34, .int x35, .int x36, .int x37, .int x38, .int x39, .int x40, .int x41, .int x42, .ref h22, .ref h23, .int x43, .int x44, .int x45, .int x46, .int x47, .int x48, .int x49, .int x50, .ref h24, .int x51, .int x52, .int x53, .int x54, .int x55])), (h2, .inl (y0, 1, .inr (.inl g0))), (h3, .inl (y1, 2600, .inl f0)), (h4, .inr (1, [.ref h25, .ref h26, .ref h27, .ref h28])), (h5, .inr (2, [.ref h29, .ref h30, .ref h4, .int x56, .int x57, .int x58, .int x59, .int x60])), (h6, .inr (0, [.ref h31, .ref h32, .ref h33, .ref h34, .ref h35, .ref h36, .ref h37, .int x61, .int x62, .int x63, .int x64, .int x65, .int x66, .int x67, .int x68, .int x69, .int x70])), (h7, .inr (8, [.ref h38, .ref h4, .int x71, .int x72, .int x73])), (h8, .inl (y2, 65536, .inl f1)), (h9, .inl (y3, 16, .inl f2)), (h10, .inl (y4, 3, .inl f3)), (h11, .inl (y5, 3, .inl f4)), (h12, .inl (y6, 40, .inl f5)), (h13, .inl (y7, 40, .inl f6)), (h14, .inl (y8, 2600, .inl f7)), (h15, .inl (y9, 35, .inr (.inl g1))), (h16, .inl (y10, 35, .inl f8)), (h17, .inl (y11, 60, .inr (.inl g2))), (h18, .inl (y12, 60, .inl f9)), (h19, .inl (y13, 60, .inl f10)), (h20, .inl (y14, 60, .inl f11)), (h21, .inl (y15, 60, .inl f12)), (h22, .inl (y16, 5200, .inl f13)), (h23, .inl (y17, 5200, .inl f14)), (h24, .inl (y18, 100, .inl f15)), (h25, .inl (y19, 32768, .inl f16)), (h26, .inr (7, [.int x74, .int x75, .int x76, .int x77, .int x78])), (h27, .inr (5, [.int x79, .int x80, .int x81, .int x82, .int x83, .int x84])), (h28, .inr (9, [.ref h39, .ref h40, .int x85, .int x86, .int x87, .int x88])), (h29, .inl (y20, 16, .inl f17)), (h30, .inr (3, [.ref h41, .ref h42, .int x89])), (h31, .inr (10, [.ref h43, .ref h44, .ref h45, .ref h46, .ref h47, .ref h3, .int x90, .int x91, .int x92, .int x93, .int x94, .long z1])), (h32, .inr (6, [.int x95, .int x96, .int x97, .int x98, .int x99])), (h33, .inr (6, [.int x100, .int x101, .int x102, .int x103, .int x104])), (h34, .inl (y21, 2600, .inl f18)), (h35, .inl (y22, 2600, .inl f19)), (h36, .inr (4, [.ref h48, .ref h49, .ref h50, .int x105])), (h37, .inr (4, [.ref h51, .ref h52, .ref h53, .int x106])), (h38, .inl (y23, 64, .inl f20)), (h39, .inl (y24, 3, .inl f21)), (h40, .inl (y25, 3, .inl f22)), (h41, .inl (y26, 40, .inl f23)), (h42, .inl (y27, 40, .inl f24)), (h43, .inl (y28, 2501, .inl f25)), (h44, .inl (y29, 2501, .inl f26)), (h45, .inl (y30, 2501, .inl f27)), (h46, .inl (y31, 2501, .inr (.inl g3))), (h47, .inl (y32, 35, .inr (.inl g4))), (h48, .inl (y33, 60, .inr (.inl g5))), (h49, .inl (y34, 60, .inl f28)), (h50, .inl (y35, 60, .inl f29)), (h51, .inl (y36, 60, .inr (.inl g6))), (h52, .inl (y37, 60, .inl f30)), (h53, .inl (y38, 60, .inl f31))] H) →
  (va_D A [(h0, .inr (11, [.ref h3, .ref h4, .ref h5, .ref h6, .ref h7, .int x0, .int x1])), (h1, .inr (12, .int x2 :: .ref h8 :: .ref h9 :: .int x3 :: .int x4 :: .int x5 :: .int x6 :: .int x7 :: .int x8 :: .int x9 :: .int x10 :: .int x11 :: [.int x12, .int x13, .int x14, .int x15, .int x16, .int x17, .ref h10, .ref h11, .ref h12, .ref h13, .int x18, .int x19, .int x20, .int x21, .int x22, .int x23, .int x24, .int x25, .ref h14, .int x0, .int x27, .int x28, .int x29, .ref h15, .ref h16, .int x30, .int x31, .long z0, .int x32, .int x33, .ref h17, .ref h18, .ref h19, .ref h20, .ref h21, .int x34, .int x35, .int x36, .int x37, .int x38, .int x39, .int x40, .int x41, .int x42, .ref h22, .ref h23, .int x43, .int x44, .int x45, .int x46, .int x47, .int x48, .int x49, .int x50, .ref h24, .int x51, .int x52, .int x53, .int x54, .int x55])), (h2, .inl (y0, 1, .inr (.inl g0))), (h3, .inl (y1, 2600, .inl f0)), (h4, .inr (1, [.ref h25, .ref h26, .ref h27, .ref h28])), (h5, .inr (2, [.ref h29, .ref h30, .ref h4, .int x56, .int x57, .int x58, .int x59, .int x60])), (h6, .inr (0, [.ref h31, .ref h32, .ref h33, .ref h34, .ref h35, .ref h36, .ref h37, .int x61, .int x62, .int x63, .int x64, .int x65, .int x66, .int x67, .int x68, .int x69, .int x70])), (h7, .inr (8, [.ref h38, .ref h4, .int x71, .int x72, .int x73])), (h8, .inl (y2, 65536, .inl f1)), (h9, .inl (y3, 16, .inl f2)), (h10, .inl (y4, 3, .inl f3)), (h11, .inl (y5, 3, .inl f4)), (h12, .inl (y6, 40, .inl f5)), (h13, .inl (y7, 40, .inl f6)), (h14, .inl (y8, 2600, .inl f7)), (h15, .inl (y9, 35, .inr (.inl g1))), (h16, .inl (y10, 35, .inl f8)), (h17, .inl (y11, 60, .inr (.inl g2))), (h18, .inl (y12, 60, .inl f9)), (h19, .inl (y13, 60, .inl f10)), (h20, .inl (y14, 60, .inl f11)), (h21, .inl (y15, 60, .inl f12)), (h22, .inl (y16, 5200, .inl f13)), (h23, .inl (y17, 5200, .inl f14)), (h24, .inl (y18, 100, .inl f15)), (h25, .inl (y19, 32768, .inl f16)), (h26, .inr (7, [.int x74, .int x75, .int x76, .int x77, .int x78])), (h27, .inr (5, [.int x79, .int x80, .int x81, .int x82, .int x83, .int x84])), (h28, .inr (9, [.ref h39, .ref h40, .int x85, .int x86, .int x87, .int x88])), (h29, .inl (y20, 16, .inl f17)), (h30, .inr (3, [.ref h41, .ref h42, .int x89])), (h31, .inr (10, [.ref h43, .ref h44, .ref h45, .ref h46, .ref h47, .ref h3, .int x90, .int x91, .int x92, .int x93, .int x94, .long z1])), (h32, .inr (6, [.int x95, .int x96, .int x97, .int x98, .int x99])), (h33, .inr (6, [.int x100, .int x101, .int x102, .int x103, .int x104])), (h34, .inl (y21, 2600, .inl f18)), (h35, .inl (y22, 2600, .inl f19)), (h36, .inr (4, [.ref h48, .ref h49, .ref h50, .int x105])), (h37, .inr (4, [.ref h51, .ref h52, .ref h53, .int x106])), (h38, .inl (y23, 64, .inl f20)), (h39, .inl (y24, 3, .inl f21)), (h40, .inl (y25, 3, .inl f22)), (h41, .inl (y26, 40, .inl f23)), (h42, .inl (y27, 40, .inl f24)), (h43, .inl (y28, 2501, .inl f25)), (h44, .inl (y29, 2501, .inl f26)), (h45, .inl (y30, 2501, .inl f27)), (h46, .inl (y31, 2501, .inr (.inl g3))), (h47, .inl (y32, 35, .inr (.inl g4))), (h48, .inl (y33, 60, .inr (.inl g5))), (h49, .inl (y34, 60, .inl f28)), (h50, .inl (y35, 60, .inl f29)), (h51, .inl (y36, 60, .inr (.inl g6))), (h52, .inl (y37, 60, .inl f30)), (h53, .inl (y38, 60, .inl f31))]) →
  (va_S A s.heap H locs) →
  (lv_has ls 7 [(4, .int i), (3, .ref h2), (2, .ref h1), (1, .ref h0), (0, .ref b)]) →
  W p l e room_1 s m #[Value.ref b] below meth c H locs cc ss (lw_Z below #[Value.ref b] s) (F0 m pc ls [])
set_option maxRecDepth 100000 in
def LawHead (p : Program) (l : Launch) (e : Env) (s : State) (m : MethodId) (below : List Frame) (meth : Method) (c : Code) (b L : Nat) (A : Nat → Prop) (dC : Nat → ClassId) (dI : Nat → Nat → Nat) (n : Nat) (hI d : Int) (pc : Nat) : Prop := ∀ (cc ss : Nat) (i : Int32) (h0 h1 h2 h3 h4 h5 h6 h7 h8 h9 h10 h11 h12 h13 h14 h15 h16 h17 h18 h19 h20 h21 h22 h23 h24 h25 h26 h27 h28 h29 h30 h31 h32 h33 h34 h35 h36 h37 h38 h39 h40 h41 h42 h43 h44 h45 h46 h47 h48 h49 h50 h51 h52 h53 : Nat) (y0 y1 y2 y3 y4 y5 y6 y7 y8 y9 y10 y11 y12 y13 y14 y15 y16 y17 y18 y19 y20 y21 y22 y23 y24 y25 y26 y27 y28 y29 y30 y31 y32 y33 y34 y35 y36 y37 y38 : ClassId) (x0 x1 x2 x3 x4 x5 x6 x7 x8 x9 x10 x11 x12 x13 x14 x15 x16 x17 x18 x19 x20 x21 x22 x23 x24 x25 x27 x28 x29 x30 x31 x32 x33 x34 x35 x36 x37 x38 x39 x40 x41 x42 x43 x44 x45 x46 x47 x48 x49 x50 x51 x52 x53 x54 x55 x56 x57 x58 x59 x60 x61 x62 x63 x64 x65 x66 x67 x68 x69 x70 x71 x72 x73 x74 x75 x76 x77 x78 x79 x80 x81 x82 x83 x84 x85 x86 x87 x88 x89 x90 x91 x92 x93 x94 x95 x96 x97 x98 x99 x100 x101 x102 x103 x104 x105 x106 : Int32) (z0 z1 : Int64) (f0 f1 f2 f3 f4 f5 f6 f7 f8 f9 f10 f11 f12 f13 f14 f15 f16 f17 f18 f19 f20 f21 f22 f23 f24 f25 f26 f27 f28 f29 f30 f31 : Nat → Int32) (g0 g1 g2 g3 g4 g5 g6 : Nat → Int64) (H : Heap) (locs : List Loc) (ls : Array Slot), LawHeadB p l e s m below meth c b L A dC dI n hI d pc cc ss i h0 h1 h2 h3 h4 h5 h6 h7 h8 h9 h10 h11 h12 h13 h14 h15 h16 h17 h18 h19 h20 h21 h22 h23 h24 h25 h26 h27 h28 h29 h30 h31 h32 h33 h34 h35 h36 h37 h38 h39 h40 h41 h42 h43 h44 h45 h46 h47 h48 h49 h50 h51 h52 h53 y0 y1 y2 y3 y4 y5 y6 y7 y8 y9 y10 y11 y12 y13 y14 y15 y16 y17 y18 y19 y20 y21 y22 y23 y24 y25 y26 y27 y28 y29 y30 y31 y32 y33 y34 y35 y36 y37 y38 x0 x1 x2 x3 x4 x5 x6 x7 x8 x9 x10 x11 x12 x13 x14 x15 x16 x17 x18 x19 x20 x21 x22 x23 x24 x25 x27 x28 x29 x30 x31 x32 x33 x34 x35 x36 x37 x38 x39 x40 x41 x42 x43 x44 x45 x46 x47 x48 x49 x50 x51 x52 x53 x54 x55 x56 x57 x58 x59 x60 x61 x62 x63 x64 x65 x66 x67 x68 x69 x70 x71 x72 x73 x74 x75 x76 x77 x78 x79 x80 x81 x82 x83 x84 x85 x86 x87 x88 x89 x90 x91 x92 x93 x94 x95 x96 x97 x98 x99 x100 x101 x102 x103 x104 x105 x106 z0 z1 f0 f1 f2 f3 f4 f5 f6 f7 f8 f9 f10 f11 f12 f13 f14 f15 f16 f17 f18 f19 f20 f21 f22 f23 f24 f25 f26 f27 f28 f29 f30 f31 g0 g1 g2 g3 g4 g5 g6 H locs ls
