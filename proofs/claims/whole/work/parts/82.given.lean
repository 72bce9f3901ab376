/-! WHAT THE START GIVES -/
set_option maxRecDepth 100000 in
theorem t_109 : Cond.classLink RL 7 RX11 ∈ tb := tb_of 109 (by decide +kernel) (by decide +kernel)
set_option maxRecDepth 100000 in
theorem t_110 : Cond.instantiable RX11 17 ∈ tb := tb_of 110 (by decide +kernel) (by decide +kernel)
set_option maxRecDepth 100000 in
theorem t_111 : Cond.methodLink RL 9 yX11_init ∈ tb := tb_of 111 (by decide +kernel) (by decide +kernel)
set_option maxRecDepth 100000 in
theorem t_112 : Cond.instanceMethod yX11_init ∈ tb := tb_of 112 (by decide +kernel) (by decide +kernel)
set_option maxRecDepth 100000 in
theorem t_113 : Cond.code yX11_init cX11_init 2 none ∈ tb := tb_of 113 (by decide +kernel) (by decide +kernel)
set_option maxRecDepth 100000 in
theorem t_1159 : Cond.classLink RL 10 RX12 ∈ tb := tb_of 1159 (by decide +kernel) (by decide +kernel)
set_option maxRecDepth 100000 in
theorem t_1160 : Cond.instantiable RX12 39 ∈ tb := tb_of 1160 (by decide +kernel) (by decide +kernel)
set_option maxRecDepth 100000 in
theorem t_1161 : Cond.methodLink RL 12 yX12_init ∈ tb := tb_of 1161 (by decide +kernel) (by decide +kernel)
set_option maxRecDepth 100000 in
theorem t_1162 : Cond.instanceMethod yX12_init ∈ tb := tb_of 1162 (by decide +kernel) (by decide +kernel)
set_option maxRecDepth 100000 in
theorem t_1163 : Cond.code yX12_init cX12_init 2 none ∈ tb := tb_of 1163 (by decide +kernel) (by decide +kernel)
set_option maxRecDepth 100000 in
theorem nf_L_7 : Nf RL 7 11 [.null, .null, .int 0, .null, .null, .null, .null, .int 0, .null, .null, .int 0, .null, .null, .null, .null, .null, .null] := ⟨RX11, TX11, 17, tyX11, rfl, inT11, tyX11_ok, t_109, t_110, t_89, by decide +kernel, rfl⟩
set_option maxRecDepth 100000 in
theorem nf_L_10 : Nf RL 10 12 [.null, .null, .int 0, .null, .int 0, .null, .null, .null, .int 0, .int 0, .int 0, .int 0, .long 0, .int 0, .int 0, .null, .int 0, .null, .int 0, .null, .int 0, .int 0, .int 0, .int 0, .int 0, .int 0, .int 0, .null, .int 0, .null, .null, .null, .null, .null, .null, .null, .int 0, .int 0, .int 0] := ⟨RX12, TX12, 39, tyX12, rfl, inT12, tyX12_ok, t_1159, t_1160, t_101, by decide +kernel, rfl⟩
set_option maxRecDepth 100000 in
theorem cn_L_9 : Cn RL 9 miX11_init 0 := ⟨rfl, rfl, Or.inl t_111, t_112, t_89, t_113, ⟨by decide +kernel, by decide +kernel, by decide +kernel⟩, by decide⟩
set_option maxRecDepth 100000 in
theorem cn_L_12 : Cn RL 12 miX12_init 0 := ⟨rfl, rfl, Or.inl t_1161, t_1162, t_101, t_1163, ⟨by decide +kernel, by decide +kernel, by decide +kernel⟩, by decide⟩
theorem kn_all : ∀ (k : Nat) (q : vw_C), vwCl[k]? = some q → (∀ w ∈ u_ws q.1 q.2.1 q.2.2, w ∈ tb) ∧ Cond.instantiable q.1 q.2.2 ∈ tb
  | 0, q, hq => by cases hq; exact ⟨inT0, t_226⟩
  | 1, q, hq => by cases hq; exact ⟨inT1, t_247⟩
  | 2, q, hq => by cases hq; exact ⟨inT2, t_261⟩
  | 3, q, hq => by cases hq; exact ⟨inT3, t_118⟩
  | 4, q, hq => by cases hq; exact ⟨inT4, t_254⟩
  | 5, q, hq => by cases hq; exact ⟨inT5, t_350⟩
  | 6, q, hq => by cases hq; exact ⟨inT6, t_181⟩
  | 7, q, hq => by cases hq; exact ⟨inT7, t_151⟩
  | 8, q, hq => by cases hq; exact ⟨inT8, t_240⟩
  | 9, q, hq => by cases hq; exact ⟨inT9, t_233⟩
  | 10, q, hq => by cases hq; exact ⟨inT10, t_268⟩
  | 11, q, hq => by cases hq; exact ⟨inT11, t_110⟩
  | 12, q, hq => by cases hq; exact ⟨inT12, t_1160⟩
  | k + 13, q, hq => by simp [vwCl] at hq
theorem nest_in : ∀ q ∈ nestL, Cond.methodLinkNest q.1 q.2.1 q.2.2.1 q.2.2.2 ∈ lw_tbl := List.forall_mem_cons.mpr ⟨List.mem_of_getElem? (i := 119) (by decide +kernel), List.forall_mem_cons.mpr ⟨List.mem_of_getElem? (i := 152) (by decide +kernel), List.forall_mem_cons.mpr ⟨List.mem_of_getElem? (i := 182) (by decide +kernel), List.forall_mem_cons.mpr ⟨List.mem_of_getElem? (i := 227) (by decide +kernel), List.forall_mem_cons.mpr ⟨List.mem_of_getElem? (i := 234) (by decide +kernel), List.forall_mem_cons.mpr ⟨List.mem_of_getElem? (i := 237) (by decide +kernel), List.forall_mem_cons.mpr ⟨List.mem_of_getElem? (i := 241) (by decide +kernel), List.forall_mem_cons.mpr ⟨List.mem_of_getElem? (i := 244) (by decide +kernel), List.forall_mem_cons.mpr ⟨List.mem_of_getElem? (i := 248) (by decide +kernel), List.forall_mem_cons.mpr ⟨List.mem_of_getElem? (i := 251) (by decide +kernel), List.forall_mem_cons.mpr ⟨List.mem_of_getElem? (i := 255) (by decide +kernel), List.forall_mem_cons.mpr ⟨List.mem_of_getElem? (i := 258) (by decide +kernel), List.forall_mem_cons.mpr ⟨List.mem_of_getElem? (i := 262) (by decide +kernel), List.forall_mem_cons.mpr ⟨List.mem_of_getElem? (i := 265) (by decide +kernel), List.forall_mem_cons.mpr ⟨List.mem_of_getElem? (i := 274) (by decide +kernel), List.forall_mem_cons.mpr ⟨List.mem_of_getElem? (i := 276) (by decide +kernel), List.forall_mem_cons.mpr ⟨List.mem_of_getElem? (i := 357) (by decide +kernel), fun _ h => absurd h List.not_mem_nil⟩⟩⟩⟩⟩⟩⟩⟩⟩⟩⟩⟩⟩⟩⟩⟩⟩
theorem cast_in : ∀ q ∈ castL, Cond.castable q.1 q.2 ∈ lw_tbl := List.forall_mem_cons.mpr ⟨List.mem_of_getElem? (i := 1796) (by decide +kernel), List.forall_mem_cons.mpr ⟨List.mem_of_getElem? (i := 1797) (by decide +kernel), List.forall_mem_cons.mpr ⟨List.mem_of_getElem? (i := 1798) (by decide +kernel), List.forall_mem_cons.mpr ⟨List.mem_of_getElem? (i := 1799) (by decide +kernel), List.forall_mem_cons.mpr ⟨List.mem_of_getElem? (i := 1800) (by decide +kernel), fun _ h => absurd h List.not_mem_nil⟩⟩⟩⟩⟩
section GIV
variable {s : State} {args : Array Value} {A : Nat → Prop}
theorem g_nws (hts0 : ∀ w ∈ lw_tbl, w.before args s = true) : Nws s := ⟨fun q hq => va_Nw.of rfl (hts0 _ (nest_in q hq)), fun q hq => va_Nw.of rfl (hts0 _ (cast_in q hq)), va_AO.of (hts0 _ (List.mem_of_getElem? (i := 356) (by decide +kernel))), va_AO.of (hts0 _ (List.mem_of_getElem? (i := 225) (by decide +kernel))), show (Cond.arrayOver (.array .int)).before args s = true from (hts0 _ (List.mem_of_getElem? (i := 223) (by decide +kernel)))⟩
theorem g_kn (hts0 : ∀ w ∈ lw_tbl, w.before args s = true) : ∃ (D : va_G) (K : Nat → ClassId), va_K D vwCl (ty5 K) s := by
  have hts : ∀ w ∈ tb, w.before args s = true := fun w hw => hts0 w (List.mem_filter.mp hw).1
  have hex : ∀ k : Nat, ∃ z : ClassId × (Nat → Nat), ∀ q : vw_C, vwCl[k]? = some q → u_Kn s q.1 q.2.1 q.2.2 z.1 z.2 := fun k => by
    cases hq : vwCl[k]? with
    | none => exact ⟨(0, fun _ => 0), fun q h => by cases h⟩
    | some q =>
      obtain ⟨a1, a2⟩ := kn_all k q hq
      obtain ⟨cC, iS, h⟩ := u_known hts a1 (hts _ a2)
      exact ⟨(cC, iS), fun q2 h2 => by cases h2; exact h⟩
  obtain ⟨z, hz⟩ := Classical.axiomOfChoice hex
  obtain ⟨k0, y0, c0, p0, r0, s0⟩ := Cond.arrayClass_spec (hts _ t_149)
  obtain ⟨k1, y1, c1, p1, r1, s1⟩ := Cond.arrayClass_spec (hts _ t_221)
  obtain ⟨c2, k2, y2, p2, q2, r2, s2, w2⟩ := Cond.arrayOver_spec (n := RX3) (hts0 _ (List.mem_of_getElem? (i := 356) (by decide +kernel)))
  obtain ⟨c3, k3, y3, p3, q3, r3, s3, w3⟩ := Cond.arrayOver_spec (n := RX0) (hts0 _ (List.mem_of_getElem? (i := 225) (by decide +kernel)))
  obtain ⟨c4, k4, y4, p4, q4, r4, s4, w4⟩ := aoa_spec (hts0 _ (List.mem_of_getElem? (i := 223) (by decide +kernel)))
  refine ⟨(fun k => (z k).1, fun k => (z k).2), fun t => if t = 0 then k0 else if t = 1 then k1 else if t = 2 then k2 else if t = 3 then k3 else k4, fun k q hq => hz k q hq, ?_⟩
  intro k q hq
  match k, hq with
  | 0, hq => cases hq; exact ⟨fun n z => ⟨fun k h => (by cases h), y0, r0, c0, s0⟩, p0⟩
  | 1, hq => cases hq; exact ⟨fun n z => ⟨fun k h => (by cases h), y1, r1, c1, s1⟩, p1⟩
  | 2, hq => cases hq; exact ⟨fun n z => ⟨fun k h => (by cases h), y2, r2, c2, s2⟩, y2, c2, r2, s2, p2, w2⟩
  | 3, hq => cases hq; exact ⟨fun n z => ⟨fun k h => (by cases h), y3, r3, c3, s3⟩, y3, c3, r3, s3, p3, w3⟩
  | 4, hq => cases hq; exact ⟨fun n z => ⟨fun k h => (by cases h), y4, r4, c4, s4⟩, w4⟩
  | k + 5, hq => simp [ty5] at hq
theorem ab_in : ∀ j, j < 6 → Cond.eq (.elem (.static "FloodCellar$Barrel" "ABOVE" "[I") (.int (Int32.ofNat j))) (.int (zAbove.getD j 0)) ∈ flatC (Jvm.Cond.and given_1 narrow_1) := by decide +kernel
theorem wo_in : ∀ j, j < 100 → Cond.eq (.elem (.field (.string "FloodCellar$Rules" 120) "java/lang/String" "value" "[B") (.int (Int32.ofNat j))) (.int (zBytes.getD j 0)) ∈ flatC (Jvm.Cond.and given_1 narrow_1) := by decide +kernel
theorem g_zs (hts0 : ∀ w ∈ lw_tbl, w.before args s = true) (hgv : (Jvm.Cond.and given_1 narrow_1).before args s = true) : ∃ (z : Nat → Nat) (zv : Option Nat), ∀ B : Nat → Nat, (∀ q, Rg B q → s.heap.size ≤ q) → Zs B z zv s := by
  have hs := flat_of_before _ hgv
  have hA : ∀ a : Nat, a < s.heap.size → ¬ (fun q : Nat => s.heap.size ≤ q) a := fun a h => Nat.not_le.mpr h
  obtain ⟨z0, hz0, hT⟩ := va_Tof (A := fun q : Nat => s.heap.size ≤ q) (N := 6) (f := fun j => .int (zAbove.getD j 0)) (tm := .static "FloodCellar$Barrel" "ABOVE" "[I") (ty := .int) (by decide) (hs _ (by decide +kernel)) (va_eqt (z := 6) (hs _ (by decide +kernel))) (fun j hj => va_eqt (hs _ (ab_in j hj))) hA
  have hZ0 := va_Zof (hts0 _ (List.mem_of_getElem? (i := 572) (by decide +kernel))) (hts0 (.initialized "FloodCellar$Barrel") (List.mem_of_getElem? (i := 93) (by decide +kernel))) hz0 hA
  have hZ1 := va_Zof (hts0 _ (List.mem_of_getElem? (i := 667) (by decide +kernel))) (hts0 (.initialized "java/lang/String") (List.mem_of_getElem? (i := 103) (by decide +kernel))) (va_eqi (z := 1) (hs (.eq (.static "java/lang/String" "COMPACT_STRINGS" "Z") (.int 1)) (by decide +kernel))) hA
  have hZ2 := va_Zqof (hts0 _ (List.mem_of_getElem? (i := 683) (by decide +kernel))) (hts0 (.initialized "jdk/internal/util/Preconditions") (List.mem_of_getElem? (i := 105) (by decide +kernel))) (hs (.isRef (.static "jdk/internal/util/Preconditions" "SIOOBE_FORMATTER" "Ljava/util/function/BiFunction;")) (by decide +kernel)) hA
  have f1 : (Cond.exactly (.string "FloodCellar$Rules" 120) "java/lang/String").before args s = true := hs _ (by decide +kernel)
  have f2 : (Cond.eq (.field (.string "FloodCellar$Rules" 120) "java/lang/String" "coder" "B") (.int 0)).before args s = true := hs _ (by decide +kernel)
  have f3 : (Cond.arrayOf (.field (.string "FloodCellar$Rules" 120) "java/lang/String" "value" "[B") .byte).before args s = true := hs _ (by decide +kernel)
  have f4 : (Cond.eq (.length (.field (.string "FloodCellar$Rules" 120) "java/lang/String" "value" "[B")) (.int (Int32.ofNat 100))).before args s = true := hs _ (by decide +kernel)
  obtain ⟨adK, adV, hS, hR⟩ := vk_Sof (N := 1) (tm := fun _ => .string "FloodCellar$Rules" 120) (len := [100]) (byt := [zBytes]) (args := args) (s := s) (A := fun q : Nat => s.heap.size ≤ q) (fun i hi => by obtain rfl : i = 0 := (by omega); exact (by decide : (100 : Nat) < 2 ^ 31)) (fun _ _ => f1) (fun _ _ => f2) (fun _ _ => f3) (fun i hi => by obtain rfl : i = 0 := (by omega); exact f4) (fun i hi j hj => by obtain rfl : i = 0 := (by omega); exact hs _ (wo_in j hj)) (fun i j hi hj hij => absurd (by omega : i = j) hij) hA
  have hR0 := hR 0 (by decide)
  have hSR : vk_R "FloodCellar$Rules" 120 zWords (adK 0) s := vk_R.of (A := args) (hts0 _ (List.mem_of_getElem? (i := 657) (by decide +kernel))) hR0
  have hS' : vk_S 1 [100] [zBytes] (fun _ => adK 0) (fun _ => adV 0) (fun q : Nat => s.heap.size ≤ q) s s.heap := ⟨fun i hi => by obtain rfl : i = 0 := (by omega); exact hS.1 0 hi, fun i j hi hj _ => by omega⟩
  have hq : ∃ zv : Option Nat, va_Z "jdk/internal/util/Preconditions" "SIOOBE_FORMATTER" "Ljava/util/function/BiFunction;" (va_rf zv) (fun q : Nat => s.heap.size ≤ q) s s.heap := by
    rcases hZ2 with h | ⟨t, h⟩
    · exact ⟨none, h⟩
    · exact ⟨some t, h⟩
  obtain ⟨zv, hZ3⟩ := hq
  exact ⟨fun k => if k = 0 then z0 else if k = 1 then adK 0 else adV 0, zv, fun B hB => ⟨hZ0.narrow hB, hT.narrow hB, hZ1.narrow hB, hZ3.narrow hB, hSR, hS'.narrow hB⟩⟩
end GIV
