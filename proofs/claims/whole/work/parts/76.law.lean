/-! THE LAW: what its walk says -/
def R_law : String := "FloodCellarLaw"
def lw_P (b : Addr) (xs : List Int32) (args : Array Value) (s : State) : Prop := args = #[.ref b] ∧ s.IntsAt b xs ∧ xs.length ≤ 2560 ∧ (Jvm.Cond.and given_1 narrow_1).before args s = true
def lw_Q (_ : Array Value) (s : State) (o : Outcome) (t : State) : Prop := o = .returned (some (.int 1)) ∧ Framed s o t [] 600000 7302250
def lw_Z (below : List Frame) (a : Array Value) (s : State) : State → Prop := fun t => ∃ o, t.status = .running ∧ Ended t below o ∧ lw_Q a s o t
/-- the law's own end, with 1 on the stack, nothing written that was there before, its room as the claim has it -/
theorem lw_ret {p : Program} {l : Launch} {e : Env} {s : State} {m : MethodId} {below : List Frame} {meth : Method} {c : Code} {b : Nat} (hx : p.tables.exec = Jvm.exec) (hb : c.code = code) (hr : meth.sig.returnType = ret) (hlocks : meth.locks = false) {pc : Nat} {H : Heap} {ls : Array Slot} (hdg : decode code pc = .ok (.ireturn, 1)) : W p l e room_1 s m #[Value.ref b] below meth c H [] 600000 7302250 (lw_Z below #[Value.ref b] s) (F0 m pc ls [.int 1]) := by
  intro T hT X
  obtain ⟨fs, hret, hrun, hended, hW, hframe⟩ := X.leave (v := some (.int 1)) (hlocks := hlocks) (fun h => by rw [hr] at h; cases h)
  have hmeth' : T.vm.method? m = some meth := X.method'
  refine ⟨T.setFrames fs, ?_, .returned (some (.int 1)), hrun, hended, rfl, ⟨_, rfl⟩, hW, hframe⟩
  jvm_step X.here [X.here.top, hx, hb, hdg, hmeth', hr, ret, narrow_b1]
  (try refine ⟨rfl, ?_⟩); (try refine ⟨rfl, ?_⟩)
  first | (intro acts; rw [hret _ acts rfl rfl rfl]) | rw [hret _ _ rfl rfl rfl]
  exact Steps.refl _
/-- what holds at the law's entry -/
def lw_At (p : Program) (s : State) (m : MethodId) (meth : Method) (c : Code) (b L : Nat) (xs : Nat → Int32) : Prop :=
  p.tables.exec = Jvm.exec ∧ c.code = code ∧ meth.sig.returnType = ret ∧ c.maxLocals = 4 ∧ s.vm.findClass R_law = some m.cls ∧ (∀ w ∈ lw_tbl, w.before #[Value.ref b] s = true) ∧ va_X b L xs s s.heap ∧ b < s.heap.size ∧ meth.locks = false ∧ (Jvm.Cond.and given_1 narrow_1).before #[Value.ref b] s = true
/-- the law in its loop: the two objects of the world are what it holds -/
def LwC (G : Gm) (p : Program) (s : State) (m : MethodId) (meth : Method) (c : Code) (b L : Nat) (xs : Nat → Int32) : Prop :=
  p.tables.exec = Jvm.exec ∧ c.code = code ∧ meth.sig.returnType = ret ∧ c.maxLocals = 4 ∧ s.vm.findClass RL = some m.cls ∧ (∀ w ∈ tb, w.before #[Value.ref b] s = true) ∧ va_X b L xs s s.heap ∧ b < s.heap.size ∧ meth.locks = false ∧
  va_K (gD G) vwCl (ty5 (gK G)) s ∧ Zs (ga G) (gz G) (gv G) s ∧ (∀ q, Rg (ga G) q → s.heap.size ≤ q) ∧ L ≤ 2560
def XW (G : Gm) (p : Program) (e : Env) (s : State) (m : MethodId) (below : List Frame) (meth : Method) (c : Code) (b : Nat) (pc : Nat) (lv : List (Nat × Value)) (st : List Value) (M : Mm) : Prop :=
  ∀ (H : Heap) (ls : Array Slot), va_P (gD G) vwCl (wd (ga G) (gK G) M) H → va_D (Rg (ga G)) (wd (ga G) (gK G) M) → va_S (Rg (ga G)) s.heap H [] → lv_has ls 4 lv →
    W p (gL G) e room_1 s m #[Value.ref b] below meth c H [] 600000 7302250 (lw_Z below #[Value.ref b] s) (F0 m pc ls st)
def lvL (G : Gm) (b i : Nat) : List (Nat × Value) := [(3, .int (oi i)), (2, .ref (ga G 94)), (1, .ref (ga G 0)), (0, .ref b)]
section LAW
variable {G : Gm} {p : Program} {e : Env} {s : State} {m : MethodId} {below : List Frame} {meth : Method} {c : Code} {b L i pc q : Nat} {xs : Nat → Int32} {lv : List (Nat × Value)} {st st0 av : List Value} {M M' : Mm}
theorem LW_aload {k9 : Fin 4} {j a x : Nat} (C : LwC G p s m meth c b L xs) (hd : decode code pc = .ok (.aload_n k9, 1)) (hi : (k9 : Nat) = j) (hl : lv[a]? = some (j, .ref x)) (hq : pc + 1 = q) (k : XW G p e s m below meth c b q lv (.ref x :: st) M) : XW G p e s m below meth c b pc lv st M := by
  subst hq
  exact fun H ls hP hD hS hl2 => lv_aload_n C.1 C.2.1 hd hi (lv_at hl2 a hl) (k H ls hP hD hS hl2)
theorem LW_iload {k9 : Fin 4} {j a : Nat} {x : Int32} (C : LwC G p s m meth c b L xs) (hd : decode code pc = .ok (.iload_n k9, 1)) (hi : (k9 : Nat) = j) (hl : lv[a]? = some (j, .int x)) (hq : pc + 1 = q) (k : XW G p e s m below meth c b q lv (.int x :: st) M) : XW G p e s m below meth c b pc lv st M := by
  subst hq
  exact fun H ls hP hD hS hl2 => lv_iload_n C.1 C.2.1 hd hi (lv_at hl2 a hl) (k H ls hP hD hS hl2)
theorem LW_iconst {n : Int} {w : Int32} (C : LwC G p s m meth c b L xs) (hd : decode code pc = .ok (.iconst n, 1)) (hv : Int32.ofInt n = w) (hq : pc + 1 = q) (k : XW G p e s m below meth c b q lv (.int w :: st) M) : XW G p e s m below meth c b pc lv st M := by
  subst hq
  exact fun H ls hP hD hS hl2 => lv_iconst C.1 C.2.1 hd hv (k H ls hP hD hS hl2)
theorem LW_bipush {n : Int} {w : Int32} (C : LwC G p s m meth c b L xs) (hd : decode code pc = .ok (.bipush n, 2)) (hv : (Int8.ofInt n).toInt32 = w) (hq : pc + 2 = q) (k : XW G p e s m below meth c b q lv (.int w :: st) M) : XW G p e s m below meth c b pc lv st M := by
  subst hq
  exact fun H ls hP hD hS hl2 => lv_bipush C.1 C.2.1 hd hv (k H ls hP hD hS hl2)
theorem LW_iadd {x y : Int32} (C : LwC G p s m meth c b L xs) (hd : decode code pc = .ok (.iadd, 1)) (hq : pc + 1 = q) (k : XW G p e s m below meth c b q lv (.int (x + y) :: st) M) : XW G p e s m below meth c b pc lv (.int y :: .int x :: st) M := by
  subst hq
  exact fun H ls hP hD hS hl2 => lv_iadd C.1 C.2.1 hd (k H ls hP hD hS hl2)
theorem LW_isub {x y : Int32} (C : LwC G p s m meth c b L xs) (hd : decode code pc = .ok (.isub, 1)) (hq : pc + 1 = q) (k : XW G p e s m below meth c b q lv (.int (x - y) :: st) M) : XW G p e s m below meth c b pc lv (.int y :: .int x :: st) M := by
  subst hq
  exact fun H ls hP hD hS hl2 => lv_isub C.1 C.2.1 hd (k H ls hP hD hS hl2)
theorem LW_iand {x y : Int32} (C : LwC G p s m meth c b L xs) (hd : decode code pc = .ok (.iand, 1)) (hq : pc + 1 = q) (k : XW G p e s m below meth c b q lv (.int (x &&& y) :: st) M) : XW G p e s m below meth c b pc lv (.int y :: .int x :: st) M := by
  subst hq
  exact fun H ls hP hD hS hl2 => lv_iand C.1 C.2.1 hd (k H ls hP hD hS hl2)
theorem LW_i2l {x : Int32} {w : Int64} (C : LwC G p s m meth c b L xs) (hd : decode code pc = .ok (.i2l, 1)) (hv : x.toInt64 = w) (hq : pc + 1 = q) (k : XW G p e s m below meth c b q lv (.long w :: st) M) : XW G p e s m below meth c b pc lv (.int x :: st) M := by
  subst hq
  exact fun H ls hP hD hS hl2 => lv_i2l C.1 C.2.1 hd hv (k H ls hP hD hS hl2)
theorem LW_lshl {x w : Int64} {y : Int32} (C : LwC G p s m meth c b L xs) (hd : decode code pc = .ok (.lshl, 1)) (hv : x <<< (y.toInt64 &&& 63) = w) (hq : pc + 1 = q) (k : XW G p e s m below meth c b q lv (.long w :: st) M) : XW G p e s m below meth c b pc lv (.int y :: .long x :: st) M := by
  subst hq
  exact fun H ls hP hD hS hl2 => lv_lshl C.1 C.2.1 hd hv (k H ls hP hD hS hl2)
theorem LW_land {x y : Int64} (C : LwC G p s m meth c b L xs) (hd : decode code pc = .ok (.land, 1)) (hq : pc + 1 = q) (k : XW G p e s m below meth c b q lv (.long (x &&& y) :: st) M) : XW G p e s m below meth c b pc lv (.long y :: .long x :: st) M := by
  subst hq
  exact fun H ls hP hD hS hl2 => lv_land C.1 C.2.1 hd (k H ls hP hD hS hl2)
theorem LW_lor {x y : Int64} (C : LwC G p s m meth c b L xs) (hd : decode code pc = .ok (.lor, 1)) (hq : pc + 1 = q) (k : XW G p e s m below meth c b q lv (.long (x ||| y) :: st) M) : XW G p e s m below meth c b pc lv (.long y :: .long x :: st) M := by
  subst hq
  exact fun H ls hP hD hS hl2 => lv_lor C.1 C.2.1 hd (k H ls hP hD hS hl2)
theorem LW_ldc2 {index : Nat} {w : Int64} (C : LwC G p s m meth c b L xs) (hw : Cond.constantLong RL index w ∈ tb) (hd : decode code pc = .ok (.ldc2_w index, 3)) (hq : pc + 3 = q) (k : XW G p e s m below meth c b q lv (.long w :: st) M) : XW G p e s m below meth c b pc lv st M := by
  subst hq
  exact fun H ls hP hD hS hl2 => lv_ldc2 C.1 C.2.1 C.2.2.2.2.1 (C.2.2.2.2.2.1 _ hw) hd (k H ls hP hD hS hl2)
theorem LwC.out (C : LwC G p s m meth c b L xs) : ¬ Rg (ga G) b := fun h => Nat.not_le.mpr C.2.2.2.2.2.2.2.1 (C.2.2.2.2.2.2.2.2.2.2.2.1 b h)
theorem LW_xld {k : Nat} (C : LwC G p s m meth c b L xs) (hk : k < L) (hd : decode code pc = .ok (.iaload, 1)) (hq : pc + 1 = q) (kk : XW G p e s m below meth c b q lv (.int (xs k) :: st) M) : XW G p e s m below meth c b pc lv (.int (oi k) :: .ref b :: st) M := by
  subst hq
  have hL := C.2.2.2.2.2.2.2.2.2.2.2.2
  have hu : (oi k).toNatClampNeg = k := ui_oi (by omega)
  have hin : vp_in (oi k) L := by
    intro h
    rcases h with h | h
    · rw [l_0, lt_oi (by omega) (by omega)] at h
      omega
    · rw [hu] at h
      omega
  intro H ls hP hD hS hl2
  refine va_sld C.1 C.2.1 C.2.2.2.2.2.2.1 C.2.2.2.2.2.2.2.1 C.out hS hin hd ?_
  rw [hu]
  exact kk H ls hP hD hS hl2
theorem LW_xln (C : LwC G p s m meth c b L xs) (hd : decode code pc = .ok (.arraylength, 1)) (hq : pc + 1 = q) (kk : XW G p e s m below meth c b q lv (.int (oi L) :: st) M) : XW G p e s m below meth c b pc lv (.ref b :: st) M := by
  subst hq
  exact fun H ls hP hD hS hl2 => va_slen C.1 C.2.1 C.2.2.2.2.2.2.1 C.2.2.2.2.2.2.2.1 C.out hS hd (kk H ls hP hD hS hl2)
theorem LW_goto {off : Int} {tgt : Nat} (C : LwC G p s m meth c b L xs) (hd : decode code pc = .ok (.goto off, 3)) (ht : (pc : Int) + off = (tgt : Int)) (k : XW G p e s m below meth c b tgt lv st M) : XW G p e s m below meth c b pc lv st M := fun H ls hP hD hS hl2 => lv_goto C.1 C.2.1 hd ht (k H ls hP hD hS hl2)
theorem LW_gt {x y : Int32} {off : Int} {tgt : Nat} (C : LwC G p s m meth c b L xs) (hd : decode code pc = .ok (.if_icmp .gt off, 3)) (ht : (pc : Int) + off = (tgt : Int)) (hq : pc + 3 = q) (k1 : y < x → XW G p e s m below meth c b tgt lv st M) (k2 : ¬ (y < x) → XW G p e s m below meth c b q lv st M) : XW G p e s m below meth c b pc lv (.int y :: .int x :: st) M := by
  subst hq
  exact fun H ls hP hD hS hl2 => lv_icmp_gt (tgt := tgt) C.1 C.2.1 hd ht (fun h => k1 h H ls hP hD hS hl2) (fun h => k2 h H ls hP hD hS hl2)
/-- both answers are the same: on to the loop's end -/
theorem LW_same {x : Int32} {off : Int} (C : LwC G p s m meth c b L xs) (hd : decode code pc = .ok (.if_icmp .eq off, 3)) (ht : (pc : Int) + off = ((1745 : Nat) : Int)) (k : XW G p e s m below meth c b 1745 lv st M) : XW G p e s m below meth c b pc lv (.int x :: .int x :: st) M := fun H ls hP hD hS hl2 => lv_icmp_eq (tgt := 1745) C.1 C.2.1 hd ht (fun _ => k H ls hP hD hS hl2) (fun h => absurd rfl h)
theorem LW_iinc {i0 a : Nat} {n : Int} {x w : Int32} {lv2 : List (Nat × Value)} (C : LwC G p s m meth c b L xs) (hd : decode code pc = .ok (.iinc i0 n, 3)) (ha : lv[a]? = some (i0, .int x)) (hv : x + Int32.ofInt n = w) (hn : i0 < 4) (hl : (i0, Value.int w) :: lv.filter (fun q => !(q.1 == i0) && !(q.1 + 1 == i0 && q.2.category == 2)) = lv2) (hq : pc + 3 = q) (k : XW G p e s m below meth c b q lv2 st M) : XW G p e s m below meth c b pc lv st M := by
  subst hq
  exact fun H ls hP hD hS hl2 => lv_iinc C.1 C.2.1 hd hl2 ha hv hn hl (fun ls2 hl3 => k H ls2 hP hD hS hl3)
theorem LW_end (C : LwC G p s m meth c b L xs) (hd : decode code pc = .ok (.ireturn, 1)) : XW G p e s m below meth c b pc lv [.int 1] M := fun H ls hP hD hS hl2 => lw_ret C.1 C.2.1 C.2.2.1 C.2.2.2.2.2.2.2.2.1 hd
/-- a row of the script as an argument: script[i + k] -/
def LA (pc k : Nat) : Prop := decode code pc = .ok (.aload_n 0, 1) ∧ decode code (pc + 1) = .ok (.iload_n 3, 1) ∧ decode code (pc + 2) = .ok (.iconst (k : Int), 1) ∧ decode code (pc + 3) = .ok (.iadd, 1) ∧ decode code (pc + 4) = .ok (.iaload, 1)
theorem LW_arg {k : Nat} (C : LwC G p s m meth c b L xs) (hA : LA pc k) (hk : i + k < L) (hq : pc + 5 = q) (kk : XW G p e s m below meth c b q (lvL G b i) (.int (xs (i + k)) :: st) M) : XW G p e s m below meth c b pc (lvL G b i) st M := by
  subst hq
  obtain ⟨h1, h2, h3, h4, h5⟩ := hA
  refine LW_aload (a := 3) C h1 rfl rfl rfl ?_
  refine LW_iload (a := 0) C h2 rfl rfl rfl ?_
  refine LW_iconst (w := oi k) C h3 Int32.ofInt_eq_ofNat rfl ?_
  refine LW_iadd C h4 rfl ?_
  rw [add_oi]
  exact LW_xld C hk h5 rfl kk
theorem LW_call {mi2 : Mi} {n ci j d2 idx : Nat} {o : Option (Int32 × Mm)} {a : Int32} (C : LwC G p s m meth c b L xs) (F : Cv RL idx mi2 n ci) (ht : ly_ty j = ci) (hC : Ct fJ G mi2 d2 (.ref (ga G j) :: av) M o) (ho : o = some (a, M')) (hdd : d2 ≤ 1000) (hn : av.length = n) (hst : st0 = av.reverse ++ .ref (ga G j) :: st) (hw : (st.map fun v => v.category).sum ≤ 8) (hd : decode code pc = .ok (.invokevirtual idx, 3)) (hq : pc + 3 = q) (k : XW G p e s m below meth c b q lv (.int a :: st) M') : XW G p e s m below meth c b pc lv st0 M := by
  subst hq
  intro H ls hP hD hS hl2
  obtain ⟨x1, x2, x3, x4, x5, x6, x7, x8, x9, x10, x11, x12, x13⟩ := C
  obtain ⟨f1, f2, f3, f4, f5, f6, f7, f8, T9, N9, f9⟩ := F
  have hrec : ∃ cell : Cell, H[ga G j]? = some cell ∧ cell.vm.isStatics = false ∧ s.vm.findClass mi2.1.cls = some cell.cls := va_recv x10 hP f9 (by rw [wd_at (lt_of_ty ht (by omega)), cel_obj ht f8])
  have hgood : ∀ U : State, U.heap = H → s.WarmedH U.vm → Gd G M U := fun U hU hW => ⟨by rw [hU]; exact hP, va_K.moved hW.alike x10, hD, x11.step hS hU hW⟩
  have hr : va_Run p (gL G) e room_1 s m #[Value.ref b] below meth c H [] 600000 7302250 0 0 (F0 m pc ls st0) st (QQ G (fJ (a, M')).1 (fJ (a, M')).2 #[]) (Rg (ga G)) := va_runV (Ts := tb) (nL := 4) (C := mi2.1.cls) (ws := Cond.code mi2.1 mi2.2.1 mi2.2.2.1 mi2.2.2.2 :: tb) (As := av) ⟨x1, x2, x4, x5, x6⟩ (hC _ ho) ⟨callB_of n x6 (tb_cons f5) rfl rfl rfl (x6 _ f4) (x6 _ f1) f6 ⟨by show d2 + 1 ≤ 2048; omega, by show 8 + (mi2.2.2.1 + 11) + 64 * d2 ≤ 84000; omega⟩, x6 _ f2, x6 _ f3⟩ ⟨blind, hrec, fun U hU hW => ⟨rfl, hgood U hU hW⟩⟩ rfl hn hl2.1 hst (lv_room hw) hd ⟨Nat.le_refl _, Nat.le_refl _⟩
  intro T hT Xs
  obtain ⟨v0, st₀, t, T', L9, h0, X', hL, e1, e2, ⟨⟨hv, hG⟩, hz, hk⟩, stp⟩ := hr T hT Xs
  have hv : v0 = some (.int a) := by injection hv
  subst hv
  rw [h0] at hz hk
  have hS' : va_S (Rg (ga G)) s.heap T'.heap [] := ⟨Nat.le_trans hS.1 (by rw [e1]; exact hz), fun q h1 h2 => by rw [e1, hk q (Nat.lt_of_lt_of_le h1 hS.1) h2]; exact hS.2.1 q h1 h2, fun q hq => by cases hq⟩
  have kk := va_forget (locs := [] ++ L9) (fun q hq => x12 _ (hL q (by simpa using hq))) (k T'.heap ls (by rw [e1]; exact hG.1) hG.2.2.1 hS' hl2)
  obtain ⟨t2, a1, b1⟩ := kk T' rfl X'
  exact ⟨t2, stp t2 a1, b1⟩
end LAW
/-- a method that writes nothing, as one that may -/
theorem Ct_pu {G : Gm} {mi : Mi} {d : Nat} {av : List Value} {M : Mm} {o : Option Int32} (h : Ct (fI M) G mi d av M o) : Ct fJ G mi d av M (o.map (fun r => (r, M))) := by
  intro r ho
  cases o with
  | none => cases ho
  | some x =>
    have e : (x, M) = r := Option.some.inj ho
    subst e
    exact h x rfl
