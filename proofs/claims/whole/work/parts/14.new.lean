/-! CONSTRUCTORS: a world that grows -/
def nestL : List (String × Nat × MethodName × String) := [("FloodCellar", 9, ⟨"FloodCellar$Flood", "<init>", "()V"⟩, "FloodCellar"), ("FloodCellar", 18, ⟨"FloodCellar$Trace", "<init>", "()V"⟩, "FloodCellar"), ("FloodCellar", 29, ⟨"FloodCellar$Rules", "<init>", "()V"⟩, "FloodCellar"), ("FloodCellar", 60, ⟨"FloodCellar$Barrel", "<init>", "()V"⟩, "FloodCellar"), ("FloodCellar", 63, ⟨"FloodCellar$Vat", "<init>", "()V"⟩, "FloodCellar"), ("FloodCellar$Vat", 1, ⟨"FloodCellar$Barrel", "<init>", "()V"⟩, "FloodCellar"), ("FloodCellar", 66, ⟨"FloodCellar$Tun", "<init>", "()V"⟩, "FloodCellar"), ("FloodCellar$Tun", 1, ⟨"FloodCellar$Barrel", "<init>", "()V"⟩, "FloodCellar"), ("FloodCellar", 69, ⟨"FloodCellar$Butt", "<init>", "()V"⟩, "FloodCellar"), ("FloodCellar$Butt", 1, ⟨"FloodCellar$Tun", "<init>", "()V"⟩, "FloodCellar"), ("FloodCellar", 72, ⟨"FloodCellar$Keg", "<init>", "()V"⟩, "FloodCellar"), ("FloodCellar$Keg", 1, ⟨"FloodCellar$Barrel", "<init>", "()V"⟩, "FloodCellar"), ("FloodCellar", 75, ⟨"FloodCellar$Cask", "<init>", "()V"⟩, "FloodCellar"), ("FloodCellar$Cask", 1, ⟨"FloodCellar$Keg", "<init>", "()V"⟩, "FloodCellar"), ("FloodCellar$Vault", 29, ⟨"FloodCellar$Flood", "<init>", "()V"⟩, "FloodCellar"), ("FloodCellar$Vault", 36, ⟨"FloodCellar$Rules", "<init>", "()V"⟩, "FloodCellar"), ("FloodCellar$Plans", 11, ⟨"FloodCellar$Flood", "<init>", "()V"⟩, "FloodCellar")]
def castL : List (String × String) := [("FloodCellar$Vat", "FloodCellar$Barrel"), ("FloodCellar$Tun", "FloodCellar$Barrel"), ("FloodCellar$Butt", "FloodCellar$Barrel"), ("FloodCellar$Keg", "FloodCellar$Barrel"), ("FloodCellar$Cask", "FloodCellar$Barrel")]
/-- words that a call doesn't keep by itself -/
def Nws (U : State) : Prop := (∀ q ∈ nestL, va_Nw (.methodLinkNest q.1 q.2.1 q.2.2.1 q.2.2.2) U) ∧ (∀ q ∈ castL, va_Nw (.castable q.1 q.2) U) ∧ va_AO RX3 U ∧ va_AO RX0 U ∧ va_Nw (.arrayOver (.array .int)) U
theorem aoa_spec {args : Array Value} {s : State} (h : (Cond.arrayOver (.array .int)).before args s = true) : ∃ comp c k, s.vm.findClass (FieldType.array .int).toString = some comp ∧ (s.vm.classes.findIdx? fun x => match x.kind with | .array component _ => component == comp | _ => false) = some c ∧ s.vm.classes[c]? = some k ∧ k.kind = .array comp (.array .int) ∧ s.vm.findClass ("[" ++ (FieldType.array .int).toString) = some c := by
  unfold Cond.before at h
  simp only [Cond.holds, Cond.value, beq_iff_eq] at h
  cases hc : s.vm.findClass (FieldType.array .int).toString with
  | none => simp [hc] at h
  | some comp =>
    simp only [hc, Option.bind_some, Option.bind_eq_some_iff, Option.map_eq_some_iff] at h
    obtain ⟨c, hi, k, hk, hb⟩ := h
    obtain ⟨hlt, hp, -⟩ := Array.findIdx?_eq_some_iff_getElem.mp hi
    have hkk : s.vm.classes[c] = k := (Array.getElem?_eq_some_iff.mp hk).2
    rw [hkk] at hp
    cases hkind : k.kind with
    | array component ty =>
      rw [hkind] at hb hp
      simp at hb hp
      exact ⟨comp, c, k, rfl, hi, hk, by rw [hkind, hp, hb.1], hb.2⟩
    | _ => rw [hkind] at hb; simp at hb
theorem aoa_moved {u U : State} (hvm : u.vm.Alike U.vm) (h : va_Nw (.arrayOver (.array .int)) u) : va_Nw (.arrayOver (.array .int)) U := by
  obtain ⟨comp, c, k, h1, h2, h3, h4, h5⟩ := aoa_spec h
  obtain ⟨k', hk', he⟩ := hvm.2.2 _ _ h3
  have hi : (U.vm.classes.findIdx? fun (x : Class) => match x.kind with | .array component _ => component == comp | _ => false) = some c := by
    have e1 := va_idx_bare U.vm comp
    have e2 := va_idx_bare u.vm comp
    have e3 : U.vm.bare = u.vm.bare := by first | exact hvm.bare_eq | exact hvm.bare_eq.symm
    rw [e3] at e1
    exact (e1.symm.trans e2).trans h2
  have hkind : k'.kind = .array comp (.array .int) := by rw [he]; exact h4
  have f1 : U.vm.findClass (FieldType.array .int).toString = some comp := by rw [hvm.findClass]; exact h1
  have f2 : U.vm.findClass ("[" ++ (FieldType.array .int).toString) = some c := by rw [hvm.findClass]; exact h5
  unfold va_Nw Cond.before Cond.holds
  simp only [Cond.value]
  rw [f1, Option.bind_some]
  refine (congrArg (fun o : Option Nat => (o.bind (fun c => (U.vm.classes[c]?).map fun (k : Class) => match k.kind with | .array _ ty => decide (ty = FieldType.array .int) && decide (U.vm.findClass ("[" ++ (FieldType.array .int).toString) = some c) | _ => false) == some true)) hi).trans ?_
  simp [hk', hkind, f2]
theorem Nws.warm {s U : State} (h : Nws s) (hW : s.WarmedH U.vm) : Nws U := ⟨fun q hq => va_Nw.warmM hW (h.1 q hq), fun q hq => va_Nw.warmC hW (h.2.1 q hq), h.2.2.1.moved hW.alike, h.2.2.2.1.moved hW.alike, aoa_moved hW.alike h.2.2.2.2⟩
theorem Nws.same {s U : State} (h : Nws s) (hv : s.vm = U.vm) : Nws U := by
  have ha : s.vm.Alike U.vm := by rw [hv]; exact Vm.Alike.refl _
  exact ⟨fun q hq => va_Nw.same rfl hv (h.1 q hq), fun q hq => va_Nw.same rfl hv (h.2.1 q hq), h.2.2.1.moved ha, h.2.2.2.1.moved ha, aoa_moved ha h.2.2.2.2⟩
/-- what a constructor leaves: a world of which post holds -/
def QN (D : va_G) (K : Nat → ClassId) (A : Nat → Prop) (post : va_W → Prop) : Array Value → State → Outcome → State → Prop := fun _ st oc t => (oc = .returned none ∧ ∃ ws, post ws ∧ va_P D vwCl ws t.heap ∧ va_K D vwCl (ty5 K) t ∧ va_D A ws) ∧ va_F A st t
def rmn (d mc ms : Nat) : Room := { frames := d, cells := mc, slots := ms, locals := 64 * d }
def PN (D : va_G) (K : Nat → ClassId) (ws : va_W) (sz : Nat) (U : State) : Prop := U.heap.size = sz ∧ va_P D vwCl ws U.heap ∧ va_K D vwCl (ty5 K) U ∧ va_D (fun _ => True) ws ∧ Nws U
def CtN (l : Launch) (D : va_G) (K : Nat → ClassId) (mi : Mi) (d mc ms : Nat) (av : List Value) (ws0 : va_W) (post : va_W → Prop) : Prop :=
  ∀ sz : Nat, Met l mi.1 (Cond.code mi.1 mi.2.1 mi.2.2.1 mi.2.2.2 :: tb) (rmn d mc ms) (va_Pc av (PN D K ws0 sz)) (QN D K (va_A ws0 sz) post) mc ms (va_A ws0 sz)
def CxN (D : va_G) (K : Nat → ClassId) (mi : Mi) (A : Nat → Prop) (p : Program) (s : State) (m : MethodId) (args : Array Value) (meth : Method) (c : Code) (H : Heap) (locs : List Loc) (ls : Array Slot) (lv : List (Nat × Value)) (ws : va_W) : Prop :=
  p.tables.exec = Jvm.exec ∧ c.code = mi.2.1 ∧ c.maxLocals = mi.2.2.1 ∧ meth.sig.returnType = mi.2.2.2 ∧ meth.locks = false ∧ s.vm.findClass mi.1.cls = some m.cls ∧ (∀ w ∈ tb, w.before args s = true) ∧
  va_K D vwCl (ty5 K) s ∧ va_P D vwCl ws H ∧ va_D A ws ∧ Nws s ∧ va_S A s.heap H locs ∧ lv_has ls mi.2.2.1 lv ∧ (∀ q, s.heap.size ≤ q → A q) ∧ meth.name = mi.1.name
def XN (l : Launch) (D : va_G) (K : Nat → ClassId) (mi : Mi) (R : Room) (A : Nat → Prop) (post : va_W → Prop) (mc ms pc : Nat) (lv : List (Nat × Value)) (st : List Value) (ws : va_W) (cells slots : Nat) : Prop :=
  ∀ (p : Program) (e : Env) (s : State) (m : MethodId) (args : Array Value) (below : List Frame) (meth : Method) (c : Code) (H : Heap) (locs : List Loc) (ls : Array Slot), CxN D K mi A p s m args meth c H locs ls lv ws →
    W p l e R s m args below meth c H locs cells slots (MQ below (QN D K A post) args s mc ms A) (F0 m pc ls st)
theorem CxN.loc {D : va_G} {K : Nat → ClassId} {mi : Mi} {A : Nat → Prop} {p : Program} {s : State} {m : MethodId} {args : Array Value} {meth : Method} {c : Code} {H : Heap} {locs : List Loc} {ls ls' : Array Slot} {lv lv' : List (Nat × Value)} {ws : va_W} (C : CxN D K mi A p s m args meth c H locs ls lv ws) (h : lv_has ls' mi.2.2.1 lv') : CxN D K mi A p s m args meth c H locs ls' lv' ws := by
  obtain ⟨a1, a2, a3, a4, a5, a6, a7, a8, a9, a10, a11, a12, a13, a14, a15⟩ := C
  exact ⟨a1, a2, a3, a4, a5, a6, a7, a8, a9, a10, a11, a12, h, a14, a15⟩
theorem CxN.mem {D : va_G} {K : Nat → ClassId} {mi : Mi} {A : Nat → Prop} {p : Program} {s : State} {m : MethodId} {args : Array Value} {meth : Method} {c : Code} {H H' : Heap} {locs locs' : List Loc} {ls : Array Slot} {lv : List (Nat × Value)} {ws ws' : va_W} (C : CxN D K mi A p s m args meth c H locs ls lv ws) (h1 : va_P D vwCl ws' H') (h2 : va_D A ws') (h3 : va_S A s.heap H' locs') : CxN D K mi A p s m args meth c H' locs' ls lv ws' := by
  obtain ⟨a1, a2, a3, a4, a5, a6, a7, a8, a9, a10, a11, a12, a13, a14, a15⟩ := C
  exact ⟨a1, a2, a3, a4, a5, a6, a7, a8, h1, h2, a11, h3, a13, a14, a15⟩
section NEWC
variable {l : Launch} {D : va_G} {K : Nat → ClassId} {mi mi2 : Mi} {R : Room} {A : Nat → Prop} {post post2 : va_W → Prop} {mc ms pc q cells slots idx : Nat} {lv : List (Nat × Value)} {st av : List Value} {ws : va_W}
theorem CtN_of {d : Nat} {ws0 : va_W} (hp : plainName mi.1.cls = true) (hn : (lg_sl av).length ≤ mi.2.2.1) (k : ∀ sz, XN l D K mi (rmn d mc ms) (va_A ws0 sz) post mc ms 0 (lv_args 0 av) [] ws0 0 0) : CtN l D K mi d mc ms av ws0 post := by
  intro sz
  refine Met.ofW (cc := mi.2.1) (maxL := mi.2.2.1) (ret := mi.2.2.2) hp rfl ?_
  intro p e s m args below meth c s₁ B hml hv
  obtain ⟨rfl, hsz, hP, hK, hD, hN⟩ := hv
  have hts := atoms_spec (ws := Cond.code mi.1 mi.2.1 mi.2.2.1 mi.2.2.2 :: tb) B.pre
  have hl := lv_entry av (n := mi.2.2.1) hn
  rw [lg_entry_eq]
  exact k sz p e s m _ below meth c s.heap [] _ ⟨B.exec, B.bytes, hml, B.returns, B.notSynchronized, findClass_of_methodNamed B.named, fun w hw => hts w (List.mem_cons_of_mem _ hw), hK, hP, hD.self, hN, va_S.rf, hl, fun q hq => Or.inr (by rw [← hsz]; exact hq), (name_of_methodNamed B.named B.method).1⟩
theorem XN_lv {lv' : List (Nat × Value)} (ks : List Nat) (h : lv_pick lv ks = lv') (k : XN l D K mi R A post mc ms pc lv' st ws cells slots) : XN l D K mi R A post mc ms pc lv st ws cells slots := fun p e s m args below meth c H locs ls C => k p e s m args below meth c H locs ls (C.loc (lv_sub C.2.2.2.2.2.2.2.2.2.2.2.2.1 ks h))
theorem XN_ws {ws' : va_W} (h : ws = ws') (k : XN l D K mi R A post mc ms pc lv st ws' cells slots) : XN l D K mi R A post mc ms pc lv st ws cells slots := by rw [h]; exact k
theorem XN_vret (hr : mi.2.2.2 = none) (hp : post ws) (h1 : cells ≤ mc) (h2 : slots ≤ ms) (hd : decode mi.2.1 pc = .ok (.return_, 1)) : XN l D K mi R A post mc ms pc lv [] ws cells slots := by
  intro p e s m args below meth c H locs ls C
  refine W.widen (k := mc) (n := ms) h1 h2 ?_
  exact W.vret C.1 C.2.1 (C.2.2.2.1.trans hr) (fun t ht hW => ⟨⟨rfl, ws, hp, by rw [ht]; exact C.2.2.2.2.2.2.2.2.1, va_K.moved hW.alike C.2.2.2.2.2.2.2.1, C.2.2.2.2.2.2.2.2.2.1⟩, C.2.2.2.2.2.2.2.2.2.2.2.1.F ht⟩) C.2.2.2.2.2.2.2.2.2.2.2.1.2.2 hd C.2.2.2.2.1
theorem XN_iconst {n : Int} {w : Int32} (hd : decode mi.2.1 pc = .ok (.iconst n, 1)) (hv : Int32.ofInt n = w) (hq : pc + 1 = q) (k : XN l D K mi R A post mc ms q lv (.int w :: st) ws cells slots) : XN l D K mi R A post mc ms pc lv (st) ws cells slots := fun p e s m args below meth c H locs ls C => by subst hq; exact lv_iconst C.1 C.2.1 hd hv (k p e s m args below meth c H locs ls C)
theorem XN_bipush {n : Int} {w : Int32} (hd : decode mi.2.1 pc = .ok (.bipush n, 2)) (hv : (Int8.ofInt n).toInt32 = w) (hq : pc + 2 = q) (k : XN l D K mi R A post mc ms q lv (.int w :: st) ws cells slots) : XN l D K mi R A post mc ms pc lv (st) ws cells slots := fun p e s m args below meth c H locs ls C => by subst hq; exact lv_bipush C.1 C.2.1 hd hv (k p e s m args below meth c H locs ls C)
theorem XN_sipush {n : Int} {w : Int32} (hd : decode mi.2.1 pc = .ok (.sipush n, 3)) (hv : (Int16.ofInt n).toInt32 = w) (hq : pc + 3 = q) (k : XN l D K mi R A post mc ms q lv (.int w :: st) ws cells slots) : XN l D K mi R A post mc ms pc lv (st) ws cells slots := fun p e s m args below meth c H locs ls C => by subst hq; exact lv_sipush C.1 C.2.1 hd hv (k p e s m args below meth c H locs ls C)
theorem XN_dup {va : Value} (hd : decode mi.2.1 pc = .ok (.dup, 1)) (hva : va.category = 1) (hq : pc + 1 = q) (k : XN l D K mi R A post mc ms q lv (va :: va :: st) ws cells slots) : XN l D K mi R A post mc ms pc lv (va :: st) ws cells slots := fun p e s m args below meth c H locs ls C => by subst hq; exact lv_dup C.1 C.2.1 hd hva (k p e s m args below meth c H locs ls C)
theorem XN_iadd {x y : Int32} (hd : decode mi.2.1 pc = .ok (.iadd, 1))  (hq : pc + 1 = q) (k : XN l D K mi R A post mc ms q lv (.int (x + y) :: st) ws cells slots) : XN l D K mi R A post mc ms pc lv (.int y :: .int x :: st) ws cells slots := fun p e s m args below meth c H locs ls C => by subst hq; exact lv_iadd C.1 C.2.1 hd  (k p e s m args below meth c H locs ls C)
theorem XN_iload_n {k9 : Fin 4} {i a : Nat} {x : Int32} (hd : decode mi.2.1 pc = .ok (.iload_n k9, 1)) (hi : (k9 : Nat) = i) (hl : lv[a]? = some (i, .int x)) (hq : pc + 1 = q) (k : XN l D K mi R A post mc ms q lv (.int x :: st) ws cells slots) : XN l D K mi R A post mc ms pc lv st ws cells slots := fun p e s m args below meth c H locs ls C => by subst hq; exact lv_iload_n C.1 C.2.1 hd hi (lv_at C.2.2.2.2.2.2.2.2.2.2.2.2.1 a hl) (k p e s m args below meth c H locs ls C)
theorem XN_istore_n {k9 : Fin 4} {i : Nat} {x : Int32} {lv2 : List (Nat × Value)} (hd : decode mi.2.1 pc = .ok (.istore_n k9, 1)) (hi : (k9 : Nat) = i) (hn : i < mi.2.2.1) (hl : (i, Value.int x) :: lv.filter (fun q => !(q.1 == i) && !(q.1 + 1 == i && q.2.category == 2)) = lv2) (hq : pc + 1 = q) (k : XN l D K mi R A post mc ms q lv2 st ws cells slots) : XN l D K mi R A post mc ms pc lv (.int x :: st) ws cells slots := fun p e s m args below meth c H locs ls C => by subst hq; exact lv_istore_n C.1 C.2.1 hd hi C.2.2.2.2.2.2.2.2.2.2.2.2.1 hn hl (fun ls2 hl2 => k p e s m args below meth c H locs ls2 (C.loc hl2))
theorem XN_aload_n {k9 : Fin 4} {i a : Nat} {x : Nat} (hd : decode mi.2.1 pc = .ok (.aload_n k9, 1)) (hi : (k9 : Nat) = i) (hl : lv[a]? = some (i, .ref x)) (hq : pc + 1 = q) (k : XN l D K mi R A post mc ms q lv (.ref x :: st) ws cells slots) : XN l D K mi R A post mc ms pc lv st ws cells slots := fun p e s m args below meth c H locs ls C => by subst hq; exact lv_aload_n C.1 C.2.1 hd hi (lv_at C.2.2.2.2.2.2.2.2.2.2.2.2.1 a hl) (k p e s m args below meth c H locs ls C)
theorem XN_astore_n {k9 : Fin 4} {i : Nat} {x : Nat} {lv2 : List (Nat × Value)} (hd : decode mi.2.1 pc = .ok (.astore_n k9, 1)) (hi : (k9 : Nat) = i) (hn : i < mi.2.2.1) (hl : (i, Value.ref x) :: lv.filter (fun q => !(q.1 == i) && !(q.1 + 1 == i && q.2.category == 2)) = lv2) (hq : pc + 1 = q) (k : XN l D K mi R A post mc ms q lv2 st ws cells slots) : XN l D K mi R A post mc ms pc lv (.ref x :: st) ws cells slots := fun p e s m args below meth c H locs ls C => by subst hq; exact lv_astore_n C.1 C.2.1 hd hi C.2.2.2.2.2.2.2.2.2.2.2.2.1 hn hl (fun ls2 hl2 => k p e s m args below meth c H locs ls2 (C.loc hl2))
theorem XN_iinc {i a : Nat} {n : Int} {x w : Int32} {lv2 : List (Nat × Value)} (hd : decode mi.2.1 pc = .ok (.iinc i n, 3)) (ha : lv[a]? = some (i, .int x)) (hv : x + Int32.ofInt n = w) (hn : i < mi.2.2.1) (hl : (i, Value.int w) :: lv.filter (fun q => !(q.1 == i) && !(q.1 + 1 == i && q.2.category == 2)) = lv2) (hq : pc + 3 = q) (k : XN l D K mi R A post mc ms q lv2 st ws cells slots) : XN l D K mi R A post mc ms pc lv st ws cells slots := fun p e s m args below meth c H locs ls C => by subst hq; exact lv_iinc C.1 C.2.1 hd C.2.2.2.2.2.2.2.2.2.2.2.2.1 ha hv hn hl (fun ls2 hl2 => k p e s m args below meth c H locs ls2 (C.loc hl2))
theorem XN_goto {off : Int} {tgt : Nat} (hd : decode mi.2.1 pc = .ok (.goto off, 3)) (ht : (pc : Int) + off = (tgt : Int)) (k : XN l D K mi R A post mc ms tgt lv st ws cells slots) : XN l D K mi R A post mc ms pc lv st ws cells slots := fun p e s m args below meth c H locs ls C => lv_goto C.1 C.2.1 hd ht (k p e s m args below meth c H locs ls C)
theorem XN_icmp_ge {x y : Int32} {off : Int} {tgt : Nat} (hd : decode mi.2.1 pc = .ok (.if_icmp .ge off, 3)) (ht : (pc : Int) + off = (tgt : Int)) (hq : pc + 3 = q) (k1 : y ≤ x → XN l D K mi R A post mc ms tgt lv st ws cells slots) (k2 : ¬ (y ≤ x) → XN l D K mi R A post mc ms q lv st ws cells slots) : XN l D K mi R A post mc ms pc lv (.int y :: .int x :: st) ws cells slots := fun p e s m args below meth c H locs ls C => by
  subst hq
  exact lv_icmp_ge (tgt := tgt) C.1 C.2.1 hd ht (fun hc => k1 hc p e s m args below meth c H locs ls C) (fun hc => k2 hc p e s m args below meth c H locs ls C)
end NEWC
