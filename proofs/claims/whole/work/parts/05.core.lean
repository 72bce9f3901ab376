/-! THE JUDGEMENT: a frame of a method over the fixed world -/
def Rg (A : Nat → Nat) : Nat → Prop := fun q => ∃ i, i < ly_N ∧ q = A i
def zAbove : List Int32 := [0, 0, 0, 2, 0, 4]
def zWords : String := "barrel vat tun butt keg cask stake leave bung if or and not tide fill chalk rise number ( ) ; < = > "
def zBytes : List Int32 := [98, 97, 114, 114, 101, 108, 32, 118, 97, 116, 32, 116, 117, 110, 32, 98, 117, 116, 116, 32, 107, 101, 103, 32, 99, 97, 115, 107, 32, 115, 116, 97, 107, 101, 32, 108, 101, 97, 118, 101, 32, 98, 117, 110, 103, 32, 105, 102, 32, 111, 114, 32, 97, 110, 100, 32, 110, 111, 116, 32, 116, 105, 100, 101, 32, 102, 105, 108, 108, 32, 99, 104, 97, 108, 107, 32, 114, 105, 115, 101, 32, 110, 117, 109, 98, 101, 114, 32, 40, 32, 41, 32, 59, 32, 60, 32, 61, 32, 62, 32]
/-- what lies outside the world and is only read: ABOVE, the String of the words, two statics of the JDK -/
def Zs (A : Nat → Nat) (z : Nat → Nat) (zv : Option Nat) (U : State) : Prop :=
  va_Z "FloodCellar$Barrel" "ABOVE" "[I" (.ref (z 0)) (Rg A) U U.heap ∧ va_T .int (z 0) 6 (fun j => .int (zAbove.getD j 0)) (Rg A) U U.heap ∧
  va_Z "java/lang/String" "COMPACT_STRINGS" "Z" (.int 1) (Rg A) U U.heap ∧ va_Z "jdk/internal/util/Preconditions" "SIOOBE_FORMATTER" "Ljava/util/function/BiFunction;" (va_rf zv) (Rg A) U U.heap ∧
  vk_R "FloodCellar$Rules" 120 zWords (z 1) U ∧ vk_S 1 [100] [zBytes] (fun _ => z 1) (fun _ => z 2) (Rg A) U U.heap
theorem Zs.step {A : Nat → Nat} {z : Nat → Nat} {zv : Option Nat} {s U : State} {H : Heap} {locs : List Loc} (h : Zs A z zv s) (hS : va_S (Rg A) s.heap H locs) (hU : U.heap = H) (hW : s.WarmedH U.vm) : Zs A z zv U := by
  obtain ⟨h1, h2, h3, h4, h5, h6⟩ := h
  have hq : ∀ a : Nat, a < s.heap.size → ¬ Rg A a → H[a]? = s.heap[a]? := hS.2.1
  subst hU
  exact ⟨(h1.moved hW.alike).kept hq, (h2.moved hW.alike).kept hq, (h3.moved hW.alike).kept hq, (h4.moved hW.alike).kept hq, h5.warm hW, (h6.moved hW.alike).kept hq⟩
theorem Zs.same {A : Nat → Nat} {z : Nat → Nat} {zv : Option Nat} {s U : State} (h : Zs A z zv s) (hU : U.heap = s.heap) (hv : U.vm = s.vm) : Zs A z zv U := by
  obtain ⟨h1, h2, h3, h4, h5, h6⟩ := h
  have ha : s.vm.Alike U.vm := by rw [hv]; exact Vm.Alike.refl _
  rw [Zs, hU]
  exact ⟨h1.moved ha, h2.moved ha, h3.moved ha, h4.moved ha, h5.same hv, h6.moved ha⟩
abbrev Gm : Type := Launch × va_G × (Nat → Nat) × (Nat → ClassId) × (Nat → Nat) × Option Nat
abbrev gL (G : Gm) : Launch := G.1
abbrev gD (G : Gm) : va_G := G.2.1
abbrev ga (G : Gm) : Nat → Nat := G.2.2.1
abbrev gK (G : Gm) : Nat → ClassId := G.2.2.2.1
abbrev gz (G : Gm) : Nat → Nat := G.2.2.2.2.1
abbrev gv (G : Gm) : Option Nat := G.2.2.2.2.2
abbrev ty5 (K : Nat → ClassId) : List (ClassId × FieldType) := [(K 0, .int), (K 1, .byte), (K 2, .object RX3), (K 3, .object RX0), (K 4, .array .int)]
/-- the world holds the memory M -/
def Gd (G : Gm) (M : Mm) (U : State) : Prop := va_P (gD G) vwCl (wd (ga G) (gK G) M) U.heap ∧ va_K (gD G) vwCl (ty5 (gK G)) U ∧ va_D (Rg (ga G)) (wd (ga G) (gK G) M) ∧ Zs (ga G) (gz G) (gv G) U
def QQ (G : Gm) (v : Option Value) (M : Mm) : Array Value → State → Outcome → State → Prop := fun _ st oc t => (oc = .returned v ∧ Gd G M t) ∧ va_F (Rg (ga G)) st t
def rmd (d : Nat) : Room := { frames := d, cells := 0, slots := 0, locals := 64 * d }
abbrev Mi : Type := MethodName × ByteArray × Nat × Option FieldType
/-- a method's contract: with the memory M it ends as f of o says (o = none: nothing is said) -/
def Ct {α : Type} (f : α → Option Value × Mm) (G : Gm) (mi : Mi) (d : Nat) (av : List Value) (M : Mm) (o : Option α) : Prop :=
  ∀ r, o = some r → Met (gL G) mi.1 (Cond.code mi.1 mi.2.1 mi.2.2.1 mi.2.2.2 :: tb) (rmd d) (va_Pc av (Gd G M)) (QQ G (f r).1 (f r).2) 0 0 (Rg (ga G))
def Cx (G : Gm) (mi : Mi) (p : Program) (s : State) (m : MethodId) (args : Array Value) (meth : Method) (c : Code) (H : Heap) (locs : List Loc) (ls : Array Slot) (lv : List (Nat × Value)) (M : Mm) : Prop :=
  p.tables.exec = Jvm.exec ∧ c.code = mi.2.1 ∧ c.maxLocals = mi.2.2.1 ∧ meth.sig.returnType = mi.2.2.2 ∧ meth.locks = false ∧ s.vm.findClass mi.1.cls = some m.cls ∧ (∀ w ∈ tb, w.before args s = true) ∧
  va_K (gD G) vwCl (ty5 (gK G)) s ∧ va_P (gD G) vwCl (wd (ga G) (gK G) M) H ∧ va_D (Rg (ga G)) (wd (ga G) (gK G) M) ∧ Zs (ga G) (gz G) (gv G) s ∧ va_S (Rg (ga G)) s.heap H locs ∧ lv_has ls mi.2.2.1 lv
/-- a frame of the method mi at pc -/
def X {α : Type} (f : α → Option Value × Mm) (G : Gm) (mi : Mi) (d pc : Nat) (lv : List (Nat × Value)) (st : List Value) (M : Mm) (o : Option α) : Prop :=
  ∀ r, o = some r → ∀ (p : Program) (e : Env) (s : State) (m : MethodId) (args : Array Value) (below : List Frame) (meth : Method) (c : Code) (H : Heap) (locs : List Loc) (ls : Array Slot), Cx G mi p s m args meth c H locs ls lv M →
    W p (gL G) e (rmd d) s m args below meth c H locs 0 0 (MQ below (QQ G (f r).1 (f r).2) args s 0 0 (Rg (ga G))) (F0 m pc ls st)
theorem Cx.loc {G : Gm} {mi : Mi} {p : Program} {s : State} {m : MethodId} {args : Array Value} {meth : Method} {c : Code} {H : Heap} {locs : List Loc} {ls ls' : Array Slot} {lv lv' : List (Nat × Value)} {M : Mm} (C : Cx G mi p s m args meth c H locs ls lv M) (h : lv_has ls' mi.2.2.1 lv') : Cx G mi p s m args meth c H locs ls' lv' M := by
  obtain ⟨a1, a2, a3, a4, a5, a6, a7, a8, a9, a10, a11, a12, a13⟩ := C
  exact ⟨a1, a2, a3, a4, a5, a6, a7, a8, a9, a10, a11, a12, h⟩
theorem Cx.mem {G : Gm} {mi : Mi} {p : Program} {s : State} {m : MethodId} {args : Array Value} {meth : Method} {c : Code} {H H' : Heap} {locs locs' : List Loc} {ls : Array Slot} {lv : List (Nat × Value)} {M M' : Mm} (C : Cx G mi p s m args meth c H locs ls lv M) (h1 : va_P (gD G) vwCl (wd (ga G) (gK G) M') H') (h2 : va_D (Rg (ga G)) (wd (ga G) (gK G) M')) (h3 : va_S (Rg (ga G)) s.heap H' locs') : Cx G mi p s m args meth c H' locs' ls lv M' := by
  obtain ⟨a1, a2, a3, a4, a5, a6, a7, a8, a9, a10, a11, a12, a13⟩ := C
  exact ⟨a1, a2, a3, a4, a5, a6, a7, a8, h1, h2, a11, h3, a13⟩
section CORE
variable {G : Gm} {mi : Mi} {d pc : Nat} {lv : List (Nat × Value)} {st : List Value} {M : Mm} {α : Type} {f : α → Option Value × Mm} {o o1 o2 : Option α}
theorem X_none : X f G mi d pc lv st M none := fun r h => by cases h
theorem X_lv {lv' : List (Nat × Value)} (ks : List Nat) (h : lv_pick lv ks = lv') (k : X f G mi d pc lv' st M o) : X f G mi d pc lv st M o := fun r ho p e s m args below meth c H locs ls C => k r ho p e s m args below meth c H locs ls (C.loc (lv_sub C.2.2.2.2.2.2.2.2.2.2.2.2 ks h))
/-- o where a test holds, nothing where it doesn't -/
theorem X_if {q : Prop} {_ : Decidable q} (h1 : q → X f G mi d pc lv st M o1) (h2 : ¬ q → X f G mi d pc lv st M o2) : X f G mi d pc lv st M (if q then o1 else o2) := by
  split
  · exact h1 ‹_›
  · exact h2 ‹_›
/-- a method out of its frame -/
theorem Ct_of {av : List Value} (hp : plainName mi.1.cls = true) (hn : (lg_sl av).length ≤ mi.2.2.1) (k : X f G mi d 0 (lv_args 0 av) [] M o) : Ct f G mi d av M o := by
  intro r ho
  refine Met.ofW (cc := mi.2.1) (maxL := mi.2.2.1) (ret := mi.2.2.2) hp rfl ?_
  intro p e s m args below meth c s₁ B hml hv
  obtain ⟨rfl, hP, hK, hD, hZ⟩ := hv
  have hts := atoms_spec (ws := Cond.code mi.1 mi.2.1 mi.2.2.1 mi.2.2.2 :: tb) B.pre
  have hl := lv_entry av (n := mi.2.2.1) hn
  rw [lg_entry_eq]
  exact k r ho p e s m _ below meth c s.heap [] _ ⟨B.exec, B.bytes, hml, B.returns, B.notSynchronized, findClass_of_methodNamed B.named, fun w hw => hts w (List.mem_cons_of_mem _ hw), hK, hP, hD, hZ, va_S.rf, hl⟩
end CORE
