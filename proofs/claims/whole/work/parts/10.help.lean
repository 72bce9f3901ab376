/-! HELPS of the walks -/
def jc {γ δ : Type} (r : γ) (t : γ → δ) : δ := t r
/-- o where the divisor isn't 0 -/
def nz {α : Type} (y : Int32) (o : Option α) : Option α := if y = 0 then none else o
abbrev ir (x y : Int32) : Int32 := x - x / y * y
abbrev us (x y : Int32) : Int32 := (x.toUInt32 >>> (y.toUInt32 &&& Int32.toUInt32 31)).toInt32
abbrev tb8 (x : Int32) : Int32 := x.toInt8.toInt32
abbrev ts16 (x : Int32) : Int32 := x.toInt16.toInt32
abbrev tc16 (x : Int32) : Int32 := (x.toUInt32 % 65536).toInt32
abbrev mx (x y : Int32) : Int32 := if x < y then y else x
abbrev mn (x y : Int32) : Int32 := if y < x then y else x
def Mx (own : String) (idx : Nat) (y : MethodName) (cc : ByteArray) : Prop := Cond.methodLink own idx y ∈ tb ∧ Cond.static y ∈ tb ∧ Cond.initialized "java/lang/Math" ∈ tb ∧ Cond.code y cc 2 (some .int) ∈ tb
abbrev fU (M : Mm) : Unit → Option Value × Mm := fun _ => (none, M)
section HELP
variable {G : Gm} {mi : Mi} {d pc q : Nat} {lv : List (Nat × Value)} {st av : List Value} {M : Mm} {α : Type} {f : α → Option Value × Mm} {o : Option α}
theorem X_jc {γ : Type} {r : γ} {t : γ → Option α} {P : γ → Prop} (hr : P r) (k : ∀ j, P j → X f G mi d pc lv st M (t j)) : X f G mi d pc lv st M (jc r t) := k r hr
theorem X_nz {y : Int32} (k : ¬ y = 0 → X f G mi d pc lv st M o) : X f G mi d pc lv st M (nz y o) := by
  unfold nz
  exact X_if (fun _ => X_none) k
theorem X_max {idx : Nat} {x y : Int32} (F : Mx mi.1.cls idx Lib.Math.max.name Lib.Math.max.code) (hd0 : 1 ≤ d) (hw : (st.map fun v => v.category).sum ≤ 8) (hd : decode mi.2.1 pc = .ok (.invokestatic idx, 3)) (hq : pc + 3 = q) (k : X f G mi d q lv (.int (mx x y) :: st) M o) : X f G mi d pc lv (.int y :: .int x :: st) M o := fun r hr p e s m args below meth c H locs ls C => by
  subst hq
  have hts := C.2.2.2.2.2.2.1
  have h9 : (st.map fun v => v.category).sum + 13 ≤ (rmd d).locals := by
    show _ ≤ 64 * d
    omega
  exact va_mmax C.1 C.2.1 (C.2.2.1.trans C.2.2.2.2.2.2.2.2.2.2.2.2.1.symm) C.2.2.2.2.2.1 (hts _ F.1) (hts _ F.2.1) (hts _ F.2.2.1) (hts _ F.2.2.2) (by show 1 ≤ d; exact hd0) h9 (Nat.le_refl 0) (Nat.le_refl 0) hd (k r hr p e s m args below meth c H locs ls C)
theorem X_min {idx : Nat} {x y : Int32} (F : Mx mi.1.cls idx Lib.Math.min.name Lib.Math.min.code) (hd0 : 1 ≤ d) (hw : (st.map fun v => v.category).sum ≤ 8) (hd : decode mi.2.1 pc = .ok (.invokestatic idx, 3)) (hq : pc + 3 = q) (k : X f G mi d q lv (.int (mn x y) :: st) M o) : X f G mi d pc lv (.int y :: .int x :: st) M o := fun r hr p e s m args below meth c H locs ls C => by
  subst hq
  have hts := C.2.2.2.2.2.2.1
  have h9 : (st.map fun v => v.category).sum + 13 ≤ (rmd d).locals := by
    show _ ≤ 64 * d
    omega
  exact va_mmin C.1 C.2.1 (C.2.2.1.trans C.2.2.2.2.2.2.2.2.2.2.2.2.1.symm) C.2.2.2.2.2.1 (hts _ F.1) (hts _ F.2.1) (hts _ F.2.2.1) (hts _ F.2.2.2) (by show 1 ≤ d; exact hd0) h9 (Nat.le_refl 0) (Nat.le_refl 0) hd (k r hr p e s m args below meth c H locs ls C)
theorem X_vretU (hr : mi.2.2.2 = none) (hd : decode mi.2.1 pc = .ok (.return_, 1)) : X (fU M) G mi d pc lv [] M (some ()) := fun r ho => X_vret hr hd M rfl
theorem X_ruU {st0 : List Value} {x : Option Unit} {kk : Unit → Option α} (hR : Ru (fU M) G mi d pc lv st0 st M x) (hq : pc + 3 = q) (k : X f G mi d q lv st M (kk ())) : X f G mi d pc lv st0 M (x.bind kk) := X_ru hR hq (fun r _ => k)
theorem Ct_none : Ct f G mi d av M none := fun r h => by cases h
end HELP
theorem rf_all : ∀ i, i < ly_N → ly_ty i = 3 → ly_rf i 0 = i + 1 ∧ ly_rf i 1 = i + 2 ∧ ly_ty (i + 1) = 20 ∧ ly_ty (i + 2) = 20 ∧ ly_ln (i + 1) = 6 ∧ ly_ln (i + 2) = 6 := by decide +kernel
theorem rf_eq0 {i : Nat} (h : ly_ty i = 3) : ly_rf i 0 = i + 1 := (rf_all i (lt_of_ty h (by decide)) h).1
theorem rf_eq1 {i : Nat} (h : ly_ty i = 3) : ly_rf i 1 = i + 2 := (rf_all i (lt_of_ty h (by decide)) h).2.1
theorem rf_ty0 {i : Nat} (h : ly_ty i = 3) : ly_ty (i + 1) = 20 := (rf_all i (lt_of_ty h (by decide)) h).2.2.1
theorem rf_ty1 {i : Nat} (h : ly_ty i = 3) : ly_ty (i + 2) = 20 := (rf_all i (lt_of_ty h (by decide)) h).2.2.2.1
theorem rf_ln0 {i : Nat} (h : ly_ty i = 3) : ly_ln (i + 1) = 6 := (rf_all i (lt_of_ty h (by decide)) h).2.2.2.2.1
theorem rf_ln1 {i : Nat} (h : ly_ty i = 3) : ly_ln (i + 2) = 6 := (rf_all i (lt_of_ty h (by decide)) h).2.2.2.2.2
theorem ty_floods' : ∀ j, j < 5 → ly_ty (ly_rf 76 j) = 3 := by decide +kernel
theorem ty_floods {j : Nat} (h : j < 5) : ly_ty (ly_rf 76 j) = 3 := ty_floods' j h
theorem ty_items' : ∀ j, j < 4 → ly_ty (ly_rf 18 j) = 20 ∧ ly_ln (ly_rf 18 j) = 40 := by decide +kernel
theorem ty_items {j : Nat} (h : j < 4) : ly_ty (ly_rf 18 j) = 20 := (ty_items' j h).1
theorem ln_items {j : Nat} (h : j < 4) : ly_ln (ly_rf 18 j) = 40 := (ty_items' j h).2
theorem ty_nat' : ∀ j, j < 6 → ly_ty (ly_rf 26 j) = 0 ∨ ly_ty (ly_rf 26 j) = 9 ∨ ly_ty (ly_rf 26 j) = 8 ∨ ly_ty (ly_rf 26 j) = 1 ∨ ly_ty (ly_rf 26 j) = 4 ∨ ly_ty (ly_rf 26 j) = 2 := by decide +kernel
theorem ty_nat {j : Nat} (h : j < 6) : ly_ty (ly_rf 26 j) = 0 ∨ ly_ty (ly_rf 26 j) = 9 ∨ ly_ty (ly_rf 26 j) = 8 ∨ ly_ty (ly_rf 26 j) = 1 ∨ ly_ty (ly_rf 26 j) = 4 ∨ ly_ty (ly_rf 26 j) = 2 := ty_nat' j h
theorem long_u' : ∀ k, k < 39 → (ly_kd 12)[k]? = some 1 → k = 12 := by decide +kernel
theorem long_u : ∀ k, (ly_kd 12)[k]? = some 1 → k = 12 := fun k h => long_u' k ((List.getElem?_eq_some_iff.mp h).1) h
