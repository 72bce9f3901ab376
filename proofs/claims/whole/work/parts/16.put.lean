/-! CONSTRUCTORS: stores, the row's new contents under a new name -/
section NEWP
variable {l : Launch} {D : va_G} {K : Nat → ClassId} {mi mi2 : Mi} {R : Room} {A : Nat → Prop} {post post2 : va_W → Prop} {mc ms pc q cells slots idx : Nat} {lv : List (Nat × Value)} {st av : List Value} {ws : va_W}
/-- the next of a row's places is filled with y, as those before it -/
theorem XN_iastK {a i n m : Nat} {f : Nat → Int32} {x y : Int32} (he : ws[i]? = some (a, .inl (K 0, n, .inl f))) (hx : x.toNatClampNeg = m) (hin : vp_in x n) (hp : ∀ j, j < m → f j = y) (hd : decode mi.2.1 pc = .ok (.iastore, 1)) (hq : pc + 1 = q) (k : ∀ g : Nat → Int32, (∀ j, j < m + 1 → g j = y) → XN l D K mi R A post mc ms q lv st (ws.set i (a, .inl (K 0, n, .inl g))) cells slots) : XN l D K mi R A post mc ms pc lv (.int y :: .int x :: .ref a :: st) ws cells slots := by
  refine XN_iast he hin hd hq (k _ (fun j hj => ?_))
  subst hx
  by_cases h : j = x.toNatClampNeg
  · subst h
    simp [upd]
  · simp [upd, h, hp j (by omega)]
theorem XN_astqK {a i i2 n t v ci m : Nat} {E : String} {f : Nat → Option Nat} {x : Int32} {fs : List Value} {cq : vw_C} (ht : (ty5 K)[t]? = some (K t, .object E)) (he : ws[i]? = some (a, .inl (K t, n, .inr (.inr (.inr (.inr f)))))) (he2 : ws[i2]? = some (v, .inr (ci, fs))) (hc : vwCl[ci]? = some cq) (hE : cq.1 = E ∨ (cq.1, E) ∈ castL) (hx : x.toNatClampNeg = m) (hin : vp_in x n) (hd : decode mi.2.1 pc = .ok (.aastore, 1)) (hq : pc + 1 = q) (k : ∀ g : Nat → Option Nat, g m = some v → (∀ j, j < m → g j = f j) → XN l D K mi R A post mc ms q lv st (ws.set i (a, .inl (K t, n, .inr (.inr (.inr (.inr g)))))) cells slots) : XN l D K mi R A post mc ms pc lv (.ref v :: .int x :: .ref a :: st) ws cells slots := by
  subst hx
  refine XN_astq ht he he2 hc hE hin hd hq (k _ ?_ (fun j hj => ?_))
  · simp [va_up]
  · simp [va_up, Nat.ne_of_lt hj]
end NEWP
