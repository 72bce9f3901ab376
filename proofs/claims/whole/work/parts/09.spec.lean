/-! RULES: copies of rows, switches, what is only read -/
/-- a whole row is put in place of a cell's -/
def sc (M : Mm) (c : Nat) (g : Nat → Int32) : Mm := (fun c' => if c' = c then g else M.1 c', M.2)
def ckc {α : Type} (sp dp n : Int32) (n0 n1 : Nat) (o : Option α) : Option α := if sp < 0 ∨ dp < 0 ∨ n < 0 ∨ n0 < ui sp + ui n ∨ n1 < ui dp + ui n then none else o
theorem sc_off {M : Mm} {c c' : Nat} {g : Nat → Int32} (h : c' ≠ c) : (sc M c g).1 c' = M.1 c' := by simp [sc, h]
theorem sc_at {M : Mm} {c : Nat} {g : Nat → Int32} : (sc M c g).1 c = g := by simp [sc]
def Cc (own : String) (idx : Nat) : Prop := Cond.methodLink own idx arraycopyName ∈ tb ∧ Cond.native arraycopyName ∈ tb ∧ Cond.static arraycopyName ∈ tb ∧ Cond.initialized "java/lang/System" ∈ tb
theorem ne_toInt {x a : Int32} {n : Int} (h : ¬ x = a) (ha : a.toInt = n) : x.toInt ≠ n := fun hx => h (Int32.toInt_inj.mp (hx.trans ha.symm))
section SPEC
variable {G : Gm} {mi mi2 : Mi} {d d2 pc q idx n : Nat} {lv : List (Nat × Value)} {st st0 av : List Value} {M : Mm} {α β : Type} {f : α → Option Value × Mm} {g : β → Option Value × Mm} {o : Option α} {ob : Option β}
theorem X_copy {i0 i1 n0 n1 : Nat} {sp dp n : Int32} (F : Cc mi.1.cls idx) (hd0 : 2 ≤ d) (ht0 : ly_ty i0 = 20) (ht1 : ly_ty i1 = 20) (hn0 : ly_ln i0 = n0) (hn1 : ly_ln i1 = n1) (hw : (st.map fun v => v.category).sum ≤ 8) (hd : decode mi.2.1 pc = .ok (.invokestatic idx, 3)) (hq : pc + 3 = q) (k : X f G mi d q lv st (sc M i1 (va_cpy (M.1 i0) (M.1 i1) (ui sp) (ui dp) (ui n))) o) : X f G mi d pc lv (.int n :: .int dp :: .ref (ga G i1) :: .int sp :: .ref (ga G i0) :: st) M (ckc sp dp n n0 n1 o) := by
  subst hq
  subst hn0
  subst hn1
  have hi0 := lt_of_ty ht0 (by omega)
  have hi1 := lt_of_ty ht1 (by omega)
  intro r ho p e s m args below meth c H locs ls C
  obtain ⟨f1, f2, f3, f4⟩ := F
  have hts := C.2.2.2.2.2.2.1
  unfold ckc at ho
  split at ho
  · cases ho
  · rename_i hc
    have h8 : 1 ≤ (rmd d).frames := by show 1 ≤ d; omega
    have h7 : nativeFrameWords "java/lang/System" "arraycopy" 5 ≤ 60 := by decide
    have h9 : (st.map fun v => v.category).sum + (nativeFrameWords "java/lang/System" "arraycopy" 5 + 11) ≤ (rmd d).locals := by
      show _ ≤ 64 * d
      omega
    refine va_copyi (ty := .int) C.1 C.2.1 (C.2.2.1.trans C.2.2.2.2.2.2.2.2.2.2.2.2.1.symm) C.2.2.2.2.2.1 (hts _ f1) (hts _ f2) (hts _ f3) (hts _ f4) C.2.2.2.2.2.2.2.1 C.2.2.2.2.2.2.2.2.1 C.2.2.2.2.2.2.2.2.2.1 C.2.2.2.2.2.2.2.2.2.2.2.1 i0 i1 0 0 (by rw [wd_at hi0, cel_int ht0]) (by rw [wd_at hi1, cel_int ht1]) rfl rfl rfl (fun h => hc (Or.inl h)) (fun h => hc (Or.inr (Or.inl h))) (fun h => hc (Or.inr (Or.inr (Or.inl h)))) (Nat.not_lt.mp fun h => hc (Or.inr (Or.inr (Or.inr (Or.inl h))))) (Nat.not_lt.mp fun h => hc (Or.inr (Or.inr (Or.inr (Or.inr h))))) (fun i _ => rfl) h8 h9 hd (fun H1 locs1 hP hD hS => ?_)
    rw [wd_set hi1 (M' := sc M i1 (va_cpy (M.1 i0) (M.1 i1) (ui sp) (ui dp) (ui n))) (by rw [cel_int ht1, sc_at]) (fun c9 _ hc9 => cel_ne (sc_off hc9) rfl)] at hP hD
    exact k r ho p e s m args below meth c H1 locs1 ls (C.mem hP hD hS)
theorem X_tsIn {dflt lo hi : Int} {offs : Array Int} {len : Nat} {x : Int32} {off : Int} {tgt : Nat} (hd : decode mi.2.1 pc = .ok (.tableswitch dflt lo hi offs, len)) (h1 : ¬ x.toInt < lo) (h2 : ¬ hi < x.toInt) (ho : offs[(x.toInt - lo).toNat]? = some off) (ht : (pc : Int) + off = (tgt : Int)) (k : X f G mi d tgt lv st M o) : X f G mi d pc lv (.int x :: st) M o := fun r hr p e s m args below meth c H locs ls C => lv_tableIn C.1 C.2.1 hd h1 h2 ho ht (k r hr p e s m args below meth c H locs ls C)
theorem X_tsOut {dflt lo hi : Int} {offs : Array Int} {len : Nat} {x : Int32} {tgt : Nat} (hd : decode mi.2.1 pc = .ok (.tableswitch dflt lo hi offs, len)) (h : x.toInt < lo ∨ hi < x.toInt) (ht : (pc : Int) + dflt = (tgt : Int)) (k : X f G mi d tgt lv st M o) : X f G mi d pc lv (.int x :: st) M o := fun r hr p e s m args below meth c H locs ls C => lv_tableOut C.1 C.2.1 hd h ht (k r hr p e s m args below meth c H locs ls C)
theorem X_lsw {dflt : Int} {ps : Array (Int × Int)} {len : Nat} {x : Int32} {off : Int} {tgt : Nat} (hd : decode mi.2.1 pc = .ok (.lookupswitch dflt ps, len)) (hp : (ps.toList.zip (ps.toList.drop 1)).all (fun (a, next) => a.1 < next.1) = true) (ho : Op.lookupswitch.offset ps.toList dflt x.toInt = off) (ht : (pc : Int) + off = (tgt : Int)) (k : X f G mi d tgt lv st M o) : X f G mi d pc lv (.int x :: st) M o := fun r hr p e s m args below meth c H locs ls C => lv_lookup C.1 C.2.1 hd hp ho ht (k r hr p e s m args below meth c H locs ls C)
theorem X_gsA (hl : Cond.fieldLink mi.1.cls idx "FloodCellar$Barrel" "ABOVE" "[I" ∈ tb) (hd : decode mi.2.1 pc = .ok (.getstatic idx, 3)) (hq : pc + 3 = q) (k : X f G mi d q lv (.ref (gz G 0) :: st) M o) : X f G mi d pc lv st M o := fun r hr p e s m args below meth c H locs ls C => by
  subst hq
  exact va_gets C.1 C.2.1 C.2.2.2.2.2.2.2.2.2.2.1.1 C.2.2.2.2.2.2.2.2.2.2.2.1 C.2.2.2.2.2.1 (C.2.2.2.2.2.2.1 _ hl) (fun _ h => h) hd (k r hr p e s m args below meth c H locs ls C)
theorem X_gsC (hl : Cond.fieldLink mi.1.cls idx "java/lang/String" "COMPACT_STRINGS" "Z" ∈ tb) (hd : decode mi.2.1 pc = .ok (.getstatic idx, 3)) (hq : pc + 3 = q) (k : X f G mi d q lv (.int 1 :: st) M o) : X f G mi d pc lv st M o := fun r hr p e s m args below meth c H locs ls C => by
  subst hq
  exact va_gets C.1 C.2.1 C.2.2.2.2.2.2.2.2.2.2.1.2.2.1 C.2.2.2.2.2.2.2.2.2.2.2.1 C.2.2.2.2.2.1 (C.2.2.2.2.2.2.1 _ hl) (fun _ h => h) hd (k r hr p e s m args below meth c H locs ls C)
theorem X_gsF (hl : Cond.fieldLink mi.1.cls idx "jdk/internal/util/Preconditions" "SIOOBE_FORMATTER" "Ljava/util/function/BiFunction;" ∈ tb) (hd : decode mi.2.1 pc = .ok (.getstatic idx, 3)) (hq : pc + 3 = q) (k : X f G mi d q lv (va_rf (gv G) :: st) M o) : X f G mi d pc lv st M o := fun r hr p e s m args below meth c H locs ls C => by
  subst hq
  exact va_gets C.1 C.2.1 C.2.2.2.2.2.2.2.2.2.2.1.2.2.2.1 C.2.2.2.2.2.2.2.2.2.2.2.1 C.2.2.2.2.2.1 (C.2.2.2.2.2.2.1 _ hl) (fun _ h => h) hd (k r hr p e s m args below meth c H locs ls C)
theorem X_ald0 {x : Int32} (hd : decode mi.2.1 pc = .ok (.iaload, 1)) (hq : pc + 1 = q) (k : X f G mi d q lv (.int (zAbove.getD (ui x) 0) :: st) M o) : X f G mi d pc lv (.int x :: .ref (gz G 0) :: st) M (ck x 6 o) := fun r hr p e s m args below meth c H locs ls C => by
  subst hq
  obtain ⟨hin, hr⟩ := ck_in hr
  exact va_ti C.1 C.2.1 C.2.2.2.2.2.2.2.2.2.2.1.2.1 C.2.2.2.2.2.2.2.2.2.2.2.1 hin rfl hd (k r hr p e s m args below meth c H locs ls C)
theorem X_alen0 (hd : decode mi.2.1 pc = .ok (.arraylength, 1)) (hq : pc + 1 = q) (k : X f G mi d q lv (.int 6 :: st) M o) : X f G mi d pc lv (.ref (gz G 0) :: st) M o := fun r hr p e s m args below meth c H locs ls C => by
  subst hq
  exact va_tlen C.1 C.2.1 C.2.2.2.2.2.2.2.2.2.2.1.2.1 C.2.2.2.2.2.2.2.2.2.2.2.1 rfl hd (k r hr p e s m args below meth c H locs ls C)
theorem X_ldcS (h1 : mi.1.cls = "FloodCellar$Rules") (hd : decode mi.2.1 pc = .ok (.ldc 120, 2)) (hq : pc + 2 = q) (k : X f G mi d q lv (.ref (gz G 1) :: st) M o) : X f G mi d pc lv st M o := fun r hr p e s m args below meth c H locs ls C => by
  subst hq
  exact va_ldcS C.1 C.2.1 (by rw [← h1]; exact C.2.2.2.2.2.1) C.2.2.2.2.2.2.2.2.2.2.1.2.2.2.2.1 hd (k r hr p e s m args below meth c H locs ls C)
theorem X_sVal (hl : Cond.fieldLink mi.1.cls idx "java/lang/String" "value" "[B" ∈ tb) (hd : decode mi.2.1 pc = .ok (.getfield idx, 3)) (hq : pc + 3 = q) (k : X f G mi d q lv (.ref (gz G 2) :: st) M o) : X f G mi d pc lv (.ref (gz G 1) :: st) M o := fun r hr p e s m args below meth c H locs ls C => by
  subst hq
  exact vk_getf C.1 C.2.1 (C.2.2.2.2.2.2.2.2.2.2.1.2.2.2.2.2.1 0 (by decide)).2.2.1 C.2.2.2.2.2.2.2.2.2.2.2.1 C.2.2.2.2.2.1 (C.2.2.2.2.2.2.1 _ hl) (fun _ h => h) hd (k r hr p e s m args below meth c H locs ls C)
theorem X_sCod (hl : Cond.fieldLink mi.1.cls idx "java/lang/String" "coder" "B" ∈ tb) (hd : decode mi.2.1 pc = .ok (.getfield idx, 3)) (hq : pc + 3 = q) (k : X f G mi d q lv (.int 0 :: st) M o) : X f G mi d pc lv (.ref (gz G 1) :: st) M o := fun r hr p e s m args below meth c H locs ls C => by
  subst hq
  exact vk_getf C.1 C.2.1 (C.2.2.2.2.2.2.2.2.2.2.1.2.2.2.2.2.1 0 (by decide)).2.1 C.2.2.2.2.2.2.2.2.2.2.2.1 C.2.2.2.2.2.1 (C.2.2.2.2.2.2.1 _ hl) (fun _ h => h) hd (k r hr p e s m args below meth c H locs ls C)
theorem X_ald2 {x : Int32} (hd : decode mi.2.1 pc = .ok (.baload, 1)) (hq : pc + 1 = q) (k : X f G mi d q lv (.int (zBytes.getD (ui x) 0) :: st) M o) : X f G mi d pc lv (.int x :: .ref (gz G 2) :: st) M (ck x 100 o) := fun r hr p e s m args below meth c H locs ls C => by
  subst hq
  obtain ⟨hin, hr⟩ := ck_in hr
  exact va_tb C.1 C.2.1 (C.2.2.2.2.2.2.2.2.2.2.1.2.2.2.2.2.1 0 (by decide)).2.2.2 C.2.2.2.2.2.2.2.2.2.2.2.1 hin rfl hd (k r hr p e s m args below meth c H locs ls C)
theorem X_alen2 (hd : decode mi.2.1 pc = .ok (.arraylength, 1)) (hq : pc + 1 = q) (k : X f G mi d q lv (.int 100 :: st) M o) : X f G mi d pc lv (.ref (gz G 2) :: st) M o := fun r hr p e s m args below meth c H locs ls C => by
  subst hq
  exact va_tlen C.1 C.2.1 (C.2.2.2.2.2.2.2.2.2.2.1.2.2.2.2.2.1 0 (by decide)).2.2.2 C.2.2.2.2.2.2.2.2.2.2.2.1 rfl hd (k r hr p e s m args below meth c H locs ls C)
/-- a method of the String of the words -/
def Cw (own : String) (idx : Nat) (mi2 : Mi) (n : Nat) : Prop := mi2.1.cls = "java/lang/String" ∧ Cond.methodLink own idx mi2.1 ∈ tb ∧ Cond.instanceMethod mi2.1 ∈ tb ∧ Cond.selects mi2.1.cls mi2.1 mi2.1 ∈ tb ∧ Cond.initialized mi2.1.cls ∈ tb ∧ Cond.code mi2.1 mi2.2.1 mi2.2.2.1 mi2.2.2.2 ∈ tb ∧ (mi2.1.cls ≠ "java/lang/invoke/MethodHandle" ∧ mi2.1.cls ≠ "java/lang/invoke/VarHandle" ∧ (parseMethodDescriptor mi2.1.desc).map (fun d => d.parameters.length) = some n) ∧ mi2.2.2.1 ≤ 40
theorem Ru_W (F : Cw mi.1.cls idx mi2 n) (hC : Ct g G mi2 d2 (.ref (gz G 1) :: av) M ob) (hdd : d2 + 1 ≤ d) (hn : av.length = n) (hst : st0 = av.reverse ++ .ref (gz G 1) :: st) (hw : (st.map fun v => v.category).sum ≤ 8) (hd : decode mi.2.1 pc = .ok (.invokevirtual idx, 3)) : Ru g G mi d pc lv st0 st M ob := by
  intro r1 ho p e s m args below meth c H locs ls C
  obtain ⟨f0, f1, f2, f3, f4, f5, f6, f7⟩ := F
  have hts := C.2.2.2.2.2.2.1
  have hrec := vk_recv C.2.2.2.2.2.2.2.2.2.2.1.2.2.2.2.2 (i := 0) (by decide) C.2.2.2.2.2.2.2.2.2.2.2.1
  exact va_runV (Ts := tb) (nL := mi.2.2.1) (C := mi2.1.cls) (ws := Cond.code mi2.1 mi2.2.1 mi2.2.2.1 mi2.2.2.2 :: tb) (As := av) ⟨C.1, C.2.1, C.2.2.1, C.2.2.2.2.2.1, hts⟩ (hC r1 ho) ⟨callB_of n hts (tb_cons f5) rfl rfl rfl (hts _ f4) (hts _ f1) f6 ⟨hdd, by show 8 + (mi2.2.2.1 + 11) + 64 * d2 ≤ 64 * d; omega⟩, hts _ f2, hts _ f3⟩ ⟨blind, by rw [f0]; exact hrec, fun U hU hW => ⟨rfl, C.good hU hW⟩⟩ rfl hn C.2.2.2.2.2.2.2.2.2.2.2.2.1 hst (lv_room hw) hd ⟨Nat.le_refl 0, Nat.le_refl 0⟩
/-- an answer narrowed to char or byte -/
def nr {γ : Type} (ty : FieldType) (x : Int32) (o : Option γ) : Option γ := if vp_nar ty x = x then o else none
theorem nar_of {ty : FieldType} {x : Int32} (ht : ty = .char ∨ ty = .byte) (h : vp_nar ty x = x) : narrow ty (.int x) = .int x := by
  rcases ht with rfl | rfl <;> exact congrArg Value.int h
theorem X_nretI {x : Int32} {ty : FieldType} (hr : mi.2.2.2 = some ty) (ht : ty = .char ∨ ty = .byte) (hd : decode mi.2.1 pc = .ok (.ireturn, 1)) : X (fI M) G mi d pc lv [.int x] M (nr ty x (some x)) := by
  unfold nr
  exact X_if (fun h => X_iretT hr rfl (nar_of ht h) hd) (fun _ => X_none)
end SPEC
