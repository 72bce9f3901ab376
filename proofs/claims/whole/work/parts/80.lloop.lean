/-! THE LAW'S LOOP -/
theorem and63 (x : Int32) : ∃ v, v < 64 ∧ x &&& 63 = oi v := by
  refine ⟨(x &&& 63).toUInt32.toNat, ?_, ?_⟩
  · show (x.toBitVec &&& BitVec.ofNat 32 63).toNat < 64
    rw [BitVec.toNat_and]
    exact Nat.lt_of_le_of_lt Nat.and_le_right (by decide)
  · show x &&& 63 = Int32.ofNat (x &&& 63).toUInt32.toNat
    have : Int32.ofNat (x &&& 63).toUInt32.toNat = (UInt32.ofNat (x &&& 63).toUInt32.toNat).toInt32 := rfl
    rw [this, UInt32.ofNat_toNat]
    rfl
theorem oi_int {v : Nat} (h : v < 64) : (oi v).toInt = (v : Int) := Int32.toInt_ofNat_of_lt (by omega)
theorem lgt {L i : Nat} (hL : L ≤ 2560) (hi : i ≤ L) : oi L - oi 5 < oi i ↔ ¬ i + 5 ≤ L := by
  by_cases h : 5 ≤ L
  · rw [sub_oi h, lt_oi (by omega) (by omega)]
    omega
  · refine ⟨fun _ => by omega, fun _ => ?_⟩
    exact Int32.lt_of_lt_of_le (sub_lt0 (by omega) (by omega) (by omega)) ((le_oi (by omega) (by omega)).mpr (Nat.zero_le i))
section LLOOP
variable {G : Gm} {p : Program} {e : Env} {s : State} {m : MethodId} {below : List Frame} {meth : Method} {c : Code} {b L : Nat} {xs : Nat → Int32}
theorem LW_tsIn {pc : Nat} {lv : List (Nat × Value)} {st : List Value} {M : Mm} {dflt lo hi : Int} {offs : Array Int} {len : Nat} {x : Int32} {off : Int} {tgt : Nat} (C : LwC G p s m meth c b L xs) (hd : decode code pc = .ok (.tableswitch dflt lo hi offs, len)) (h1 : ¬ x.toInt < lo) (h2 : ¬ hi < x.toInt) (ho : offs[(x.toInt - lo).toNat]? = some off) (ht : (pc : Int) + off = (tgt : Int)) (k : XW G p e s m below meth c b tgt lv st M) : XW G p e s m below meth c b pc lv (.int x :: st) M := fun H ls hP hD hS hl2 => lv_tableIn C.1 C.2.1 hd h1 h2 ho ht (k H ls hP hD hS hl2)
theorem LW_tsOut {pc : Nat} {lv : List (Nat × Value)} {st : List Value} {M : Mm} {dflt lo hi : Int} {offs : Array Int} {len : Nat} {x : Int32} {tgt : Nat} (C : LwC G p s m meth c b L xs) (hd : decode code pc = .ok (.tableswitch dflt lo hi offs, len)) (h : x.toInt < lo ∨ hi < x.toInt) (ht : (pc : Int) + dflt = (tgt : Int)) (k : XW G p e s m below meth c b tgt lv st M) : XW G p e s m below meth c b pc lv (.int x :: st) M := fun H ls hP hD hS hl2 => lv_tableOut C.1 C.2.1 hd h ht (k H ls hP hD hS hl2)
set_option maxRecDepth 100000 in
theorem law_sw {i : Nat} {M : Mm} (C : LwC G p s m meth c b L xs) (hi : i + 5 ≤ L) (hI : Inv M M) (k : ∀ M2, Inv M2 M2 → XW G p e s m below meth c b 1745 (lvL G b i) [] M2) : ∀ v, v < 64 → XW G p e s m below meth c b 32 (lvL G b i) [.int (oi v)] M
  | 0, _ => LW_tsIn (off := 220) C dL_law_32 (by decide) (by decide) rfl (by decide) (lc_0 C hi hI k)
  | 1, _ => LW_tsIn (off := 273) C dL_law_32 (by decide) (by decide) rfl (by decide) (lc_1 C hi hI k)
  | 2, _ => LW_tsIn (off := 306) C dL_law_32 (by decide) (by decide) rfl (by decide) (lc_2 C hi hI k)
  | 3, _ => LW_tsIn (off := 349) C dL_law_32 (by decide) (by decide) rfl (by decide) (lc_3 C hi hI k)
  | 4, _ => LW_tsIn (off := 382) C dL_law_32 (by decide) (by decide) rfl (by decide) (lc_4 C hi hI k)
  | 5, _ => LW_tsIn (off := 415) C dL_law_32 (by decide) (by decide) rfl (by decide) (lc_5 C hi hI k)
  | 6, _ => LW_tsIn (off := 458) C dL_law_32 (by decide) (by decide) rfl (by decide) (lc_6 C hi hI k)
  | 7, _ => LW_tsIn (off := 491) C dL_law_32 (by decide) (by decide) rfl (by decide) (lc_7 C hi hI k)
  | 8, _ => LW_tsIn (off := 514) C dL_law_32 (by decide) (by decide) rfl (by decide) (lc_8 C hi hI k)
  | 9, _ => LW_tsIn (off := 527) C dL_law_32 (by decide) (by decide) rfl (by decide) (lc_9 C hi hI k)
  | 10, _ => LW_tsIn (off := 550) C dL_law_32 (by decide) (by decide) rfl (by decide) (lc_10 C hi hI k)
  | 11, _ => LW_tsIn (off := 613) C dL_law_32 (by decide) (by decide) rfl (by decide) (lc_11 C hi hI k)
  | 12, _ => LW_tsIn (off := 626) C dL_law_32 (by decide) (by decide) rfl (by decide) (lc_12 C hi hI k)
  | 13, _ => LW_tsIn (off := 639) C dL_law_32 (by decide) (by decide) rfl (by decide) (lc_13 C hi hI k)
  | 14, _ => LW_tsIn (off := 662) C dL_law_32 (by decide) (by decide) rfl (by decide) (lc_14 C hi hI k)
  | 15, _ => LW_tsIn (off := 685) C dL_law_32 (by decide) (by decide) rfl (by decide) (lc_15 C hi hI k)
  | 16, _ => LW_tsIn (off := 708) C dL_law_32 (by decide) (by decide) rfl (by decide) (lc_16 C hi hI k)
  | 17, _ => LW_tsIn (off := 731) C dL_law_32 (by decide) (by decide) rfl (by decide) (lc_17 C hi hI k)
  | 18, _ => LW_tsIn (off := 754) C dL_law_32 (by decide) (by decide) rfl (by decide) (lc_18 C hi hI k)
  | 19, _ => LW_tsIn (off := 777) C dL_law_32 (by decide) (by decide) rfl (by decide) (lc_19 C hi hI k)
  | 20, _ => LW_tsIn (off := 810) C dL_law_32 (by decide) (by decide) rfl (by decide) (lc_20 C hi hI k)
  | 21, _ => LW_tsIn (off := 833) C dL_law_32 (by decide) (by decide) rfl (by decide) (lc_21 C hi hI k)
  | 22, _ => LW_tsIn (off := 856) C dL_law_32 (by decide) (by decide) rfl (by decide) (lc_22 C hi hI k)
  | 23, _ => LW_tsIn (off := 889) C dL_law_32 (by decide) (by decide) rfl (by decide) (lc_23 C hi hI k)
  | 24, _ => LW_tsIn (off := 912) C dL_law_32 (by decide) (by decide) rfl (by decide) (lc_24 C hi hI k)
  | 25, _ => LW_tsIn (off := 945) C dL_law_32 (by decide) (by decide) rfl (by decide) (lc_25 C hi hI k)
  | 26, _ => LW_tsIn (off := 978) C dL_law_32 (by decide) (by decide) rfl (by decide) (lc_26 C hi hI k)
  | 27, _ => LW_tsIn (off := 1001) C dL_law_32 (by decide) (by decide) rfl (by decide) (lc_27 C hi hI k)
  | 28, _ => LW_tsIn (off := 1024) C dL_law_32 (by decide) (by decide) rfl (by decide) (lc_28 C hi hI k)
  | 29, _ => LW_tsIn (off := 1077) C dL_law_32 (by decide) (by decide) rfl (by decide) (lc_29 C hi hI k)
  | 30, _ => LW_tsIn (off := 1090) C dL_law_32 (by decide) (by decide) rfl (by decide) (lc_30 C hi hI k)
  | 31, _ => LW_tsIn (off := 1113) C dL_law_32 (by decide) (by decide) rfl (by decide) (lc_31 C hi hI k)
  | 32, _ => LW_tsIn (off := 1126) C dL_law_32 (by decide) (by decide) rfl (by decide) (lc_32 C hi hI k)
  | 33, _ => LW_tsIn (off := 1149) C dL_law_32 (by decide) (by decide) rfl (by decide) (lc_33 C hi hI k)
  | 34, _ => LW_tsIn (off := 1162) C dL_law_32 (by decide) (by decide) rfl (by decide) (lc_34 C hi hI k)
  | 35, _ => LW_tsIn (off := 1195) C dL_law_32 (by decide) (by decide) rfl (by decide) (lc_35 C hi hI k)
  | 36, _ => LW_tsIn (off := 1218) C dL_law_32 (by decide) (by decide) rfl (by decide) (lc_36 C hi hI k)
  | 37, _ => LW_tsIn (off := 1251) C dL_law_32 (by decide) (by decide) rfl (by decide) (lc_37 C hi hI k)
  | 38, _ => LW_tsIn (off := 1294) C dL_law_32 (by decide) (by decide) rfl (by decide) (lc_38 C hi hI k)
  | 39, _ => LW_tsIn (off := 1307) C dL_law_32 (by decide) (by decide) rfl (by decide) (lc_39 C hi hI k)
  | 40, _ => LW_tsIn (off := 1350) C dL_law_32 (by decide) (by decide) rfl (by decide) (lc_40 C hi hI k)
  | 41, _ => LW_tsIn (off := 1393) C dL_law_32 (by decide) (by decide) rfl (by decide) (lc_41 C hi hI k)
  | 42, _ => LW_tsIn (off := 1436) C dL_law_32 (by decide) (by decide) rfl (by decide) (lc_42 C hi hI k)
  | 43, _ => LW_tsIn (off := 1479) C dL_law_32 (by decide) (by decide) rfl (by decide) (lc_43 C hi hI k)
  | 44, _ => LW_tsIn (off := 1522) C dL_law_32 (by decide) (by decide) rfl (by decide) (lc_44 C hi hI k)
  | 45, _ => LW_tsIn (off := 1565) C dL_law_32 (by decide) (by decide) rfl (by decide) (lc_45 C hi hI k)
  | 46, _ => LW_tsIn (off := 1598) C dL_law_32 (by decide) (by decide) rfl (by decide) (lc_46 C hi hI k)
  | 47, _ => LW_tsIn (off := 1641) C dL_law_32 (by decide) (by decide) rfl (by decide) (lc_47 C hi hI k)
  | 48, _ => LW_tsIn (off := 1664) C dL_law_32 (by decide) (by decide) rfl (by decide) (lc_48 C hi hI k)
  | 49, _ => LW_tsIn (off := 1687) C dL_law_32 (by decide) (by decide) rfl (by decide) (lc_49 C hi hI k)
  | 50, _ => LW_tsIn (off := 1700) C dL_law_32 (by decide) (by decide) rfl (by decide) (lc_50 C hi hI k)
  | v + 51, hv => LW_tsOut C dL_law_32 (Or.inr (by rw [oi_int hv]; omega)) (by decide) (k M hI)
theorem law_loop (C : LwC G p s m meth c b L xs) : ∀ (n i : Nat) (M : Mm), i ≤ L → L < i + n → Inv M M → XW G p e s m below meth c b 18 (lvL G b i) [] M := by
  have hL := C.2.2.2.2.2.2.2.2.2.2.2.2
  intro n
  induction n with
  | zero => intro i M h1 h2; omega
  | succ n ih =>
    intro i M hi hn hI
    refine LW_iload (a := 0) C dL_law_18 rfl rfl rfl ?_
    refine LW_aload (a := 3) C dL_law_19 rfl rfl rfl ?_
    refine LW_xln C dL_law_20 rfl ?_
    refine LW_iconst (w := oi 5) C dL_law_21 Int32.ofInt_eq_ofNat rfl ?_
    refine LW_isub C dL_law_22 rfl ?_
    refine LW_gt (tgt := 1751) C dL_law_23 (by decide) rfl (fun h => ?_) (fun h => ?_)
    · refine LW_iconst (w := 1) C dL_law_1751 (by decide) rfl ?_
      exact LW_end C dL_law_1752
    · rw [lgt hL hi] at h
      have h5 : i + 5 ≤ L := Classical.not_not.mp h
      refine LW_aload (a := 3) C dL_law_26 rfl rfl rfl ?_
      refine LW_iload (a := 0) C dL_law_27 rfl rfl rfl ?_
      refine LW_xld C (by omega) dL_law_28 rfl ?_
      refine LW_bipush (w := 63) C dL_law_29 (by decide) rfl ?_
      refine LW_iand C dL_law_31 rfl ?_
      obtain ⟨v, hv, hx⟩ := and63 (xs i)
      rw [hx]
      refine law_sw C h5 hI (fun M2 hI2 => ?_) v hv
      refine LW_iinc (a := 0) (x := oi i) (w := oi (i + 5)) (lv2 := lvL G b (i + 5)) C dL_law_1745 rfl (by rw [show Int32.ofInt 5 = oi 5 from by decide]; exact add_oi) (by decide) rfl rfl ?_
      refine LW_goto (tgt := 18) C dL_law_1748 (by decide) ?_
      exact ih (i + 5) M2 h5 (by omega) hI2
end LLOOP
