/-! THE PURE PICTURE: d is the row of all numbers; c tells of a rule whether its condition holds of five facts -/
def zK (d : Nat → Nat) (k : Nat) : Nat := d (35 + 5 * k)
def zF (d : Nat → Nat) (k : Nat) : Nat := d (36 + 5 * k)
def zC (d : Nat → Nat) (k : Nat) : Nat := d (37 + 5 * k)
def zT (d : Nat → Nat) (k : Nat) : Nat := d (38 + 5 * k)
def zS (d : Nat → Nat) (k : Nat) : Nat := d (39 + 5 * k)
def zW (d : Nat → Nat) (t : Nat) : Nat := if t < 16 then d (7 + t) else 0
def zRi (d : Nat → Nat) : Nat := zW d (d 1) / 4
def zSa (d : Nat → Nat) : Nat := zW d (d 1) % 4
def zLb (kd ri sa t : Nat) : Nat := if kd = 1 then 1 else if kd = 2 then 2 * (2 + ri) else if kd = 3 then 2 * ri else if kd = 4 then ri * sa else if kd = 5 then ri * sa + t / 4 else 2 + ri
def zFb (kd fi ch nu : Nat) : Nat := if kd = 1 then 0 else if kd = 2 then (9 - fi / 11) / 2 else if kd = 3 then (9 - fi / 11) / 2 + ch / 3 else if kd = 4 then 9 - fi / 11 + ch / 2 else if kd = 5 then min 9 (9 - fi / 11 + ch / 2 + nu) else 9 - fi / 11
def zSum (f : Nat → Nat) : Nat → Nat
  | 0 => 0
  | n + 1 => zSum f n + f n
def zIn (d : Nat → Nat) (k o : Nat) : Nat := if zS d o = 1 ∧ zT d o + 1 = zT d k then 1 else 0
def zSb (d : Nat → Nat) (k : Nat) : Nat := zSum (zIn d k) (d 0)
def zLk (d : Nat → Nat) (k : Nat) : Nat := zLb (zK d k) (zRi d) (zSa d) (d 1) + d (29 + zT d k) - 2 * zSb d k
def zFl (d : Nat → Nat) (k : Nat) : Nat := zFb (zK d k) (zF d k) (zC d k) k
def zPy (d : Nat → Nat) (k : Nat) : Nat := if zS d k = 0 ∧ 0 < zF d k ∧ zFl d k + zRi d ≤ 4 + d (23 + zT d k) then 3 + zF d k / 9 else 0
def zfa (d : Nat → Nat) (k i : Nat) : Nat := if i = 0 then d 1 else if i = 1 then zF d k else if i = 2 then zC d k else if i = 3 then zRi d else k
def zAb (kd : Nat) : Nat := if kd = 3 then 2 else if kd = 5 then 4 else 0
abbrev Cnd : Type := Nat → (Nat → Nat) → Bool
def zWlF (d : Nat → Nat) (c : Cnd) (k : Nat) : Nat → Nat → Nat
  | 0, _ => 0
  | m + 1, r => if (d (89 + 4 * r) = 0 ∨ d (89 + 4 * r) = zK d k ∨ d (89 + 4 * r) = zAb (zK d k)) ∧ c r (zfa d k) = true then d (90 + 4 * r) else zWlF d c k m (r + 1)
theorem zWl_y {d : Nat → Nat} {c : Cnd} {k m r : Nat} (ht : d (89 + 4 * r) = 0 ∨ d (89 + 4 * r) = zK d k ∨ d (89 + 4 * r) = zAb (zK d k)) (hc : c r (zfa d k) = true) : zWlF d c k (m + 1) r = d (90 + 4 * r) := by
  rw [zWlF]
  exact if_pos ⟨ht, hc⟩
theorem zWl_t {d : Nat → Nat} {c : Cnd} {k m r : Nat} (ht : ¬ (d (89 + 4 * r) = 0 ∨ d (89 + 4 * r) = zK d k ∨ d (89 + 4 * r) = zAb (zK d k))) : zWlF d c k (m + 1) r = zWlF d c k m (r + 1) := by
  rw [zWlF]
  exact if_neg (fun q : _ ∧ _ => ht q.1)
theorem zWl_c {d : Nat → Nat} {c : Cnd} {k m r : Nat} (hc : ¬ c r (zfa d k) = true) : zWlF d c k (m + 1) r = zWlF d c k m (r + 1) := by
  rw [zWlF]
  exact if_neg (fun q : _ ∧ _ => hc q.2)
def zWl (d : Nat → Nat) (c : Cnd) (k : Nat) : Nat := zWlF d c k (d 5) 0
def zU (d : Nat → Nat) (j v : Nat) : Nat → Nat := fun i => if i = j then v else d i
/-- the told act: what it is worth; the row behind it -/
def zDw (d : Nat → Nat) (c : Cnd) (k : Nat) : Nat := if zWl d c k = 0 then zPy d k else if zWl d c k = 2 then (if zSa d = 0 then 1 else 0) else 0
def zDd (d : Nat → Nat) (c : Cnd) (k : Nat) : Nat → Nat := if zWl d c k = 0 then (if 0 < zPy d k then zU d (39 + 5 * k) 1 else d) else if zWl d c k = 2 then zU (zU d (37 + 5 * k) (min 9 (zC d k + 2))) (36 + 5 * k) (min 99 (zF d k + 3)) else d
def zAw (d : Nat → Nat) (c : Cnd) (a : Nat) : Nat := if 0 < a ∧ zS d (a - 1) = 0 then zDw d c (a - 1) else 0
def zAd (d : Nat → Nat) (c : Cnd) (a : Nat) : Nat → Nat := if 0 < a ∧ zS d (a - 1) = 0 then zDd d c (a - 1) else d
def zLs (d : Nat → Nat) (k : Nat) : Nat := if zS d k = 1 then zLk d k / 3 else zLk d k
/-- behind the leaking of the first n -/
def zLe (d : Nat → Nat) (n : Nat) : Nat → Nat := fun j => if 36 ≤ j ∧ j < 36 + 5 * n ∧ (j - 36) % 5 = 0 then d j - zLs d ((j - 36) / 5) else d j
def zHe (e : Nat → Nat) (k : Nat) : Nat := zS e k * (zF e k / 30)
def zE (d : Nat → Nat) (c : Cnd) (a : Nat) : Nat → Nat := zLe (zAd d c a) (d 0)
/-- a tide: what it is worth; the row behind it -/
def zWo (d : Nat → Nat) (c : Cnd) (a : Nat) : Nat := zAw d c a + zSum (zHe (zE d c a)) (d 0)
def zN (d : Nat → Nat) (c : Cnd) (a : Nat) : Nat → Nat := zU (zU (zE d c a) 3 (d 3 + zWo d c a)) 1 (d 1 + 1)
def zRaF (d : Nat → Nat) (c : Cnd) : Nat → Nat → Nat
  | 0, _ => 0
  | m + 1, k => if zWl d c k = 0 ∧ 0 < zPy d k then k + 1 else zRaF d c m (k + 1)
/-- the act of the rest -/
def zRa (d : Nat → Nat) (c : Cnd) : Nat := zRaF d c (d 0) 0
/-- tides of the rest -/
def zQd (c : Cnd) : Nat → (Nat → Nat) → (Nat → Nat)
  | 0, d => d
  | n + 1, d => if d 1 < d 2 then zQd c n (zN d c (zRa d c)) else d
def zQw (c : Cnd) : Nat → (Nat → Nat) → Nat
  | 0, _ => 0
  | n + 1, d => if d 1 < d 2 then zWo d c (zRa d c) + zQw c n (zN d c (zRa d c)) else 0
def zBi (d : Nat → Nat) : Nat := zS d 0 + 2 * zS d 1 + 4 * zS d 2 + 8 * zS d 3 + 16 * zS d 4 + 32 * zS d 5
def zFs (d : Nat → Nat) : Nat := zSum (zF d) (d 0)
/-- the numbers' bounds -/
def WFb (d : Nat → Nat) : Prop := ∀ k, k < 6 → zK d k ≤ 5 ∧ zF d k ≤ 99 ∧ zC d k ≤ 9 ∧ zT d k ≤ 5 ∧ zS d k ≤ 1 ∧ (d 0 ≤ k → zS d k = 0)
def WFw (d : Nat → Nat) : Prop := (∀ t, t < 16 → d (7 + t) ≤ 15) ∧ (∀ f, f < 6 → d (23 + f) ≤ 9 ∧ d (29 + f) ≤ 9) ∧ (∀ r, r < 6 → d (65 + 4 * r) ≤ 15 ∧ d (66 + 4 * r) ≤ 1 ∧ d (67 + 4 * r) ≤ 99 ∧ d (68 + 4 * r) ≤ 99) ∧ (∀ r, r < d 5 → d (89 + 4 * r) ≤ 5 ∧ d (90 + 4 * r) ≤ 2)
def WF (d : Nat → Nat) : Prop := d 0 ≤ 6 ∧ d 1 ≤ d 2 ∧ d 2 ≤ 16 ∧ d 5 ≤ 8 ∧ d 6 ≤ 6 ∧ WFb d ∧ WFw d
theorem zW_le {d : Nat → Nat} (h : WFw d) (t : Nat) : zW d t ≤ 15 := by
  unfold zW
  split
  · exact h.1 t ‹_›
  · omega
theorem zRi_le {d : Nat → Nat} (h : WFw d) : zRi d ≤ 3 := by
  have := zW_le h (d 1)
  unfold zRi
  omega
theorem zSa_le {d : Nat → Nat} : zSa d ≤ 3 := by
  unfold zSa
  omega
theorem zLb_le {kd ri sa t : Nat} (h1 : ri ≤ 3) (h2 : sa ≤ 3) (h3 : t ≤ 16) : zLb kd ri sa t ≤ 13 := by
  have h : ri * sa ≤ 3 * 3 := Nat.mul_le_mul h1 h2
  unfold zLb
  repeat' split
  all_goals omega
theorem zFb_le {kd fi ch nu : Nat} (h1 : ch ≤ 9) : zFb kd fi ch nu ≤ 13 := by
  unfold zFb
  repeat' split
  all_goals omega
theorem zSum_le {f : Nat → Nat} {b : Nat} : ∀ {n : Nat}, (∀ k, k < n → f k ≤ b) → zSum f n ≤ n * b
  | 0, _ => Nat.zero_le _
  | n + 1, h => by
    have h1 := zSum_le (n := n) (fun k hk => h k (by omega))
    have h2 := h n (by omega)
    have h3 : (n + 1) * b = n * b + b := Nat.succ_mul n b
    show zSum f n + f n ≤ _
    omega
theorem zSum_congr {f g : Nat → Nat} : ∀ {n : Nat}, (∀ k, k < n → f k = g k) → zSum f n = zSum g n
  | 0, _ => rfl
  | n + 1, h => by
    show zSum f n + f n = zSum g n + g n
    rw [zSum_congr (fun k hk => h k (by omega)), h n (by omega)]
theorem zSb_le {d : Nat → Nat} (h : d 0 ≤ 6) (k : Nat) : zSb d k ≤ 6 := by
  have h1 : zSum (zIn d k) (d 0) ≤ d 0 * 1 := zSum_le (fun o _ => by unfold zIn; split <;> omega)
  unfold zSb
  omega
theorem zLk_le {d : Nat → Nat} (h : WF d) {k : Nat} (hk : k < 6) : zLk d k ≤ 22 := by
  obtain ⟨h0, h1, h2, h5, h6, hb, hw⟩ := h
  have e1 := zLb_le (kd := zK d k) (t := d 1) (zRi_le hw) (zSa_le (d := d)) (by omega)
  have e2 := (hw.2.1 (zT d k) (by have := (hb k hk).2.2.2.1; omega)).2
  unfold zLk
  omega
theorem zPy_le {d : Nat → Nat} {k : Nat} (h : zF d k ≤ 99) : zPy d k ≤ 14 := by
  unfold zPy
  split <;> omega
theorem zBi_lt {d : Nat → Nat} (h : WFb d) : zBi d < 64 := by
  have h0 := (h 0 (by omega)).2.2.2.2.1
  have h1 := (h 1 (by omega)).2.2.2.2.1
  have h2 := (h 2 (by omega)).2.2.2.2.1
  have h3 := (h 3 (by omega)).2.2.2.2.1
  have h4 := (h 4 (by omega)).2.2.2.2.1
  have h5 := (h 5 (by omega)).2.2.2.2.1
  unfold zBi
  omega
theorem zBi_bit {d : Nat → Nat} (h : WFb d) {k : Nat} (hk : k < 6) : zBi d / 2 ^ k % 2 = zS d k := by
  have h0 := (h 0 (by omega)).2.2.2.2.1
  have h1 := (h 1 (by omega)).2.2.2.2.1
  have h2 := (h 2 (by omega)).2.2.2.2.1
  have h3 := (h 3 (by omega)).2.2.2.2.1
  have h4 := (h 4 (by omega)).2.2.2.2.1
  have h5 := (h 5 (by omega)).2.2.2.2.1
  unfold zBi
  rcases (by omega : k = 0 ∨ k = 1 ∨ k = 2 ∨ k = 3 ∨ k = 4 ∨ k = 5) with rfl | rfl | rfl | rfl | rfl | rfl <;> omega
theorem bit_all : ∀ b, b < 64 → ∀ k, k < 6 → ((oi b >>> (oi k &&& oi 31)) &&& oi 1) = oi (b / 2 ^ k % 2) := by decide +kernel
theorem set_all : ∀ b, b < 64 → ∀ k, k < 6 → ∀ v, v < 2 → ((oi b &&& ((oi 1 <<< (oi k &&& oi 31)) ^^^ (- oi 1))) ||| (oi v <<< (oi k &&& oi 31))) = oi (b - b / 2 ^ k % 2 * 2 ^ k + v * 2 ^ k) := by decide +kernel
theorem sh2_all : ∀ b, b < 16 → (oi b >>> (oi 2 &&& oi 31)) = oi (b / 4) := by decide +kernel
theorem an3_all : ∀ b, b < 16 → (oi b &&& oi 3) = oi (b % 4) := by decide +kernel
theorem eq_sub1 {a b : Nat} (ha : a < 1000) (hb : b < 1000) : oi a = oi b - oi 1 ↔ a + 1 = b := by
  by_cases h : 1 ≤ b
  · rw [sub_oi h, eq_oi (by omega) (by omega)]
    omega
  · obtain rfl : b = 0 := by omega
    refine ⟨fun q => ?_, fun q => by omega⟩
    have h2 := sub_lt0 (a := 0) (b := 1) (by omega) (by omega) (by omega)
    rw [← q, lt_oi (by omega) (by omega)] at h2
    omega
theorem zBi_set {d : Nat → Nat} (h : WFb d) {k v : Nat} (hk : k < 6) : zBi (zU d (39 + 5 * k) v) = zBi d - zS d k * 2 ^ k + v * 2 ^ k := by
  have h0 := (h 0 (by omega)).2.2.2.2.1
  have h1 := (h 1 (by omega)).2.2.2.2.1
  have h2 := (h 2 (by omega)).2.2.2.2.1
  have h3 := (h 3 (by omega)).2.2.2.2.1
  have h4 := (h 4 (by omega)).2.2.2.2.1
  have h5 := (h 5 (by omega)).2.2.2.2.1
  unfold zS at h0 h1 h2 h3 h4 h5
  unfold zBi zS zU
  rcases (by omega : k = 0 ∨ k = 1 ∨ k = 2 ∨ k = 3 ∨ k = 4 ∨ k = 5) with rfl | rfl | rfl | rfl | rfl | rfl <;> simp only [Nat.reduceMul, Nat.reduceAdd, Nat.reducePow, Nat.reduceEqDiff, if_true, if_false] at * <;> omega
theorem zab_g {kd : Nat} (h : kd ≤ 5) : zAbove.getD kd (oi 0) = oi (zAb kd) := by
  rcases (by omega : kd = 0 ∨ kd = 1 ∨ kd = 2 ∨ kd = 3 ∨ kd = 4 ∨ kd = 5) with rfl | rfl | rfl | rfl | rfl | rfl <;> rfl
theorem zAb_le (kd : Nat) : zAb kd ≤ 4 := by
  unfold zAb
  repeat' split
  all_goals omega
