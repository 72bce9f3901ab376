/-! THE LAW FROM ITS ENTRY -/
section LST
variable {p : Program} {l : Launch} {e : Env} {s : State} {m : MethodId} {below : List Frame} {meth : Method} {c : Code} {b pc idx cells slots : Nat} {D : va_G} {K : Nat → ClassId} {H : Heap} {ls : Array Slot} {st : List Value} {Q : State → Prop} {pre : va_W}
def LnB (p : Program) (s : State) (m : MethodId) (c : Code) (b : Nat) (D : va_G) (K : Nat → ClassId) : Prop := p.tables.exec = Jvm.exec ∧ c.code = code ∧ c.maxLocals = 4 ∧ s.vm.findClass RL = some m.cls ∧ (∀ w ∈ tb, w.before #[Value.ref b] s = true) ∧ va_K D vwCl (ty5 K) s ∧ Nws s
def An (s : State) : Nat → Prop := fun q => s.heap.size ≤ q
theorem LN_new {ci : Nat} {fs : List Value} (B : LnB p s m c b D K) (F : Nf RL idx ci fs) (h1 : cells + 1 ≤ 600000) (h2 : slots + fs.length ≤ 7302250) (hd : decode code pc = .ok (.new idx, 3)) (hP : va_P D vwCl pre H) (hD : va_D (An s) pre) (hS : va_S (An s) s.heap H []) (k : ∀ (a : Nat) (H1 : Heap), va_P D vwCl (pre ++ [(a, .inr (ci, fs))]) H1 → va_D (An s) (pre ++ [(a, .inr (ci, fs))]) → va_S (An s) s.heap H1 [] → W p l e room_1 s m #[Value.ref b] below meth c H1 [] (cells + 1) (slots + fs.length) Q (F0 m (pc + 3) ls (.ref a :: st))) : W p l e room_1 s m #[Value.ref b] below meth c H [] cells slots Q (F0 m pc ls st) := by
  obtain ⟨cC, T, N, ty, f1, f2, f3, f4, f5, f6, f7, f8⟩ := F
  subst f8
  obtain ⟨b1, b2, b3, b4, hts, hK, hN⟩ := B
  exact va_new b1 b2 hts f2 ty f3 b4 (hts _ f4) (hts _ f5) (hts _ f6) hK hP hD hS (fun q h => h) f1 f7 h1 h2 hd (fun a H1 x1 x2 x3 => k a H1 x1 x2 x3)
theorem LN_call {a d2 mc2 ms2 : Nat} {mi2 : Mi} {e0 : va_E} {post2 : va_W → Prop} (B : LnB p s m c b D K) (F : Cn RL idx mi2 0) (hC : CtN l D K mi2 d2 mc2 ms2 [.ref a] [(a, e0)] post2) (hdd : d2 ≤ 1000) (hls : ls.size = 4) (hw : (st.map fun v => v.category).sum ≤ 8) (h1 : cells + mc2 ≤ 600000) (h2 : slots + ms2 ≤ 7302250) (hd : decode code pc = .ok (.invokespecial idx, 3)) (hP : va_P D vwCl (pre ++ [(a, e0)]) H) (hD : va_D (An s) (pre ++ [(a, e0)])) (hS : va_S (An s) s.heap H [])
    (k : ∀ (w1 : va_W) (H1 : Heap), post2 w1 → va_P D vwCl (pre ++ w1) H1 → va_D (An s) (pre ++ w1) → va_S (An s) s.heap H1 [] → W p l e room_1 s m #[Value.ref b] below meth c H1 [] (cells + mc2) (slots + ms2) Q (F0 m (pc + 3) ls st)) : W p l e room_1 s m #[Value.ref b] below meth c H [] cells slots Q (F0 m pc ls (.ref a :: st)) := by
  obtain ⟨b1, b2, b3, b4, hts, hK, hN⟩ := B
  obtain ⟨f1, f2, f3, f4, f5, f6, f7, f8⟩ := F
  have hA : ∀ q, s.heap.size ≤ q → An s q := fun q h => h
  have hCe : [pre.length].map (fun i => (pre ++ [(a, e0)])[i]?) = ([(a, e0)] : va_W).map some := by simp
  have hRe : (List.range pre.length).map (fun i => (pre ++ [(a, e0)])[i]?) = pre.map some := by
    apply List.ext_getElem?
    intro i
    rw [List.getElem?_map, List.getElem?_map]
    by_cases hi : i < pre.length
    · rw [List.getElem?_range hi]
      simp [List.getElem?_append_left hi, hi]
    · rw [List.getElem?_eq_none (by simp; omega), List.getElem?_eq_none (by omega)]
      rfl
  have hPc : va_P D vwCl [(a, e0)] H := hP.sub [pre.length] (by simp)
  have hDc : va_D (An s) [(a, e0)] := hD.sub [pre.length] (by simp [va_nd]) hCe
  have hFc := va_free (wc := [(a, e0)]) hD hS hA [pre.length] hCe
  have hpre : PreS s H (va_Pc [.ref a] (PN D K [(a, e0)] H.size)) [.ref a] := ⟨PN.blind, fun U hU hW => ⟨rfl, by rw [hU], by rw [hU]; exact hPc, va_K.moved hW.alike hK, hDc.weaken (fun _ _ _ _ => trivial), hN.warm hW⟩⟩
  have hroom : (rmn d2 mc2 ms2).frames + 1 ≤ room_1.frames ∧ 8 + (mi2.2.2.1 + 11) + (rmn d2 mc2 ms2).locals ≤ room_1.locals := ⟨by show d2 + 1 ≤ 2048; omega, by show 8 + (mi2.2.2.1 + 11) + 64 * d2 ≤ 84000; omega⟩
  rw [f2] at f6
  have hM := hC H.size
  rw [f2] at hM
  have hrun : va_Run p l e room_1 s m #[Value.ref b] below meth c H [] cells slots mc2 ms2 (F0 m pc ls (.ref a :: st)) st (QN D K (va_A [(a, e0)] H.size) post2 [Value.ref a].toArray) (va_A [(a, e0)] H.size) := by
    rcases f3 with f3 | ⟨h9, f3⟩
    · exact va_runI (Ts := tb) (nL := 4) (ws := Cond.code mi2.1 mi2.2.1 mi2.2.2.1 none :: tb) (As := []) ⟨b1, b2, b3, b4, hts⟩ hM ⟨callB_of 0 hts (tb_cons f6) rfl rfl rfl (hts _ f5) (hts _ f3) f7 hroom, f1, hts _ f4⟩ hpre rfl rfl hls rfl (lv_room hw) hd ⟨h1, h2⟩
    · exact va_runIN (Ts := tb) (nL := 4) (ws := Cond.code mi2.1 mi2.2.1 mi2.2.2.1 none :: tb) (As := []) ⟨b1, b2, b3, b4, hts⟩ hM ⟨va_cnB 0 hts (tb_cons f6) rfl rfl rfl (hN.1 _ f3) (hts _ f5) f7 hroom, f1, hts _ f4⟩ hpre rfl rfl hls rfl (lv_room hw) hd ⟨h1, h2⟩
  intro T hT Xs
  obtain ⟨v0, st₀, t, T', L, h0, X', hL, e1, e2, ⟨⟨hv, w1, hp1, hP1, hK1, hD1⟩, hz, hk⟩, stp⟩ := hrun T hT Xs
  have hv : v0 = none := by injection hv
  subst hv
  rw [h0] at hz hk
  rw [← e1] at hP1 hz hk
  obtain ⟨hP2, hD2⟩ := va_join (wr := pre) (w1 := w1) hP hD [pre.length] (List.range pre.length) hCe hRe (nd_of List.nodup_range) (fun i hi hj => by rw [List.mem_range] at hi; rw [List.mem_singleton] at hj; omega) hk hFc hP1 hD1
  have hS' : va_S (An s) s.heap T'.heap [] := ⟨Nat.le_trans hS.1 hz, fun q g1 g2 => by rw [hk q (Nat.lt_of_lt_of_le g1 hS.1) (fun z => g2 (hFc q z))]; exact hS.2.1 q g1 g2, fun q hq => by cases hq⟩
  have kk := va_forget (locs := [] ++ L) (fun q hq => hFc _ (hL q (by simpa using hq))) (k w1 T'.heap hp1 hP2 hD2 hS')
  obtain ⟨t2, a1, z1⟩ := kk T' rfl X'
  exact ⟨t2, stp t2 a1, z1⟩
end LST
set_option maxHeartbeats 4000000 in
set_option maxRecDepth 100000 in
/-- from the entry, for every script of at most 2560 ints, the law comes to its end with true -/
theorem whole_start {p : Program} {e : Env} {s : State} {m : MethodId} {below : List Frame} {meth : Method} {c : Code} (l : Launch) (hflags : l.flags = flags0) {b L : Nat} {xs : Nat → Int32} (hL : L ≤ 2560) (C0 : lw_At p s m meth c b L xs) : W p l e room_1 s m #[Value.ref b] below meth c s.heap [] 0 0 (lw_Z below #[Value.ref b] s) (entryFrame m ([Value.ref b] : List Value).toArray 4) := by
  obtain ⟨hx, hb, hr, hml, hown, hts0, hX, hbl, hlocks, hgv⟩ := id C0
  have hts : ∀ w ∈ tb, w.before #[Value.ref b] s = true := fun w hw => hts0 w (List.mem_filter.mp hw).1
  obtain ⟨D, K, hK⟩ := g_kn hts0
  obtain ⟨z, zv, hZ⟩ := g_zs hts0 hgv
  have B : LnB p s m c b D K := ⟨hx, hb, hml, hown, hts, hK, g_nws hts0⟩
  have hS0 : va_S (An s) s.heap s.heap [] := va_S.rf
  have hP0 : va_P D vwCl [] s.heap := fun k q h => by simp at h
  have hD0 : va_D (An s) [] := ⟨fun i j p q h => by simp at h, fun k q h => by simp at h⟩
  have hl := lv_entry ([.ref b]) (n := 4) (Nat.le_of_ble_eq_true rfl)
  rw [lg_entry_eq]
  generalize (lg_sl ([.ref b]) ++ List.replicate (4 - (lg_sl ([.ref b])).length) Slot.unset).toArray = ls at hl ⊢
  have hl : lv_has ls 4 [(0, .ref b)] := hl
  refine LN_new B nf_L_7 (Nat.le_of_ble_eq_true rfl) (Nat.le_of_ble_eq_true rfl) dL_law_0 hP0 hD0 hS0 (fun a H1 hP1 hD1 hS1 => ?_)
  refine lv_dup hx hb dL_law_3 rfl ?_
  refine LN_call (pre := []) B cn_L_9 (n_X11_init l D K a) (Nat.le_of_ble_eq_true rfl) hl.1 (Nat.le_of_ble_eq_true rfl) (Nat.le_of_ble_eq_true rfl) (Nat.le_of_ble_eq_true rfl) dL_law_4 hP1 hD1 hS1 (fun w1 H2 hw1 hP2 hD2 hS2 => ?_)
  obtain ⟨u, g0, g1, g2, g3, g4, g5, g6, rfl, p0, p1, p2, p3, p4, p5, p6⟩ := hw1
  refine lv_astore_n (lv' := [(1, .ref a), (0, .ref b)]) hx hb dL_law_7 rfl hl (by decide) rfl (fun ls hl => ?_)
  refine LN_new B nf_L_10 (Nat.le_of_ble_eq_true rfl) (Nat.le_of_ble_eq_true rfl) dL_law_8 hP2 hD2 hS2 (fun a2 H3 hP3 hD3 hS3 => ?_)
  refine lv_dup hx hb dL_law_11 rfl ?_
  refine LN_call B cn_L_12 (n_X12_init l D K a2) (Nat.le_of_ble_eq_true rfl) hl.1 (Nat.le_of_ble_eq_true rfl) (Nat.le_of_ble_eq_true rfl) (Nat.le_of_ble_eq_true rfl) dL_law_12 hP3 hD3 hS3 (fun w2 H4 hw2 hP4 hD4 hS4 => ?_)
  obtain ⟨v, h0, rfl, p7⟩ := hw2
  refine lv_astore_n (lv' := [(2, .ref a2), (1, .ref a), (0, .ref b)]) hx hb dL_law_15 rfl hl (by decide) rfl (fun ls hl => ?_)
  refine lv_iconst (v := 0) hx hb dL_law_16 (by decide) ?_
  refine lv_istore_n (lv' := [(3, .int 0), (2, .ref a2), (1, .ref a), (0, .ref b)]) hx hb dL_law_17 rfl hl (by decide) rfl (fun ls hl => ?_)
  refine W.widen (k := 600000) (n := 7302250) (Nat.le_of_ble_eq_true rfl) (Nat.le_of_ble_eq_true rfl) ?_
  obtain ⟨hP5, hD5⟩ := w_join (a := a) (a2 := a2) (u := u) (v := v) (g0 := g0) (g1 := g1) (g2 := g2) (g3 := g3) (g4 := g4) (g5 := g5) (g6 := g6) (h0 := h0) hP4 hD4 p1 p3 p6
  have hrg : ∀ q, Rg (A0 a a2 u v) q → s.heap.size ≤ q := fun q hq => by
    obtain ⟨i, hi, rfl⟩ := hq
    exact hD5.2 i _ (wd_at hi)
  have hD6 : va_D (Rg (A0 a a2 u v)) (wd (A0 a a2 u v) K (m0 g0 g2 g4 g5 h0, 0)) := ⟨hD5.1, fun k q hq => by
    have hk : k < ly_N := by
      have := (List.getElem?_eq_some_iff.mp hq).1
      simpa [wd] using this
    rw [wd_at hk] at hq
    cases hq
    exact ⟨k, hk, rfl⟩⟩
  have hS5 : va_S (Rg (A0 a a2 u v)) s.heap H4 [] := ⟨hS4.1, fun q h1 h2 => hS4.2.1 q h1 (fun h => absurd h (Nat.not_le.mpr h1)), fun q hq => by cases hq⟩
  have C : LwC (l, D, A0 a a2 u v, K, z, zv) p s m meth c b L xs := ⟨hx, hb, hr, hml, hown, hts, hX, hbl, hlocks, hK, hZ _ hrg, hrg, hL⟩
  exact law_loop C (L + 1) 0 (m0 g0 g2 g4 g5 h0, 0) (Nat.zero_le _) (by omega) (inv0 p0 p2 p4 p7) H4 ls hP5 hD6 hS5 hl
