/-! the order, the line, the good spots: by the class -/
section KB
variable {K : Nat → Nat} {A : Nat → Nat → Nat} {c : zS} {V : zV} {ms z : Nat}
theorem k_bits (x : Int32) : f_J6_bitCount_0f7a4 K z c x = some (bcv x) := rfl
theorem k_waiting (h : RC K A c V ms) {t : Nat} (ht : t < tN V) : f_X4_isWaiting K z c (A 4 t) = some (oi (wt V t)) := by
  unfold f_X4_isWaiting
  rw [kn_85 h ht, kn_40 h ht, rt_42_9 h ht, rt_20_10 h ht, rt_46_9 h ht]
  by_cases h1 : V.1 21 t = 0
  · rw [if_pos h1, oi_n (fun x => x.2.1 h1)]
  · rw [if_neg h1]
    by_cases h2 : V.1 27 t = 0
    · rw [if_pos h2]
      by_cases h3 : V.1 25 t = 0
      · have hw : wt V t := ⟨ht, h1, fun x => x h2, h3⟩
        rw [if_pos h3, oi_p hw]
      · rw [if_neg h3, oi_n (fun x => h3 x.2.2.2)]
    · rw [if_neg h2, oi_n (fun x => x.2.2.1 h2)]
theorem k_aheadU (h : RC K A c V ms) {a b : Nat} (ha : a < tN V) (hb : b < tN V) : f_X6_isAheadUnslighted K z c (A 4 a) (A 4 b) = some (oi (ahU V a b)) := by
  unfold f_X6_isAheadUnslighted f_X4_isInDebt ahU
  simp only [rt_87_4 h ha, rt_87_4 h hb, rt_90_4 h ha, rt_90_4 h hb, rt_92_4 h ha, rt_92_4 h hb, (C9 h a ha).2.2, (C9 h b hb).2.2, k_bits, zb_s]
  have IN : (if bcv (V.1 31 a) = bcv (V.1 31 b) then (if V.1 33 a = V.1 33 b then (if V.1 11 b ≤ V.1 11 a then some (0 : Int32) else some 1) else (if V.1 33 b ≤ V.1 33 a then some 0 else some 1)) else (if bcv (V.1 31 a) ≤ bcv (V.1 31 b) then some 0 else some 1)) = some (oi (cif (bcv (V.1 31 a) = bcv (V.1 31 b)) (cif (V.1 33 a = V.1 33 b) (V.1 11 a < V.1 11 b) (V.1 33 a < V.1 33 b)) (bcv (V.1 31 b) < bcv (V.1 31 a)))) := by
    by_cases h1 : bcv (V.1 31 a) = bcv (V.1 31 b)
    · rw [if_pos h1, cif_p h1]
      by_cases h2 : V.1 33 a = V.1 33 b
      · rw [if_pos h2, cif_p h2]
        by_cases h3 : V.1 11 b ≤ V.1 11 a
        · rw [if_pos h3, oi_n (Int32.not_lt.mpr h3)]
        · rw [if_neg h3, oi_p (Int32.not_le.mp h3)]
      · rw [if_neg h2, cif_n h2]
        by_cases h3 : V.1 33 b ≤ V.1 33 a
        · rw [if_pos h3, oi_n (Int32.not_lt.mpr h3)]
        · rw [if_neg h3, oi_p (Int32.not_le.mp h3)]
    · rw [if_neg h1, cif_n h1]
      by_cases h3 : bcv (V.1 31 a) ≤ bcv (V.1 31 b)
      · rw [if_pos h3, oi_n (Int32.not_lt.mpr h3)]
      · rw [if_neg h3, oi_p (Int32.not_le.mp h3)]
  skip
  by_cases h1 : lg_cmp (V.2 34 a) 5000 ≤ 0
  · have d1 : ¬ debt V a := fun x => x h1
    rw [if_pos h1, zb_s]
    by_cases h2 : lg_cmp (V.2 34 b) 5000 ≤ 0
    · have d2 : ¬ debt V b := fun x => x h2
      rw [if_pos h2, zb_s, if_pos rfl, IN, cif_p (show debt V a ↔ debt V b from ⟨fun x => absurd x d1, fun x => absurd x d2⟩)]
    · have d2 : debt V b := h2
      rw [if_neg h2, zb_s, if_neg (by decide), zb_s, zz_1, cif_n (show ¬ (debt V a ↔ debt V b) from fun x => d1 (x.mpr d2)), oi_p d2]
  · have d1 : debt V a := h1
    rw [if_neg h1, zb_s]
    by_cases h2 : lg_cmp (V.2 34 b) 5000 ≤ 0
    · have d2 : ¬ debt V b := fun x => x h2
      rw [if_pos h2, zb_s, if_neg (by decide), zb_s, zz_0, cif_n (show ¬ (debt V a ↔ debt V b) from fun x => d2 (x.mp d1)), oi_n d2]
    · have d2 : debt V b := h2
      rw [if_neg h2, zb_s, if_pos rfl, IN, cif_p (show debt V a ↔ debt V b from ⟨fun _ => d2, fun _ => d1⟩)]
theorem k_ahead (h : RC K A c V ms) (hW : WB V) {a b : Nat} (ha : a < tN V) (hb : b < tN V) : f_X6_isAhead K z c (A 4 a) (A 4 b) = some (oi (ah V a b)) := by
  unfold f_X6_isAhead ah
  rw [kn_85 h ha, kn_85 h hb, rt_44_9 h ha, rt_44_9 h hb, rt_87_4 h ha, rt_87_4 h hb, k_aheadU h ha hb, zb_s, zz_p oi_b]
  by_cases h1 : V.1 23 a = V.1 23 b
  · rw [if_pos h1, cif_p h1]
    by_cases h2 : V.1 23 a = 0
    · rw [if_pos h2, cif_p h2]
    · rw [if_neg h2, cif_n h2]
      by_cases h3 : V.1 11 b ≤ V.1 11 a
      · rw [if_pos h3, oi_n (Int32.not_lt.mpr h3)]
      · rw [if_neg h3, oi_p (Int32.not_le.mp h3)]
  · rw [if_neg h1, cif_n h1, zz_p (WB_13 hW ha)]
    rcases WB_13 hW ha with h2 | h2
    · rw [h2, oi_n (fun x => x rfl)]
    · rw [h2, oi_p (by decide)]
theorem k_insert2 (hW : WB V) {t m : Nat} (ht : t < tN V) {s : Nat → Nat} {W : Nat → Prop} (hL : Ls (nO V) W m s) (hWt : ∀ x, W x → x < tN V ∧ x ≠ t) (hm : m < 200) (p2 : Int32) : ∀ (nn k : Nat) (c : zS), RC K A c V ms → k ≤ m → k < nn → (∀ i, i < k → zr c 147 (A 15 0) i = some (A 4 (s i))) → (∀ i, k < i → i ≤ m → zr c 147 (A 15 0) i = some (A 4 (s (i - 1)))) → (∀ i, k ≤ i → i < m → nO V t < nO V (s i)) → ∃ (c1 : zS) (k1 : Nat), f_X6_insert_2 K z ms (A 4 t) p2 nn c (nI k) = some (zur c1 147 (A 15 0) k1 (some (A 4 t))) ∧ Fl c c1 ∧ k1 ≤ m ∧ (∀ i, i < k1 → zr c1 147 (A 15 0) i = some (A 4 (s i))) ∧ (∀ i, k1 < i → i ≤ m → zr c1 147 (A 15 0) i = some (A 4 (s (i - 1)))) ∧ (∀ i, k1 ≤ i → i < m → nO V t < nO V (s i)) ∧ (∀ i, i < k1 → nO V (s i) < nO V t) := by
  intro nn
  induction nn with
  | zero => intro k c _ hk h; omega
  | succ nn ih =>
    intro k c h hk hh h1 h2 h3
    rw [f_X6_insert_2]
    rcases Nat.eq_zero_or_pos k with h0 | h0
    · subst h0
      rw [if_pos (by decide), kn_124 h, zx_2 (by omega), zlet, cl_ (by omega)]
      exact ⟨c, 0, rfl, Fl_rf, Nat.zero_le _, h1, h2, h3, fun i hi => by omega⟩
    · obtain ⟨j, rfl⟩ : ∃ j, k = j + 1 := ⟨k - 1, by omega⟩
      obtain ⟨hsj, hsjt⟩ := hWt _ (hL.1 j (by omega))
      rw [if_neg (nI_nle (by omega) (by omega)), kn_124 h, nI_pred]
      simp only [zx_2 (show j < 200 by omega), zx_2 (show j + 1 < 200 by omega), cl_ (show j < 8000 by omega), cl_ (show j + 1 < 8000 by omega), zlet]
      rw [h1 j (by omega), zn_s (K4 h hsj), k_ahead h hW ht hsj, zb_s]
      by_cases h4 : ah V t (s j)
      · rw [oi_p h4, if_neg (by decide), zn_s (K4 h hsj), pk_m1]
        have h5 := (ah_n hW ht hsj).mp h4
        obtain ⟨c1, k1, g1, g2, g3⟩ := ih j (zur c 147 (A 15 0) (j + 1) (some (A 4 (s j)))) (RC_Fl h Fl_up) (by omega) (by omega) (fun i hi => by
          rw [zr_zur, if_neg (fun x => by omega)]; exact h1 i (by omega)) (fun i hi1 hi2 => by
          rw [zr_zur]
          by_cases h6 : i = j + 1
          · rw [if_pos ⟨rfl, rfl, h6⟩, h6, Nat.add_sub_cancel]
          · rw [if_neg (fun x => h6 x.2.2)]; exact h2 i (by omega) hi2) (fun i hi1 hi2 => by
          rcases Nat.lt_or_ge j i with h6 | h6
          · exact h3 i h6 hi2
          · rw [show i = j by omega]; exact h5)
        exact ⟨c1, k1, g1, Fl_tr Fl_up g2, g3⟩
      · rw [oi_n h4, if_pos rfl]
        refine ⟨c, j + 1, rfl, Fl_rf, hk, h1, h2, h3, Ls_d hL hk (Or.inr ?_)⟩
        have h5 : ¬ nO V t < nO V (s j) := fun x => h4 ((ah_n hW ht hsj).mpr x)
        have h6 := nO_inj hW hsj ht hsjt
        rw [Nat.add_sub_cancel]
        omega
theorem k_line4 (hW : WB V) (hz : 300 ≤ z) {rk : Nat → Nat} (hL0 : Ls (rkI V) (fun x => x < tN V) (tN V) rk) : ∀ (nn k : Nat) (c : zS), RC K A c V ms → (∀ i, i < tN V → zr c 146 (A 14 0) i = some (A 4 (rk i))) → k ≤ tN V → tN V - k < nn → ∀ (m : Nat) (s : Nat → Nat), m ≤ k → (∀ i, i < m → zr c 147 (A 15 0) i = some (A 4 (s i))) → Ls (nO V) (fun x => wt V x ∧ ∃ j, j < k ∧ rk j = x) m s → ∃ (c1 : zS) (m1 : Nat) (s1 : Nat → Nat), f_X6_lineUpWaiting_4 K z ms nn c (nI m) (nI k) = some (nI m1, c1) ∧ Fl c c1 ∧ m1 ≤ 200 ∧ (∀ i, i < m1 → zr c1 147 (A 15 0) i = some (A 4 (s1 i))) ∧ Ls (nO V) (wt V) m1 s1 := by
  have hN := WB_2 hW
  intro nn
  induction nn with
  | zero => intro k c _ _ hk h; omega
  | succ nn ih =>
    intro k c h hr hk hh m s hmN h147 hL
    rw [f_X6_lineUpWaiting_4, (C10 h).2.1, WB_1 hW, iLE (by omega) (by omega)]
    by_cases h1 : tN V ≤ k
    · rw [if_pos h1]
      refine ⟨c, m, s, rfl, Fl_rf, by omega, h147, Ls_c hL (fun x => ⟨fun y => y.1, fun y => ⟨y, ?_⟩⟩)⟩
      obtain ⟨j, hj, ej⟩ := hL0.2.2 x y.1
      exact ⟨j, by omega, ej⟩
    · rw [if_neg h1]
      have hkl : k < tN V := by omega
      have hrk : rk k < tN V := hL0.1 k hkl
      rw [kn_123 h, zx_2 (by omega), cl_ (by omega), hr k hkl, zn_s (K4 h hrk), k_waiting h hrk, zb_s]
      have inj : ∀ j, j < k → rk j ≠ rk k := fun j hj e => by have := hL0.2.1 j k hj hkl; rw [e] at this; omega
      by_cases h2 : wt V (rk k)
      · rw [oi_p h2, if_neg (by decide)]
        have hm2 : m < 200 := by omega
        obtain ⟨c1, k1, g1, g2, g3, g4, g5, g6, g7⟩ := k_insert2 (K := K) (A := A) (ms := ms) (z := z) hW hrk hL (fun x hx => ⟨hx.1.1, by obtain ⟨j, a, b⟩ := hx.2; rw [← b]; exact inj j a⟩) hm2 (nI m) z m c h (Nat.le_refl _) (by omega) h147 (fun i a b => by omega) (fun i a b => by omega)
        unfold f_X6_insert
        rw [g1, zb_s, zlet, zlet, nI_1, nI_1]
        obtain ⟨c2, m2, s2, a1, a2, a3⟩ := ih (k + 1) (zur c1 147 (A 15 0) k1 (some (A 4 (rk k)))) (RC_Fl h (Fl_tr g2 Fl_up)) (fun i hi => by rw [Fl_zr (Fl_tr g2 Fl_up) 146 (by decide)]; exact hr i hi) (by omega) (by omega) (m + 1) (fun i => if i < k1 then s i else if i = k1 then rk k else s (i - 1)) (by omega) (fun i hi => by
          rw [zr_zur]
          by_cases b1 : i < k1
          · rw [if_neg (fun x => by omega)]; show _ = some (A 4 (if i < k1 then s i else if i = k1 then rk k else s (i - 1))); rw [if_pos b1]; exact g4 i b1
          · by_cases b2 : i = k1
            · rw [if_pos ⟨rfl, rfl, b2⟩]; show _ = some (A 4 (if i < k1 then s i else if i = k1 then rk k else s (i - 1))); rw [if_neg b1, if_pos b2]
            · rw [if_neg (fun x => b2 x.2.2)]; show _ = some (A 4 (if i < k1 then s i else if i = k1 then rk k else s (i - 1))); rw [if_neg b1, if_neg b2]; exact g5 i (by omega) (by omega))
          (Ls_c (Ls_i hL g3 g6 g7) (fun x => ⟨fun y => by
            rcases y with ⟨y1, j, y2, y3⟩ | y
            · exact ⟨y1, j, by omega, y3⟩
            · rw [y]; exact ⟨h2, k, by omega, rfl⟩, fun ⟨y1, j, y2, y3⟩ => by
            rcases Nat.lt_or_ge j k with b | b
            · exact Or.inl ⟨y1, j, b, y3⟩
            · exact Or.inr (by rw [← y3, show j = k by omega])⟩))
        exact ⟨c2, m2, s2, a1, Fl_tr (Fl_tr g2 Fl_up) a2, a3⟩
      · rw [oi_n h2, if_pos rfl, zlet, nI_1]
        exact ih (k + 1) c h hr (by omega) (by omega) m s (by omega) h147 (Ls_c hL (fun x => ⟨fun ⟨y1, j, y2, y3⟩ => ⟨y1, j, by omega, y3⟩, fun ⟨y1, j, y2, y3⟩ => ⟨y1, j, by
          rcases Nat.lt_or_ge j k with b | b
          · exact b
          · exact absurd y1 (by rw [← y3, show j = k by omega]; exact h2), y3⟩⟩))
theorem k_line (h : RC K A c V ms) (hW : WB V) (hz : 300 ≤ z) : ∃ (c1 : zS) (m1 : Nat) (s1 : Nat → Nat), f_X6_lineUpWaiting K z c ms = some (nI m1, c1) ∧ Fl c c1 ∧ m1 ≤ 200 ∧ (∀ i, i < m1 → zr c1 147 (A 15 0) i = some (A 4 (s1 i))) ∧ Ls (nO V) (wt V) m1 s1 := by
  have hN := WB_2 hW
  obtain ⟨rk, h1, h2⟩ := C14 h
  exact k_line4 hW hz h2 z 0 c h h1 (Nat.zero_le _) (by omega) 0 (fun _ => 0) (Nat.le_refl _) (fun i hi => by omega) ⟨fun i hi => by omega, fun i j a b => by omega, fun t ht => by obtain ⟨j, hj, _⟩ := ht.2; omega⟩
theorem k_marked1 (h : RC K A c V ms) (hW : WB V) (hz : 300 ≤ z) {i e : Nat} (hi : i < 40) (he : e < pl V i) : f_X0_isMarked K z c (A 0 i) (nI e) 1 3 = some (oi (mk V i e 3)) := by
  obtain ⟨e1, hpl⟩ := WB_7 hW hi
  obtain ⟨y, rfl⟩ : ∃ y, z = y + 2 := ⟨z - 2, by omega⟩
  unfold f_X0_isMarked
  rw [f_X0_isMarked_3, if_neg (by decide), Int32.add_zero, k_has h hW hi (by omega), zb_s, oi_p he, if_neg (by decide)]
  simp only [kn_0 h hi, zx_2 (show e < 200 by omega), cl_ (show e < 8000 by omega), (C7 h i hi).2 e (by omega), zlet]
  by_cases h3 : V.1 2 (200 * i + e) &&& 3 = 0
  · have hn : ¬ mk V i e 3 := fun x => x h3
    rw [if_pos h3, f_X0_isMarked_3, if_pos (by decide), oi_n hn]
  · have hn : mk V i e 3 := h3
    rw [if_neg h3, oi_p hn]
theorem k_open (h : RC K A c V ms) (hW : WB V) (hz : 300 ≤ z) {t i e : Nat} (ht : t < tN V) (hi : i < 40) (he : e < pl V i) : f_X0_isOpenFor K z c (A 0 i) (A 4 t) (nI e) = some (oi (¬ tk V t i e)) := by
  obtain ⟨e1, hpl⟩ := WB_7 hW hi
  unfold f_X0_isOpenFor f_X0_isOpenFor_15
  obtain ⟨x, hx, hx2⟩ := k_holder (z := z) h hW hi (q := e) (by omega)
  rw [hx, zb_s, k_marked1 h hW hz hi he, zb_s]
  have FREE : (∀ o, oth V t o → ¬ cov V o i e) → (if oi (mk V i e 3) = 0 then some (1 : Int32) else some 0) = some (oi (¬ tk V t i e)) := by
    intro hf
    by_cases h1 : mk V i e 3
    · rw [oi_p h1, if_neg (by decide), oi_n (fun x => x (Or.inl h1))]
    · rw [oi_n h1, if_pos rfl, oi_p]
      rintro (h2 | ⟨o, a, b, c1, d⟩)
      · exact h1 h2
      · exact hf o a ⟨a.2.1, b, c1, d⟩
  rcases hx2 with ⟨o, ho, hc, rfl⟩ | ⟨hn, rfl⟩
  · rw [zo_s (K4 h ho)]
    by_cases h1 : A 4 o = A 4 t
    · have e : o = t := (h.1 _ _ _ _ h1).2
      rw [if_pos h1]
      exact FREE (fun o' a b => a.2.2 (by rw [cov_u hW a.1 ho b hc]; exact e))
    · rw [if_neg h1, oi_n]
      exact fun x => x (Or.inr ⟨o, ⟨ho, hc.1, fun e => h1 (by rw [e])⟩, hc.2.1, hc.2.2⟩)
  · rw [zo_n]
    exact FREE (fun o' a b => hn o' a.1 b)
theorem k_spot21 (h : RC K A c V ms) (hW : WB V) (hz : 300 ≤ z) {t i : Nat} (ht : t < tN V) (hi : i < 40) (rec2 : Int32 → Option Int32) : ∀ (nn e m : Nat), e ≤ pl V i → pl V i - e < nn → m ≤ e → (∀ j, j ≤ e → (∀ q, j ≤ q → q < e → ¬ tk V t i q) → e - j ≤ m) → f_X6_firstSpotOfSquare_21 K z c ms (A 4 t) rec2 nn (nI i) (A 0 i) (nI m) (nI e) = cif (0 ≤ sqr V t i (pl V i + 1 - fN V t - (e + 1 - fN V t)) (e + 1 - fN V t)) (some (sqr V t i (pl V i + 1 - fN V t - (e + 1 - fN V t)) (e + 1 - fN V t))) (rec2 (nI (i + 1))) := by
  obtain ⟨e1, hpl⟩ := WB_7 hW hi
  obtain ⟨e10, f1, f2⟩ := WB_6 hW ht
  intro nn
  induction nn with
  | zero => intro e m hk h; omega
  | succ nn ih =>
    intro e m he hh hm hrun
    rw [f_X6_firstSpotOfSquare_21, (C7 h i hi).1, e1, iLE (by omega) (by omega)]
    by_cases h1 : pl V i ≤ e
    · have h2 : pl V i + 1 - fN V t - (e + 1 - fN V t) = 0 := by omega
      rw [if_pos h1, h2, sqr, cif_n m1_lt, zlet, nI_1]
    · rw [if_neg h1, k_open h hW hz ht hi (by omega), zb_s]
      have ST : ∀ m', m' ≤ e + 1 → (∀ j, j ≤ e + 1 → (∀ q, j ≤ q → q < e + 1 → ¬ tk V t i q) → e + 1 - j ≤ m') → f_X6_firstSpotOfSquare_48 K z c ms (A 4 t) rec2 (f_X6_firstSpotOfSquare_21 K z c ms (A 4 t) rec2 nn) (nI i) (A 0 i) (nI e) (nI m') = cif (0 ≤ sqr V t i (pl V i + 1 - fN V t - (e + 1 - fN V t)) (e + 1 - fN V t)) (some (sqr V t i (pl V i + 1 - fN V t - (e + 1 - fN V t)) (e + 1 - fN V t))) (rec2 (nI (i + 1))) := by
        intro m' hm' hr'
        have ih1 := ih (e + 1) m' (by omega) (by omega) hm' hr'
        unfold f_X6_firstSpotOfSquare_48
        rw [zlet, rt_82_4 h ht, e10, iLT (by omega) (by omega), zlet, nI_1]
        by_cases h3 : e + 1 < fN V t
        · rw [if_pos (by omega), ih1, show e + 1 - fN V t = 0 by omega, show e + 1 + 1 - fN V t = 0 by omega]
        · have h4 : pl V i + 1 - fN V t - (e + 1 - fN V t) = (pl V i + 1 - fN V t - (e + 1 + 1 - fN V t)) + 1 := by omega
          have h5 : e + 1 + 1 - fN V t = (e + 1 - fN V t) + 1 := by omega
          rw [h4, sqr]
          by_cases h6 : m' < fN V t
          · have h7 : ¬ ag V t (nI i) (nI (e + 1 - fN V t)) = 0 := by
              intro h7
              have h8 := free_of_ag hW h7 hi (by omega)
              have := hr' (e + 1 - fN V t) (by omega) (fun q hq1 hq2 => h8.2 q hq1 (by omega))
              omega
            rw [if_pos h6, ih1, cif_n h7, h5]
          · have e9 : nI e - nI (fN V t) + 1 = nI (e + 1 - fN V t) := by
              rw [← pk_sub (show fN V t ≤ e + 1 by omega), nI_succ, Int32.sub_eq_add_neg, Int32.sub_eq_add_neg, Int32.add_assoc, Int32.add_assoc, Int32.add_comm 1]
            rw [if_neg h6, e9, k_against h hW (by omega) ht, zb_s]
            by_cases h7 : ag V t (nI i) (nI (e + 1 - fN V t)) = 0
            · have e11 : nI i * 200 + nI (e + 1 - fN V t) = nI (200 * i + (e + 1 - fN V t)) := by rw [n200, pk_mul, nI_add, Nat.mul_comm]
              rw [if_pos h7, cif_p (a := nI (200 * i + (e + 1 - fN V t))) h7, e11, cif_p (nI_pos' (by omega))]
            · rw [if_neg h7, ih1, cif_n h7, h5]
      by_cases h2 : tk V t i e
      · rw [oi_n (fun x => x h2), if_pos rfl]
        refine ST 0 (Nat.zero_le _) (fun j hj hq => ?_)
        rcases Nat.lt_or_ge j (e + 1) with a | a
        · exact absurd h2 (hq e (by omega) (by omega))
        · omega
      · rw [oi_p h2, if_neg (by decide), nI_1]
        refine ST (m + 1) (by omega) (fun j hj hq => ?_)
        rcases Nat.lt_or_ge j (e + 1) with a | a
        · have := hrun j (by omega) (fun q hq1 hq2 => hq q hq1 (by omega))
          omega
        · omega
theorem k_spot2 (h : RC K A c V ms) (hW : WB V) (hz : 300 ≤ z) {t : Nat} (ht : t < tN V) : ∀ (nn i : Nat), i ≤ 40 → 40 - i < nn → f_X6_firstSpotOfSquare_2 K z c ms (A 4 t) nn (nI i) = some (sqs V t (40 - i) i) := by
  obtain ⟨e10, f1, f2⟩ := WB_6 hW ht
  intro nn
  induction nn with
  | zero => intro i hk h; omega
  | succ nn ih =>
    intro i hk hh
    rw [f_X6_firstSpotOfSquare_2, n40, iLE (by omega) (by omega)]
    by_cases h1 : 40 ≤ i
    · rw [if_pos h1, show 40 - i = 0 by omega, sqs]
    · have hi : i < 40 := by omega
      obtain ⟨e1, hpl⟩ := WB_7 hW hi
      rw [if_neg h1, kn_120 h, zx_4 hi, cl_ (by omega), kn_143 h hi]
      have := k_spot21 (z := z) h hW hz ht hi (f_X6_firstSpotOfSquare_2 K z c ms (A 4 t) nn) z 0 0 (Nat.zero_le _) (by omega) (Nat.le_refl _) (fun j hj _ => by omega)
      rw [nI_0, show 0 + 1 - fN V t = 0 by omega, Nat.sub_zero] at this
      rw [this, ih (i + 1) (by omega) (by omega), show 40 - i = (40 - (i + 1)) + 1 by omega, sqs]
      unfold gIn
      by_cases h2 : 0 ≤ sqr V t i (pl V i + 1 - fN V t) 0
      · rw [cif_p h2, cif_p h2]
      · rw [cif_n h2, cif_n h2]
theorem k_spot (h : RC K A c V ms) (hW : WB V) (hz : 300 ≤ z) {t : Nat} (ht : t < tN V) : f_X6_firstSpotOfSquare K z c ms (A 4 t) = some (gSq V t) :=
  k_spot2 h hW hz ht z 0 (by omega) (by omega)
theorem gsl_T {t : Nat} {T : Int32} (hno : ∀ ρ π, ¬ ag V t ρ π = 0) : ∀ m k, gsl V t T m k = T := by
  intro m
  induction m with
  | zero => intro k; rfl
  | succ m ih => intro k; rw [gsl, cif_n (hno _ _), ih]
theorem gs_no {t : Nat} (hb : full V t ∨ outm V t ∨ secd V t) : gs V t = -1 := by
  have hno : ∀ ρ π, ¬ ag V t ρ π = 0 := by
    intro ρ π h
    obtain ⟨i, p, _, _, _, _, h0⟩ := ag_0 h
    obtain ⟨_, _, a, b, c1⟩ := agN_0 h0
    rcases hb with x | x | x
    · exact a x
    · exact b x
    · exact c1 x
  unfold gs
  rw [gsl_T hno, cif_p (Or.inr hb)]
theorem k_good27 (h : RC K A c V ms) (hW : WB V) (hz : 300 ≤ z) {t : Nat} (ht : t < tN V) : ∀ (nn k : Nat), k ≤ wN V t → wN V t - k < nn → f_X6_goodSpot_27 K z c ms (A 4 t) nn (nI k) = some (gsl V t (cif (V.1 19 t = 0) (-1) (gSq V t)) (wN V t - k) k) := by
  obtain ⟨w1, w2⟩ := WB_22 hW ht
  intro nn
  induction nn with
  | zero => intro k hk h; omega
  | succ nn ih =>
    intro k hk hh
    rw [f_X6_goodSpot_27, kn_84 h ht, rt_102_6 h ht, w1, iLE (by omega) (by omega)]
    by_cases h1 : wN V t ≤ k
    · rw [if_pos h1, rt_103_6 h ht, k_spot h hW hz ht, zb_s, show wN V t - k = 0 by omega, gsl]
      by_cases h2 : V.1 19 t = 0
      · rw [if_pos h2, cif_p h2]
      · rw [if_neg h2, cif_n h2]
    · rw [if_neg h1, kn_100 h ht, kn_101 h ht, zx_12 (by omega), zx_12 (by omega), zx_12 (by omega), zx_12 (by omega), cl_ (by omega), (C6 h t ht k (by omega)).1, (C6 h t ht k (by omega)).2, k_against h hW (by omega) ht, zb_s, zlet, nI_1, show wN V t - k = (wN V t - (k + 1)) + 1 by omega, gsl]
      by_cases h2 : ag V t (V.1 16 (12 * t + k)) (V.1 17 (12 * t + k)) = 0
      · rw [if_pos h2, cif_p h2, Int32.mul_comm]
      · rw [if_neg h2, cif_n h2]; exact ih (k + 1) (by omega) (by omega)
theorem k_good (h : RC K A c V ms) (hW : WB V) (hz : 300 ≤ z) {t : Nat} (ht : t < tN V) : f_X6_goodSpot K z c ms (A 4 t) = some (gs V t) := by
  have hw := (WB_22 hW ht).2
  unfold f_X6_goodSpot
  rw [k_limit h hW ht, zb_s, k_outm h ht, zb_s, k_secd h hW ht, zb_s]
  by_cases h1 : full V t
  · rw [oi_p h1, if_neg (by decide), gs_no (Or.inl h1)]
  · rw [oi_n h1, if_pos rfl]
    by_cases h2 : outm V t
    · rw [oi_p h2, if_neg (by decide), gs_no (Or.inr (Or.inl h2))]
    · rw [oi_n h2, if_pos rfl]
      by_cases h3 : secd V t
      · rw [oi_p h3, if_neg (by decide), gs_no (Or.inr (Or.inr h3))]
      · rw [oi_n h3, if_pos rfl]
        have := k_good27 (z := z) h hW hz ht z 0 (Nat.zero_le _) (by omega)
        rw [nI_0, Nat.sub_zero] at this
        rw [this]
        unfold gs
        rw [cif_c (P := V.1 19 t = 0 ∨ full V t ∨ outm V t ∨ secd V t) (Q := V.1 19 t = 0) ⟨fun x => by rcases x with x | x | x | x; exact x; exact absurd x h1; exact absurd x h2; exact absurd x h3, fun x => Or.inl x⟩]
end KB
