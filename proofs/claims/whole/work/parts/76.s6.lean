/-! rows of the square, counted -/
theorem cn_or {P Q : Nat → Prop} (n : Nat) (h : ∀ q, q < n → P q → ¬ Q q) : cn (fun q => P q ∨ Q q) n = cn P n + cn Q n := by
  induction n with
  | zero => rfl
  | succ n ih =>
    rw [cn, cn, cn, ih (fun q hq => h q (by omega))]
    have h1 := h n (by omega)
    by_cases hp : P n
    · rw [cif_p (show P n ∨ Q n from Or.inl hp), cif_p hp, cif_n (h1 hp)]; omega
    · rw [cif_n hp]
      by_cases hq : Q n
      · rw [cif_p (show P n ∨ Q n from Or.inr hq), cif_p hq]; omega
      · rw [cif_n (show ¬ (P n ∨ Q n) from fun x => x.elim hp hq), cif_n hq]; omega
theorem cn_iv (a f : Nat) (n : Nat) : (n ≤ a → cn (fun q => a ≤ q ∧ q < a + f) n = 0) ∧ (a ≤ n → n ≤ a + f → cn (fun q => a ≤ q ∧ q < a + f) n = n - a) ∧ (a + f ≤ n → cn (fun q => a ≤ q ∧ q < a + f) n = f) := by
  induction n with
  | zero =>
    have e : cn (fun q => a ≤ q ∧ q < a + f) 0 = 0 := rfl
    rw [e]
    exact ⟨fun _ => rfl, fun _ _ => by omega, fun _ => by omega⟩
  | succ n ih =>
    obtain ⟨i1, i2, i3⟩ := ih
    rw [cn]
    by_cases h : a ≤ n ∧ n < a + f
    · rw [cif_p h]
      generalize cn (fun q => a ≤ q ∧ q < a + f) n = x at *
      refine ⟨fun y => by omega, fun y1 y2 => ?_, fun y => ?_⟩
      · have := i2 (by omega) (by omega); omega
      · have := i2 (by omega) (by omega); omega
    · rw [cif_n h]
      generalize cn (fun q => a ≤ q ∧ q < a + f) n = x at *
      refine ⟨fun y => ?_, fun y1 y2 => ?_, fun y => ?_⟩
      · have := i1 (by omega); omega
      · rcases Nat.lt_or_ge n a with z | z
        · have := i1 (by omega); omega
        · exfalso; exact h ⟨z, by omega⟩
      · rcases Nat.lt_or_ge n (a + f) with z | z
        · rcases Nat.lt_or_ge n a with z2 | z2
          · have := i1 (by omega); omega
          · exfalso; exact h ⟨z2, z⟩
        · have := i3 z; omega
noncomputable def frS (V : zV) (i : Nat) : Nat → Nat
  | 0 => 0
  | k + 1 => frS V i k + cif (st V k ∧ sr V k = i) (fN V k) 0
section SQ
variable {K : Nat → Nat} {A : Nat → Nat → Nat} {ra : Nat → Nat} {c r : zS} {V : zV} {ms mo z : Nat}
theorem cn_cov (hW : WB V) {i : Nat} : ∀ k, k ≤ tN V → cn (fun q => ∃ o, o < k ∧ cov V o i q) (pl V i) = frS V i k := by
  intro k
  induction k with
  | zero => intro _; exact cn_0 _ (fun q _ ⟨o, h, _⟩ => by omega)
  | succ k ih =>
    intro hk
    rw [frS, ← ih (by omega), cn_c (Q := fun q => (∃ o, o < k ∧ cov V o i q) ∨ cov V k i q) _ (fun q _ => ⟨fun ⟨o, h1, h2⟩ => by
      rcases Nat.lt_or_ge o k with h3 | h3
      · exact Or.inl ⟨o, h3, h2⟩
      · have e : o = k := by omega
        subst e; exact Or.inr h2, fun x => by
      rcases x with ⟨o, h1, h2⟩ | h2
      · exact ⟨o, by omega, h2⟩
      · exact ⟨k, by omega, h2⟩⟩), cn_or _ (fun q _ ⟨o, h1, h2⟩ h3 => by
      have := cov_u hW (show o < tN V by omega) (show k < tN V by omega) h2 h3
      omega)]
    congr 1
    by_cases h : st V k ∧ sr V k = i
    · rw [cif_p h]
      obtain ⟨s1, s2, s3, s4⟩ := WB_11 hW (show k < tN V by omega) h.1
      rw [h.2] at s4
      rw [cn_c (Q := fun q => sp V k ≤ q ∧ q < sp V k + fN V k) _ (fun q _ => ⟨fun x => x.2.2, fun x => ⟨h.1, h.2, x⟩⟩)]
      exact (cn_iv (sp V k) (fN V k) (pl V i)).2.2 s4
    · rw [cif_n h]
      exact cn_0 _ (fun q _ x => h ⟨x.1, x.2.1⟩)
theorem frS_le (hW : WB V) {i : Nat} (hi : i < 40) (k : Nat) (hk : k ≤ tN V) : frS V i k ≤ 200 := by
  have := (WB_7 hW hi).2
  have h2 := cn_le (fun q => ∃ o, o < k ∧ cov V o i q) (pl V i)
  rw [cn_cov hW k hk] at h2
  omega
theorem k_cm4 (h : RC K A c V ms) (hW : WB V) {i : Nat} (hi : i < 40) (b : Int32) : ∀ (nn k : Nat), k ≤ pl V i → pl V i - k < nn → f_X0_countMarked_4 K z c (A 0 i) b nn (nI (cn (fun q => mk V i q b) k)) (nI k) = some (nI (cn (fun q => mk V i q b) (pl V i))) := by
  obtain ⟨e1, hpl⟩ := WB_7 hW hi
  intro nn
  induction nn with
  | zero => intro k hk h; omega
  | succ nn ih =>
    intro k hk hh
    rw [f_X0_countMarked_4, (C7 h i hi).1, e1, iLE (by omega) (by omega)]
    by_cases h1 : pl V i ≤ k
    · rw [if_pos h1, show k = pl V i by omega]
    · have ih1 := ih (k + 1) (by omega) (by omega)
      rw [cn] at ih1
      rw [if_neg h1, kn_0 h hi, zx_2 (by omega), cl_ (by omega), (C7 h i hi).2 k (by omega)]
      by_cases h3 : V.1 2 (200 * i + k) &&& b = 0
      · have hn : ¬ mk V i k b := fun x => x h3
        rw [if_pos h3, k_oneIf, zb_s, if_pos rfl, zlet, zlet, Int32.add_zero, nI_1]
        rw [cif_n hn, Nat.add_zero] at ih1
        exact ih1
      · have hn : mk V i k b := h3
        rw [if_neg h3, k_oneIf, zb_s, if_neg (by decide), zlet, zlet, nI_1, nI_1]
        rw [cif_p hn] at ih1
        exact ih1
theorem k_cm (h : RC K A c V ms) (hW : WB V) (hz : 300 ≤ z) {i : Nat} (hi : i < 40) (b : Int32) : f_X0_countMarked K z c (A 0 i) b = some (nI (cn (fun q => mk V i q b) (pl V i))) := by
  have hpl := (WB_7 hW hi).2
  exact k_cm4 h hW hi b z 0 (Nat.zero_le _) (by omega)
theorem k_ct4 (h : RC K A c V ms) (hW : WB V) {i : Nat} (hi : i < 40) : ∀ (nn k : Nat), k ≤ pl V i → pl V i - k < nn → f_X0_countTaken_4 K z c (A 0 i) nn (nI (cn (fun q => ∃ o, o < tN V ∧ cov V o i q) k)) (nI k) = some (nI (cn (fun q => ∃ o, o < tN V ∧ cov V o i q) (pl V i))) := by
  obtain ⟨e1, hpl⟩ := WB_7 hW hi
  intro nn
  induction nn with
  | zero => intro k hk h; omega
  | succ nn ih =>
    intro k hk hh
    rw [f_X0_countTaken_4, (C7 h i hi).1, e1, iLE (by omega) (by omega)]
    by_cases h1 : pl V i ≤ k
    · rw [if_pos h1, show k = pl V i by omega]
    · have ih1 := ih (k + 1) (by omega) (by omega)
      rw [cn] at ih1
      rw [if_neg h1, kn_1 h hi, zx_2 (by omega), cl_ (by omega), zlet]
      rcases C13 h i k hi (by omega) with ⟨o, ho, hc, e⟩ | ⟨hn, e⟩
      · rw [e, zo_s (K4 h ho), k_oneIf, zb_s, if_neg (by decide), zlet, zlet, nI_1, nI_1]
        rw [cif_p ⟨o, ho, hc⟩] at ih1
        exact ih1
      · rw [e, zo_n, k_oneIf, zb_s, if_pos rfl, zlet, zlet, Int32.add_zero, nI_1]
        rw [cif_n (fun ⟨o, ho, hc⟩ => hn o ho hc), Nat.add_zero] at ih1
        exact ih1
theorem k_ct (h : RC K A c V ms) (hW : WB V) (hz : 300 ≤ z) {i : Nat} (hi : i < 40) : f_X0_countTaken K z c (A 0 i) = some (nI (frS V i (tN V))) := by
  have hpl := (WB_7 hW hi).2
  rw [← cn_cov hW (tN V) (Nat.le_refl _)]
  exact k_ct4 h hW hi z 0 (Nat.zero_le _) (by omega)
theorem m_sq86n (hV : vr ra mo r = V) (hz : 300 ≤ z) {ρ p2 v : Int32} (hp : ¬ p2 = 4) : f_X7_square_86 K z mo ρ p2 z r v 0 = some (v, r) := by
  obtain ⟨y, rfl⟩ : ∃ y, z = y + 1 := ⟨z - 1, by omega⟩
  rw [f_X7_square_86, if_neg hp]
  split <;> rfl
theorem m_sq39 (hM : MS K ra mo r) (hV : vr ra mo r = V) (hW : WB V) (hz : 300 ≤ z) {i : Nat} (hi : i < 40) {p2 b : Int32} (hb : ∀ m, m < 8 → (nI m >>> ((p2 - 1) &&& 31)) &&& 1 = if nI m &&& b = 0 then 0 else 1) (h4 : ¬ 4 ≤ p2) (h5 : ¬ p2 = 4) : ∀ (nn k : Nat), k ≤ pl V i → pl V i - k < nn → f_X7_square_39 K z mo (nI i) p2 nn r (nI (cn (fun q => mk V i q b) k)) (nI k) = some (nI (cn (fun q => mk V i q b) (pl V i)), r) := by
  obtain ⟨e1, hpl⟩ := WB_7 hW hi
  intro nn
  induction nn with
  | zero => intro k hk h; omega
  | succ nn ih =>
    intro k hk hh
    rw [f_X7_square_39, zq_1 hM, zx_4 hi, cl_ (by omega), rd_1 (ra := ra) (mo := mo), hV, e1, iLE (by omega) (by omega)]
    by_cases h1 : pl V i ≤ k
    · rw [if_pos h1, m_sq86n hV hz h5, show k = pl V i by omega]
    · have ih1 := ih (k + 1) (by omega) (by omega)
      rw [cn] at ih1
      have e2 : 200 * nI i + nI k = nI (200 * i + k) := by rw [n200, pk_mul, nI_add]
      obtain ⟨m, hm, em⟩ := WB_8 hW (show 200 * i + k < 8000 by omega)
      rw [if_neg h1, if_neg h4, zq_2 hM, e2, zx_8000 (by omega), cl_ (by omega), rd_2 (ra := ra) (mo := mo), hV, em, hb m hm, zlet, zlet, nI_1]
      by_cases h3 : nI m &&& b = 0
      · have hn : ¬ mk V i k b := fun x => x (by rw [em]; exact h3)
        rw [cif_n hn, Nat.add_zero] at ih1
        rw [if_pos h3, Int32.add_zero]
        exact ih1
      · have hn : mk V i k b := fun x => h3 (by rw [← em]; exact x)
        rw [cif_p hn] at ih1
        rw [if_neg h3, nI_1]
        exact ih1
theorem m_sq86 (hM : MS K ra mo r) (hV : vr ra mo r = V) (hW : WB V) {i : Nat} (hi : i < 40) : ∀ (nn k : Nat), k ≤ tN V → tN V - k < nn → f_X7_square_86 K z mo (nI i) 4 nn r (nI (frS V i k)) (nI k) = some (nI (frS V i (tN V)), r) := by
  have hN := WB_2 hW
  intro nn
  induction nn with
  | zero => intro k hk h; omega
  | succ nn ih =>
    intro k hk h
    rw [f_X7_square_86, rd_35 (ra := ra) (mo := mo), hV, WB_1 hW, iLE (by omega) (by omega)]
    by_cases h1 : tN V ≤ k
    · rw [if_pos h1, show k = tN V by omega]
    · have hk2 : k < 200 := by omega
      have ih1 := ih (k + 1) (by omega) (by omega)
      rw [frS] at ih1
      rw [if_neg h1, if_pos rfl]
      simp only [zq_27 hM, zq_28 hM, zq_10 hM, zx_2 hk2, cl_ (show k < 8000 by omega), rd_27 (ra := ra) (mo := mo), rd_28 (ra := ra) (mo := mo), rd_10 (ra := ra) (mo := mo), hV, zlet, nI_1, Int32.add_zero]
      by_cases h2 : V.1 27 k = 0
      · rw [if_pos h2]
        rw [cif_n (fun x => x.1 h2), Nat.add_zero] at ih1
        exact ih1
      · obtain ⟨s1, s2, s3, s4⟩ := WB_11 hW (show k < tN V by omega) h2
        rw [if_neg h2, s1, iEQ (by omega) (by omega)]
        by_cases h3 : sr V k = i
        · rw [if_pos h3, (WB_6 hW (show k < tN V by omega)).1, nI_add]
          rw [cif_p ⟨h2, h3⟩] at ih1
          exact ih1
        · rw [if_neg h3]
          rw [cif_n (fun x => h3 x.2), Nat.add_zero] at ih1
          exact ih1
noncomputable def sqV (V : zV) (i : Nat) (p : Int32) : Int32 := if p = 0 then V.1 1 i else if p = 1 then nI (cn (fun q => mk V i q 1) (pl V i)) else if p = 2 then nI (cn (fun q => mk V i q 2) (pl V i)) else if p = 3 then nI (cn (fun q => mk V i q 4) (pl V i)) else if p = 4 then nI (frS V i (tN V)) else -1
theorem k_square (h : RC K A c V ms) (hW : WB V) (hz : 300 ≤ z) {i : Nat} (hi : i < 40) (p : Int32) : f_X6_square K z c ms (nI i) p = some (sqV V i p) := by
  unfold f_X6_square sqV
  rw [k_row h hi, zb_s, zo_s ((C1 h).1 i hi).1, (C7 h i hi).1, k_cm h hW hz hi, k_cm h hW hz hi, k_cm h hW hz hi, k_ct h hW hz hi, zb_s, zb_s, zb_s, zb_s]
  by_cases c0 : p = 0
  · rw [if_pos c0, if_pos c0]
  rw [if_neg c0, if_neg c0]
  by_cases c1 : p = 1
  · rw [if_pos c1, if_pos c1]
  rw [if_neg c1, if_neg c1]
  by_cases c2 : p = 2
  · rw [if_pos c2, if_pos c2]
  rw [if_neg c2, if_neg c2]
  by_cases c3 : p = 3
  · rw [if_pos c3, if_pos c3]
  rw [if_neg c3, if_neg c3]
  by_cases c4 : p = 4
  · rw [if_pos c4, if_pos c4]
  rw [if_neg c4, if_neg c4]
theorem p04 {p : Int32} (h1 : ¬ p < 0) (h2 : p ≤ 4) : p = 0 ∨ p = 1 ∨ p = 2 ∨ p = 3 ∨ p = 4 := by
  obtain ⟨j, hj, e⟩ := nI_of2 (n := 4) (by decide) h1 h2
  rw [e]
  rcases (show j = 0 ∨ j = 1 ∨ j = 2 ∨ j = 3 ∨ j = 4 by omega) with rfl | rfl | rfl | rfl | rfl
  · exact Or.inl rfl
  · exact Or.inr (Or.inl rfl)
  · exact Or.inr (Or.inr (Or.inl rfl))
  · exact Or.inr (Or.inr (Or.inr (Or.inl rfl)))
  · exact Or.inr (Or.inr (Or.inr (Or.inr rfl)))
theorem mb1 : ∀ m, m < 8 → (nI m >>> (((1 : Int32) - 1) &&& 31)) &&& 1 = if nI m &&& 1 = 0 then 0 else 1 := by decide +kernel
theorem mb2 : ∀ m, m < 8 → (nI m >>> (((2 : Int32) - 1) &&& 31)) &&& 1 = if nI m &&& 2 = 0 then 0 else 1 := by decide +kernel
theorem mb3 : ∀ m, m < 8 → (nI m >>> (((3 : Int32) - 1) &&& 31)) &&& 1 = if nI m &&& 4 = 0 then 0 else 1 := by decide +kernel
theorem m_square (hM : MS K ra mo r) (hV : vr ra mo r = V) (hW : WB V) (hz : 300 ≤ z) {i : Nat} (hi : i < 40) (p : Int32) : f_X7_square K z r mo (nI i) p = some (sqV V i p, zui r 0 mo 0 0) := by
  have hN := WB_2 hW
  have hpl := (WB_7 hW hi).2
  have hV1 : vr ra mo (zui r 0 mo 0 0) = V := by rw [vw_0, hV]
  have hM1 : MS K ra mo (zui r 0 mo 0 0) := hM
  unfold f_X7_square
  rw [zlet, m_noRowI hi, zb_s, if_pos rfl]
  by_cases h1 : p < 0
  · rw [if_pos h1]
    unfold sqV
    have hne : ∀ q : Int32, ¬ q < 0 → ¬ p = q := fun q hq e => hq (by rw [← e]; exact h1)
    rw [if_neg (hne 0 (by decide)), if_neg (hne 1 (by decide)), if_neg (hne 2 (by decide)), if_neg (hne 3 (by decide)), if_neg (hne 4 (by decide))]
  · rw [if_neg h1]
    by_cases h2 : p ≤ 4
    · rw [if_pos h2]
      rcases p04 h1 h2 with rfl | rfl | rfl | rfl | rfl
      · rw [if_pos rfl, zq_1 hM1, zx_4 hi, cl_ (by omega), rd_1 (ra := ra) (mo := mo), hV1]; rfl
      · rw [if_neg (by decide)]; exact m_sq39 hM1 hV1 hW hz hi mb1 (by decide) (by decide) z 0 (Nat.zero_le _) (by omega)
      · rw [if_neg (by decide)]; exact m_sq39 hM1 hV1 hW hz hi mb2 (by decide) (by decide) z 0 (Nat.zero_le _) (by omega)
      · rw [if_neg (by decide)]; exact m_sq39 hM1 hV1 hW hz hi mb3 (by decide) (by decide) z 0 (Nat.zero_le _) (by omega)
      · rw [if_neg (by decide)]
        have F := m_sq86 (z := z) hM1 hV1 hW hi z 0 (Nat.zero_le _) (by omega)
        have F2 : f_X7_square_86 K z mo (nI i) 4 z (zui r 0 mo 0 0) 0 0 = some (sqV V i 4, zui r 0 mo 0 0) := F
        obtain ⟨y, hy⟩ : ∃ y, z = y + 1 := ⟨z - 1, by omega⟩
        have U : ∀ y, f_X7_square_39 K z mo (nI i) 4 (y + 1) (zui r 0 mo 0 0) 0 0 = f_X7_square_86 K z mo (nI i) 4 z (zui r 0 mo 0 0) 0 0 := by
          intro y
          rw [f_X7_square_39, zq_1 hM1, zx_4 hi, if_pos (show (4 : Int32) ≤ 4 by decide)]
          split <;> rfl
        have e : f_X7_square_39 K z mo (nI i) 4 z (zui r 0 mo 0 0) 0 0 = f_X7_square_39 K z mo (nI i) 4 (y + 1) (zui r 0 mo 0 0) 0 0 := congrArg (fun n => f_X7_square_39 K z mo (nI i) 4 n (zui r 0 mo 0 0) 0 0) hy
        rw [e, U, F2]
    · rw [if_neg h2]
      unfold sqV
      have hne : ∀ q : Int32, q ≤ 4 → ¬ p = q := fun q hq e => h2 (by rw [e]; exact hq)
      rw [if_neg (hne 0 (by decide)), if_neg (hne 1 (by decide)), if_neg (hne 2 (by decide)), if_neg (hne 3 (by decide)), if_neg (hne 4 (by decide))]
end SQ

section SX
variable {ra : Nat → Nat} {ms mo ou z : Nat}
theorem s_28 (hz : 8100 ≤ z) : S_28 (IN ms mo ou ra) z ms mo ou := by
  intro n K L c r p1 p2 hn hI
  obtain ⟨q1, q2, q3, A, h, hW, hM⟩ := hI
  generalize hV : vr ra mo r = V at h hW
  have hB := hW.1
  have hM1 : MS K ra mo (zui r 0 mo 0 0) := hM
  have hV1 : vr ra mo (zui r 0 mo 0 0) = V := by rw [vw_0, hV]
  have hT1 : zi (zui r 0 mo 0 0) 37 mo 0 = V.1 37 0 := by rw [← hV1]; rfl
  have t01 : zi (zui r 0 mo 0 0) 0 mo 0 = 0 := zi_thr
  have hW1 : WV (400 * (n + 1)) V := WV_mono (by omega) hW
  have THR : ∀ e : Int32, IN ms mo ou ra (n + 1) K L c (zui (zui r 0 mo 0 0) 0 mo 0 e) := fun e => IN_mk q1 q2 q3 h hW1 hM (by rw [vw_0, hV1])
  rcases in_of (p := p1) (N := 40) (n := 40) rfl (by decide) with ⟨i, hi, rfl⟩ | hp1
  · exact ⟨sqV V i p2, k_square h hB (by omega) hi p2, sqV V i p2, _, m_square hM hV hB (by omega) hi p2, rfl, IN_mk q1 q2 q3 h hW1 hM1 hV1⟩
  · exact ⟨-1, (by rw [f_X6_square, k_rowO hp1, zb_s, zo_n]), -1, _, (by rw [f_X7_square, zlet, m_noRow hp1, zb_s, if_neg (by decide)]), rfl, IN_mk q1 q2 q3 h hW1 hM1 hV1⟩

end SX

section MA
variable {K : Nat → Nat} {A : Nat → Nat → Nat} {ra : Nat → Nat} {c r : zS} {V : zV} {ms mo z : Nat}
theorem k_hasO (h : RC K A c V ms) {i : Nat} (hi : i < 40) {p : Int32} (hp : ¬ p < 0 ∧ ¬ p < V.1 1 i ∧ V.1 1 i ≤ p) : f_X0_has K z c (A 0 i) p = some 0 := by
  unfold f_X0_has
  rw [if_neg hp.1, (C7 h i hi).1, if_pos hp.2.2]
theorem RC_mark (h : RC K A c V ms) {i q : Nat} (hi : i < 40) (hq : q < 200) (v : Int32) : RC K A (zui c 140 (A 1 i) q v) (uV V 2 (200 * i + q) v) ms := by
  have Ez : ∀ g, (g ≠ 140) → zi (zui c 140 (A 1 i) q v) g = zi c g := fun g hg => zi_o hg
  have El : ∀ g, g ≠ 1000 → zl (zui c 140 (A 1 i) q v) g = zl c g := fun _ _ => rfl
  have Er : ∀ g, g ≠ 1000 → zr (zui c 140 (A 1 i) q v) g = zr c g := fun _ _ => rfl
  have E : ∀ g, (g ≠ 2) → (uV V 2 (200 * i + q) v).1 g = V.1 g := fun g hg => uV_o hg
  have E2 : ∀ g, g ≠ 200 → (uV V 2 (200 * i + q) v).2 g = V.2 g := fun _ _ => rfl
  refine ⟨h.1, R1_c (E 7 (by decide)) (E 35 (by decide)) (C1 h), R2_c (Er 0 (by decide)) (Er 1 (by decide)) (Er 120 (by decide)) (Er 121 (by decide)) (Er 122 (by decide)) (Er 123 (by decide)) (Er 124 (by decide)) (Er 143 (by decide)) (C2 h), R3_c (Er 144 (by decide)) (Er 145 (by decide)) (E 7 (by decide)) (E 35 (by decide)) (C3 h), R4_c (Er 40 (by decide)) (Er 81 (by decide)) (Er 83 (by decide)) (Er 84 (by decide)) (Er 85 (by decide)) (Er 100 (by decide)) (Er 101 (by decide)) (E 9 (by decide)) (E 35 (by decide)) (C4 h), R5_c (Ez 20 (by decide)) (Ez 21 (by decide)) (Ez 22 (by decide)) (Ez 41 (by decide)) (Ez 42 (by decide)) (Ez 44 (by decide)) (Ez 45 (by decide)) (Ez 46 (by decide)) (Ez 82 (by decide)) (Ez 86 (by decide)) (Ez 87 (by decide)) (Ez 88 (by decide)) (Ez 89 (by decide)) (Ez 90 (by decide)) (Ez 91 (by decide)) (Ez 92 (by decide)) (Ez 102 (by decide)) (Ez 103 (by decide)) (E 8 (by decide)) (E 10 (by decide)) (E 11 (by decide)) (E 12 (by decide)) (E 13 (by decide)) (E 14 (by decide)) (E 15 (by decide)) (E 18 (by decide)) (E 19 (by decide)) (E 20 (by decide)) (E 21 (by decide)) (E 23 (by decide)) (E 24 (by decide)) (E 25 (by decide)) (E 27 (by decide)) (E 28 (by decide)) (E 29 (by decide)) (E 30 (by decide)) (E 31 (by decide)) (E 32 (by decide)) (E 33 (by decide)) (E 35 (by decide)) (C5 h), R6_c (Ez 141 (by decide)) (Ez 142 (by decide)) (E 16 (by decide)) (E 17 (by decide)) (E 35 (by decide)) (C6 h), ?_, R8_c (Ez 60 (by decide)) (Ez 61 (by decide)) (Ez 62 (by decide)) (Ez 63 (by decide)) (Ez 64 (by decide)) (E 3 (by decide)) (E 4 (by decide)) (E 5 (by decide)) (E 6 (by decide)) (E 7 (by decide)) (C8 h), R9_c (Ez 43 (by decide)) (Ez 80 (by decide)) (El 93 (by decide)) (E 21 (by decide)) (E 22 (by decide)) (E 35 (by decide)) (E2 34 (by decide)) (C9 h), R10_c (Ez 125 (by decide)) (Ez 126 (by decide)) (Ez 127 (by decide)) (Ez 128 (by decide)) (Ez 129 (by decide)) (Ez 130 (by decide)) (Ez 131 (by decide)) (El 134 (by decide)) (El 135 (by decide)) (El 136 (by decide)) (El 137 (by decide)) (E 7 (by decide)) (E 35 (by decide)) (E 36 (by decide)) (E 37 (by decide)) (E 38 (by decide)) (E 39 (by decide)) (E 40 (by decide)) (E 41 (by decide)) (E 42 (by decide)) (E2 43 (by decide)) (E2 44 (by decide)) (C10 h), R11_c (Ez 65 (by decide)) (E 7 (by decide)) (E 9 (by decide)) (E 27 (by decide)) (E 35 (by decide)) (C11 h), R12_c (Ez 132 (by decide)) (Ez 133 (by decide)) (E 8 (by decide)) (E 27 (by decide)) (E 35 (by decide)) (C12 h), R13_c (Er 148 (by decide)) (E 10 (by decide)) (E 27 (by decide)) (E 28 (by decide)) (E 29 (by decide)) (E 35 (by decide)) (C13 h), R14_c (Er 146 (by decide)) (E 11 (by decide)) (E 35 (by decide)) (C14 h), R15_c (Ez 47 (by decide)) (E 35 (by decide)) (E 60 (by decide)) (C15 h)⟩
  intro j hj
  obtain ⟨a, b⟩ := C7 h j hj
  refine ⟨by rw [Ez 2 (by decide), E 1 (by decide)]; exact a, fun p hp => ?_⟩
  rw [zi_zui, uV_1]
  by_cases e : j = i ∧ p = q
  · rw [if_pos ⟨rfl, by rw [e.1], e.2⟩, if_pos ⟨rfl, by rw [e.1, e.2]⟩]
  · rw [if_neg (fun x => e ⟨(h.1 _ _ _ _ x.2.1).2, x.2.2⟩), if_neg (fun x => by omega)]; exact b p hp
theorem WV_mark {n : Nat} (hW : WV n V) {q m : Nat} (hm : m < 8) : WV n (uV V 2 q (nI m)) := by
  have E : ∀ g, (g ≠ 2) → (uV V 2 q (nI m)).1 g = V.1 g := fun g hg => uV_o hg
  have E2 : ∀ g, g ≠ 200 → (uV V 2 q (nI m)).2 g = V.2 g := fun _ _ => rfl
  obtain ⟨⟨w1, w2, w3, w4, w5, w6, w7, w8, w9, w10, w11, w12, w13, w18, w20, w22, w23, w24⟩, w14, w15, w16, w17, w19, w21⟩ := hW
  refine ⟨⟨W1_c (E 35 (by decide)) w1, W2_c (E 35 (by decide)) w2, W3_c (E 7 (by decide)) w3, W4_c (E 7 (by decide)) w4, W5_c (E 7 (by decide)) (E 9 (by decide)) (E 35 (by decide)) w5, W6_c (E 10 (by decide)) (E 35 (by decide)) w6, W7_c (E 1 (by decide)) w7, ?_, W9_c (E 6 (by decide)) w9, W10_c (E 5 (by decide)) w10, W11_c (E 1 (by decide)) (E 10 (by decide)) (E 27 (by decide)) (E 28 (by decide)) (E 29 (by decide)) (E 35 (by decide)) w11, W12_c (E 10 (by decide)) (E 27 (by decide)) (E 28 (by decide)) (E 29 (by decide)) (E 35 (by decide)) w12, W13_c (E 21 (by decide)) (E 23 (by decide)) (E 35 (by decide)) w13, W18_c (E 31 (by decide)) (E 32 (by decide)) (E 35 (by decide)) w18, W20_c (E 11 (by decide)) (E 35 (by decide)) w20, W22_c (E 18 (by decide)) (E 35 (by decide)) w22, W23_c (E 12 (by decide)) (E 13 (by decide)) (E 14 (by decide)) (E 16 (by decide)) (E 17 (by decide)) (E 18 (by decide)) (E 19 (by decide)) (E 20 (by decide)) (E 21 (by decide)) (E 22 (by decide)) (E 23 (by decide)) (E 24 (by decide)) (E 25 (by decide)) (E 26 (by decide)) (E 27 (by decide)) (E 28 (by decide)) (E 29 (by decide)) (E 30 (by decide)) (E 31 (by decide)) (E 32 (by decide)) (E 35 (by decide)) (E2 34 (by decide)) w23, W24_c (E 6 (by decide)) (E 7 (by decide)) w24⟩, W14_c (E 37 (by decide)) w14, W15_c (E 21 (by decide)) (E 22 (by decide)) (E 23 (by decide)) (E 24 (by decide)) (E 25 (by decide)) (E 26 (by decide)) (E 27 (by decide)) (E 37 (by decide)) w15, W16_c (E 25 (by decide)) (E 26 (by decide)) (E 27 (by decide)) (E 37 (by decide)) w16, W17_c (E 25 (by decide)) (E 26 (by decide)) (E 27 (by decide)) (E 35 (by decide)) w17, W19_c (E 11 (by decide)) (E 35 (by decide)) (E 36 (by decide)) w19, W21_c (E 41 (by decide)) (E 42 (by decide)) w21⟩
  intro p hp
  by_cases e : p = q
  · exact ⟨m, hm, by rw [e, uV_s]⟩
  · rw [uV_t e]; exact w8 p hp
theorem mkF1 : ∀ m, m < 8 → ∀ w, w < 3 → (((nI m >>> (nI w &&& 31)) &&& 1 = 1 → ¬ nI m &&& ((1 : Int32) <<< (nI w &&& 31)) = 0) ∧ (¬ (nI m >>> (nI w &&& 31)) &&& 1 = 1 → nI m &&& ((1 : Int32) <<< (nI w &&& 31)) = 0)) := by decide +kernel
theorem mkF2 : ∀ m, m < 8 → ∀ w, w < 3 → (nI m ^^^ ((1 : Int32) <<< (nI w &&& 31))) &&& 7 = nI m ^^^ ((1 : Int32) <<< (nI w &&& 31)) := by decide +kernel
theorem mkF3 : ∀ m, m < 8 → Int8.toInt32 (Int32.toInt8 (Int8.toInt32 (Int32.toInt8 (nI m)))) = nI m := by decide +kernel
end MA

section SX
variable {ra : Nat → Nat} {ms mo ou z : Nat}
theorem s_1 (hz : 8100 ≤ z) : S_1 (IN ms mo ou ra) z ms mo ou := by
  intro n K L c r p1 p2 p3 p4 hn hI
  obtain ⟨q1, q2, q3, A, h, hW, hM⟩ := hI
  generalize hV : vr ra mo r = V at h hW
  have hB := hW.1
  have hM1 : MS K ra mo (zui r 0 mo 0 0) := hM
  have hV1 : vr ra mo (zui r 0 mo 0 0) = V := by rw [vw_0, hV]
  have hT1 : zi (zui r 0 mo 0 0) 37 mo 0 = V.1 37 0 := by rw [← hV1]; rfl
  have t01 : zi (zui r 0 mo 0 0) 0 mo 0 = 0 := zi_thr
  have hW1 : WV (400 * (n + 1)) V := WV_mono (by omega) hW
  have THR : ∀ e : Int32, IN ms mo ou ra (n + 1) K L c (zui (zui r 0 mo 0 0) 0 mo 0 e) := fun e => IN_mk q1 q2 q3 h hW1 hM (by rw [vw_0, hV1])
  have hon := hc_zz p4
  generalize (if p4 = 0 then (0 : Int32) else 1) = on at hon ⊢
  rcases in_of (p := p1) (N := 40) (n := 40) rfl (by decide) with ⟨i, hi, rfl⟩ | hp1
  · have K0 : K (A 0 i) = 0 := ((C1 h).1 i hi).1
    obtain ⟨e1, hpl⟩ := WB_7 hB hi
    have er : zi (zui r 0 mo 0 0) 101 (ra 1) i = V.1 1 i := by rw [← hV1]; rfl
    rcases in_of (p := p2) (N := V.1 1 i) (n := pl V i) e1 (by omega) with ⟨q, hq, rfl⟩ | hp2 | hp2
    · have hr : ¬ nI (pl V i) ≤ 0 := nI_nle (by omega) (by omega)
      by_cases c1 : p3 < 0
      · refine ⟨.inr 2, (by rw [f_X6_mark, k_rwIn h hi, zt_l, zn_s K0, k_has h hB hi (by omega), zb_s, oi_p hq, if_neg (show ¬ (1 : Int32) = 0 by decide), if_pos c1]), fun x hx => by have e9 := Sum.inr.inj hx; omega, fun rr u h9 => ?_⟩
        have hu : rr = 2 ∧ u = (K, L, c) := by
          rcases h9 with ⟨_, _, e9, _⟩ | ⟨e9, h9⟩ | ⟨e9, h9⟩ | ⟨e9, h9⟩
          · cases e9
          · exact absurd (Sum.inr.inj e9) (by decide)
          · exact h9
          · exact absurd (Sum.inr.inj e9) (by decide)
        obtain ⟨rfl, rfl⟩ := hu
        exact ⟨0, _, (by rw [f_X7_mark, zlet, m_isRow hM1 hV1 hi, zb_s, e1, if_neg hr, if_neg (show ¬ (1 : Int32) = 0 by decide), if_neg (nI_pos (by omega)), zq_1 hM1, zx_4 hi, cl_ (by omega), er, e1, if_pos (nI_lt hq (by omega)), f_X7_mark_33, m_thr0, zb2_s, if_pos rfl, if_pos c1, f_X7_mark_50, f_X7_mark_55, m_thr1, zb2_s, if_neg (by decide)]), zi_thr, fun x => absurd x (by decide), THR 2⟩
      · by_cases c2 : p3 ≤ 2
        · rcases tm4 hW with c4 | c4
          · obtain ⟨m, hm, em⟩ := WB_8 hB (show 200 * i + q < 8000 by omega)
            have e2 : 200 * nI i + nI q = nI (200 * i + q) := by rw [n200, pk_mul, nI_add]
            have e3 : zi (zui r 0 mo 0 0) 102 (ra 2) (200 * i + q) = V.1 2 (200 * i + q) := by rw [← hV1]; rfl
            obtain ⟨w, hw, rfl⟩ := nI_of2 (n := 2) (by decide) c1 c2
            have F1 := mkF1 m hm w (by omega)
            obtain ⟨m2, hm2, em2⟩ : ∃ j, j < 8 ∧ nI m ^^^ ((1 : Int32) <<< (nI w &&& 31)) = nI j := by
              obtain ⟨j, hj, e⟩ := pk_andE (nI m ^^^ ((1 : Int32) <<< (nI w &&& 31))) (m := 7) 3 (by decide)
              exact ⟨j, hj, by rw [← e, mkF2 m hm w (by omega)]⟩
            by_cases c8 : (nI m >>> (nI w &&& 31)) &&& 1 = 1
            · have c9 := F1.1 c8
              by_cases e9 : (1 : Int32) = on
              · refine ⟨.inl (0, c), (by rw [f_X6_mark, k_rwIn h hi, zt_l, zn_s K0, k_has h hB hi (by omega), zb_s, oi_p hq, if_neg (show ¬ (1 : Int32) = 0 by decide), if_neg c1, if_pos c2, k_tm h, c4, if_neg (by decide), if_pos (by decide), zt_l, f_X0_setMark, k_has h hB hi (by omega), zb_s, oi_p hq, if_neg (show ¬ (1 : Int32) = 0 by decide), kn_0 h hi, zx_2 (by omega), cl_ (by omega), (C7 h i hi).2 q (by omega), em, if_neg c9, f_X0_setMark_24, if_pos e9, zb2_s, zz_0]), fun x hx => (by cases hx), fun rr u h9 => ?_⟩
                have hu : rr = 0 ∧ u = (K, L, (zul c 170 ou 0 (if (0 : Int32) = 0 then 0 else 1))) := by
                  rcases h9 with ⟨x9, c9, e9, h9⟩ | ⟨e9, _⟩ | ⟨e9, _⟩ | ⟨e9, _⟩
                  · cases e9; exact h9
                  · cases e9
                  · cases e9
                  · cases e9
                obtain ⟨rfl, rfl⟩ := hu
                exact ⟨0, _, (by rw [f_X7_mark, zlet, m_isRow hM1 hV1 hi, zb_s, e1, if_neg hr, if_neg (show ¬ (1 : Int32) = 0 by decide), if_neg (nI_pos (by omega)), zq_1 hM1, zx_4 hi, cl_ (by omega), er, e1, if_pos (nI_lt hq (by omega)), f_X7_mark_33, m_thr0, zb2_s, if_pos rfl, if_neg c1, if_pos c2, f_X7_mark_55, m_thr0, zb2_s, if_pos rfl, hT1, c4, if_pos rfl, f_X7_mark_75, m_thr0, zb2_s, if_pos rfl, zlet, e2, zq_2 hM1, zx_8000 (by omega), cl_ (by omega), e3, em, if_pos c8, f_X7_mark_113, if_pos e9, f_X7_mark_136, if_pos e9]), t01, (fun _ => by rw [zl_zul, if_pos ⟨rfl, rfl, rfl⟩]), IN_mk q1 q2 q3 (RC_zl h) hW1 hM1 hV1⟩
              · refine ⟨.inl (1, zui c 140 (A 1 i) q (nI m2)), (by rw [f_X6_mark, k_rwIn h hi, zt_l, zn_s K0, k_has h hB hi (by omega), zb_s, oi_p hq, if_neg (show ¬ (1 : Int32) = 0 by decide), if_neg c1, if_pos c2, k_tm h, c4, if_neg (by decide), if_pos (by decide), zt_l, f_X0_setMark, k_has h hB hi (by omega), zb_s, oi_p hq, if_neg (show ¬ (1 : Int32) = 0 by decide), kn_0 h hi, zx_2 (by omega), cl_ (by omega), (C7 h i hi).2 q (by omega), em, if_neg c9, f_X0_setMark_24, if_neg e9, kn_0 h hi, zx_2 (by omega), zx_2 (by omega), zlet, cl_ (by omega), (C7 h i hi).2 q (by omega), em, em2, zb2_s, zz_1]), fun x hx => (by cases hx), fun rr u h9 => ?_⟩
                have hu : rr = 0 ∧ u = (K, L, (zul (zui c 140 (A 1 i) q (nI m2)) 170 ou 0 (if (1 : Int32) = 0 then 0 else 1))) := by
                  rcases h9 with ⟨x9, c9, e9, h9⟩ | ⟨e9, _⟩ | ⟨e9, _⟩ | ⟨e9, _⟩
                  · cases e9; exact h9
                  · cases e9
                  · cases e9
                  · cases e9
                obtain ⟨rfl, rfl⟩ := hu
                exact ⟨1, _, (by rw [f_X7_mark, zlet, m_isRow hM1 hV1 hi, zb_s, e1, if_neg hr, if_neg (show ¬ (1 : Int32) = 0 by decide), if_neg (nI_pos (by omega)), zq_1 hM1, zx_4 hi, cl_ (by omega), er, e1, if_pos (nI_lt hq (by omega)), f_X7_mark_33, m_thr0, zb2_s, if_pos rfl, if_neg c1, if_pos c2, f_X7_mark_55, m_thr0, zb2_s, if_pos rfl, hT1, c4, if_pos rfl, f_X7_mark_75, m_thr0, zb2_s, if_pos rfl, zlet, e2, zq_2 hM1, zx_8000 (by omega), cl_ (by omega), e3, em, if_pos c8, f_X7_mark_113, if_neg e9, zq_2 hM1, zx_8000 (by omega), zx_8000 (by omega), zlet, cl_ (by omega), e3, em, em2, mkF3 m2 hm2, f_X7_mark_136, if_neg e9]), (by rw [zi_zui, if_neg (fun x => absurd x.1 (by decide)), t01]), (fun _ => by rw [zl_zul, if_pos ⟨rfl, rfl, rfl⟩]), IN_mk q1 q2 q3 (RC_zl (RC_mark h hi (by omega) _)) (WV_mark hW1 hm2) (by exact hM) (by rw [vw_2, hV1])⟩
            · have c9 := F1.2 c8
              by_cases e9 : (0 : Int32) = on
              · refine ⟨.inl (0, c), (by rw [f_X6_mark, k_rwIn h hi, zt_l, zn_s K0, k_has h hB hi (by omega), zb_s, oi_p hq, if_neg (show ¬ (1 : Int32) = 0 by decide), if_neg c1, if_pos c2, k_tm h, c4, if_neg (by decide), if_pos (by decide), zt_l, f_X0_setMark, k_has h hB hi (by omega), zb_s, oi_p hq, if_neg (show ¬ (1 : Int32) = 0 by decide), kn_0 h hi, zx_2 (by omega), cl_ (by omega), (C7 h i hi).2 q (by omega), em, if_pos c9, f_X0_setMark_24, if_pos e9, zb2_s, zz_0]), fun x hx => (by cases hx), fun rr u h9 => ?_⟩
                have hu : rr = 0 ∧ u = (K, L, (zul c 170 ou 0 (if (0 : Int32) = 0 then 0 else 1))) := by
                  rcases h9 with ⟨x9, c9, e9, h9⟩ | ⟨e9, _⟩ | ⟨e9, _⟩ | ⟨e9, _⟩
                  · cases e9; exact h9
                  · cases e9
                  · cases e9
                  · cases e9
                obtain ⟨rfl, rfl⟩ := hu
                exact ⟨0, _, (by rw [f_X7_mark, zlet, m_isRow hM1 hV1 hi, zb_s, e1, if_neg hr, if_neg (show ¬ (1 : Int32) = 0 by decide), if_neg (nI_pos (by omega)), zq_1 hM1, zx_4 hi, cl_ (by omega), er, e1, if_pos (nI_lt hq (by omega)), f_X7_mark_33, m_thr0, zb2_s, if_pos rfl, if_neg c1, if_pos c2, f_X7_mark_55, m_thr0, zb2_s, if_pos rfl, hT1, c4, if_pos rfl, f_X7_mark_75, m_thr0, zb2_s, if_pos rfl, zlet, e2, zq_2 hM1, zx_8000 (by omega), cl_ (by omega), e3, em, if_neg c8, f_X7_mark_113, if_pos e9, f_X7_mark_136, if_pos e9]), t01, (fun _ => by rw [zl_zul, if_pos ⟨rfl, rfl, rfl⟩]), IN_mk q1 q2 q3 (RC_zl h) hW1 hM1 hV1⟩
              · refine ⟨.inl (1, zui c 140 (A 1 i) q (nI m2)), (by rw [f_X6_mark, k_rwIn h hi, zt_l, zn_s K0, k_has h hB hi (by omega), zb_s, oi_p hq, if_neg (show ¬ (1 : Int32) = 0 by decide), if_neg c1, if_pos c2, k_tm h, c4, if_neg (by decide), if_pos (by decide), zt_l, f_X0_setMark, k_has h hB hi (by omega), zb_s, oi_p hq, if_neg (show ¬ (1 : Int32) = 0 by decide), kn_0 h hi, zx_2 (by omega), cl_ (by omega), (C7 h i hi).2 q (by omega), em, if_pos c9, f_X0_setMark_24, if_neg e9, kn_0 h hi, zx_2 (by omega), zx_2 (by omega), zlet, cl_ (by omega), (C7 h i hi).2 q (by omega), em, em2, zb2_s, zz_1]), fun x hx => (by cases hx), fun rr u h9 => ?_⟩
                have hu : rr = 0 ∧ u = (K, L, (zul (zui c 140 (A 1 i) q (nI m2)) 170 ou 0 (if (1 : Int32) = 0 then 0 else 1))) := by
                  rcases h9 with ⟨x9, c9, e9, h9⟩ | ⟨e9, _⟩ | ⟨e9, _⟩ | ⟨e9, _⟩
                  · cases e9; exact h9
                  · cases e9
                  · cases e9
                  · cases e9
                obtain ⟨rfl, rfl⟩ := hu
                exact ⟨1, _, (by rw [f_X7_mark, zlet, m_isRow hM1 hV1 hi, zb_s, e1, if_neg hr, if_neg (show ¬ (1 : Int32) = 0 by decide), if_neg (nI_pos (by omega)), zq_1 hM1, zx_4 hi, cl_ (by omega), er, e1, if_pos (nI_lt hq (by omega)), f_X7_mark_33, m_thr0, zb2_s, if_pos rfl, if_neg c1, if_pos c2, f_X7_mark_55, m_thr0, zb2_s, if_pos rfl, hT1, c4, if_pos rfl, f_X7_mark_75, m_thr0, zb2_s, if_pos rfl, zlet, e2, zq_2 hM1, zx_8000 (by omega), cl_ (by omega), e3, em, if_neg c8, f_X7_mark_113, if_neg e9, zq_2 hM1, zx_8000 (by omega), zx_8000 (by omega), zlet, cl_ (by omega), e3, em, em2, mkF3 m2 hm2, f_X7_mark_136, if_neg e9]), (by rw [zi_zui, if_neg (fun x => absurd x.1 (by decide)), t01]), (fun _ => by rw [zl_zul, if_pos ⟨rfl, rfl, rfl⟩]), IN_mk q1 q2 q3 (RC_zl (RC_mark h hi (by omega) _)) (WV_mark hW1 hm2) (by exact hM) (by rw [vw_2, hV1])⟩
          · have c5 : ¬ V.1 37 0 = 0 := by rcases c4 with c4 | c4 | c4 <;> rw [c4] <;> decide
            have c6 : ¬ V.1 37 0 < 0 := by rcases c4 with c4 | c4 | c4 <;> rw [c4] <;> decide
            have c7 : ¬ V.1 37 0 ≤ 0 := by rcases c4 with c4 | c4 | c4 <;> rw [c4] <;> decide
            refine ⟨.inr 3, (by rw [f_X6_mark, k_rwIn h hi, zt_l, zn_s K0, k_has h hB hi (by omega), zb_s, oi_p hq, if_neg (show ¬ (1 : Int32) = 0 by decide), if_neg c1, if_pos c2, k_tm h, if_neg c6, if_neg c7, zt_r]), fun x hx => by have e9 := Sum.inr.inj hx; omega, fun rr u h9 => ?_⟩
            have hu : rr = 3 ∧ u = (K, L, c) := by
              rcases h9 with ⟨_, _, e9, _⟩ | ⟨e9, h9⟩ | ⟨e9, h9⟩ | ⟨e9, h9⟩
              · cases e9
              · exact absurd (Sum.inr.inj e9) (by decide)
              · exact absurd (Sum.inr.inj e9) (by decide)
              · exact h9
            obtain ⟨rfl, rfl⟩ := hu
            exact ⟨0, _, (by rw [f_X7_mark, zlet, m_isRow hM1 hV1 hi, zb_s, e1, if_neg hr, if_neg (show ¬ (1 : Int32) = 0 by decide), if_neg (nI_pos (by omega)), zq_1 hM1, zx_4 hi, cl_ (by omega), er, e1, if_pos (nI_lt hq (by omega)), f_X7_mark_33, m_thr0, zb2_s, if_pos rfl, if_neg c1, if_pos c2, f_X7_mark_55, m_thr0, zb2_s, if_pos rfl, hT1, if_neg c5, f_X7_mark_75, m_thr1, zb2_s, if_neg (by decide)]), zi_thr, fun x => absurd x (by decide), THR 3⟩
        · refine ⟨.inr 2, (by rw [f_X6_mark, k_rwIn h hi, zt_l, zn_s K0, k_has h hB hi (by omega), zb_s, oi_p hq, if_neg (show ¬ (1 : Int32) = 0 by decide), if_neg c1, if_neg c2]), fun x hx => by have e9 := Sum.inr.inj hx; omega, fun rr u h9 => ?_⟩
          have hu : rr = 2 ∧ u = (K, L, c) := by
            rcases h9 with ⟨_, _, e9, _⟩ | ⟨e9, h9⟩ | ⟨e9, h9⟩ | ⟨e9, h9⟩
            · cases e9
            · exact absurd (Sum.inr.inj e9) (by decide)
            · exact h9
            · exact absurd (Sum.inr.inj e9) (by decide)
          obtain ⟨rfl, rfl⟩ := hu
          exact ⟨0, _, (by rw [f_X7_mark, zlet, m_isRow hM1 hV1 hi, zb_s, e1, if_neg hr, if_neg (show ¬ (1 : Int32) = 0 by decide), if_neg (nI_pos (by omega)), zq_1 hM1, zx_4 hi, cl_ (by omega), er, e1, if_pos (nI_lt hq (by omega)), f_X7_mark_33, m_thr0, zb2_s, if_pos rfl, if_neg c1, if_neg c2, f_X7_mark_50, f_X7_mark_55, m_thr1, zb2_s, if_neg (by decide)]), zi_thr, fun x => absurd x (by decide), THR 2⟩
    · have OUT : f_X7_mark K z r mo (nI i) p2 p3 on = some (0, zui (zui r 0 mo 0 0) 0 mo 0 1) := by
        rw [f_X7_mark, zlet, m_isRow hM1 hV1 hi, zb_s]
        by_cases hr : V.1 1 i ≤ 0
        · rw [if_pos hr, if_pos rfl, f_X7_mark_28, f_X7_mark_33, m_thr1, zb2_s, if_neg (by decide)]
        · rw [if_neg hr, if_neg (show ¬ (1 : Int32) = 0 by decide), if_pos hp2, f_X7_mark_28, f_X7_mark_33, m_thr1, zb2_s, if_neg (by decide)]
      refine ⟨.inr 1, (by rw [f_X6_mark, k_rwIn h hi, zt_l, zn_s K0, k_hasN hp2, zb_s, if_pos rfl]), fun x hx => by have e9 := Sum.inr.inj hx; omega, fun rr u h9 => ?_⟩
      have hu : rr = 1 ∧ u = (K, L, c) := by
        rcases h9 with ⟨_, _, e9, _⟩ | ⟨e9, h9⟩ | ⟨e9, h9⟩ | ⟨e9, h9⟩
        · cases e9
        · exact h9
        · exact absurd (Sum.inr.inj e9) (by decide)
        · exact absurd (Sum.inr.inj e9) (by decide)
      obtain ⟨rfl, rfl⟩ := hu
      exact ⟨0, _, OUT, zi_thr, fun x => absurd x (by decide), THR 1⟩
    · have OUT : f_X7_mark K z r mo (nI i) p2 p3 on = some (0, zui (zui r 0 mo 0 0) 0 mo 0 1) := by
        rw [f_X7_mark, zlet, m_isRow hM1 hV1 hi, zb_s]
        by_cases hr : V.1 1 i ≤ 0
        · rw [if_pos hr, if_pos rfl, f_X7_mark_28, f_X7_mark_33, m_thr1, zb2_s, if_neg (by decide)]
        · rw [if_neg hr, if_neg (show ¬ (1 : Int32) = 0 by decide), if_neg hp2.1, zq_1 hM1, zx_4 hi, cl_ (by omega), er, if_neg hp2.2.1, f_X7_mark_28, f_X7_mark_33, m_thr1, zb2_s, if_neg (by decide)]
      refine ⟨.inr 1, (by rw [f_X6_mark, k_rwIn h hi, zt_l, zn_s K0, k_hasO h hi hp2, zb_s, if_pos rfl]), fun x hx => by have e9 := Sum.inr.inj hx; omega, fun rr u h9 => ?_⟩
      have hu : rr = 1 ∧ u = (K, L, c) := by
        rcases h9 with ⟨_, _, e9, _⟩ | ⟨e9, h9⟩ | ⟨e9, h9⟩ | ⟨e9, h9⟩
        · cases e9
        · exact h9
        · exact absurd (Sum.inr.inj e9) (by decide)
        · exact absurd (Sum.inr.inj e9) (by decide)
      obtain ⟨rfl, rfl⟩ := hu
      exact ⟨0, _, OUT, zi_thr, fun x => absurd x (by decide), THR 1⟩
  · refine ⟨.inr 1, (by rw [f_X6_mark, k_rwOut hp1, zt_r]), fun x hx => by have e9 := Sum.inr.inj hx; omega, fun rr u h9 => ?_⟩
    have hu : rr = 1 ∧ u = (K, L, c) := by
      rcases h9 with ⟨_, _, e9, _⟩ | ⟨e9, h9⟩ | ⟨e9, h9⟩ | ⟨e9, h9⟩
      · cases e9
      · exact h9
      · exact absurd (Sum.inr.inj e9) (by decide)
      · exact absurd (Sum.inr.inj e9) (by decide)
    obtain ⟨rfl, rfl⟩ := hu
    exact ⟨0, _, (by rw [f_X7_mark, zlet, m_isRowO hp1, zb_s, if_pos rfl, f_X7_mark_28, f_X7_mark_33, m_thr1, zb2_s, if_neg (by decide)]), zi_thr, fun x => absurd x (by decide), THR 1⟩

end SX

section PA
variable {K : Nat → Nat} {A : Nat → Nat → Nat} {ra : Nat → Nat} {c r : zS} {V : zV} {ms mo z : Nat}
theorem bt1 : ∀ j, j < 32 → bt 1 j = decide (j = 0) := by decide +kernel
theorem b_one (y : Int32) : (y &&& 1 = 1) ↔ bt y 0 = true := by
  have e : bt (y &&& 1) 0 = bt y 0 := by rw [b_and, bt1 0 (by decide)]; simp
  constructor
  · intro h; rw [h, bt1 0 (by decide)] at e; rw [← e]; rfl
  · intro h
    rcases bit01 y with h1 | h1
    · rw [h1, b_0, h] at e; exact absurd e (by decide)
    · exact h1
theorem b_tst (x : Int32) {k : Nat} (hk : k < 31) : ((x >>> (nI k &&& 31)) &&& 1 = 1) ↔ bt x k = true := by
  rw [b_one, b_sshr k (by omega) x (show 0 < 32 by decide), if_pos (by omega), Nat.add_zero]
def sbit (x : Int32) (b : Nat) (on : Int32) : Int32 := if on = 0 then x &&& (((1 : Int32) <<< (nI b &&& 31)) ^^^ (-1)) else x ||| ((1 : Int32) <<< (nI b &&& 31))
theorem b_bit {b k : Nat} (hb : b < 20) (hk : k < 20) : bt ((1 : Int32) <<< (nI b &&& 31)) k = decide (k = b) := by
  rw [b_shl b (by omega) 1 (show k < 32 by omega), bt1 (k - b) (by omega)]
  by_cases h1 : b ≤ k
  · by_cases h2 : k = b
    · subst h2; simp
    · rw [decide_eq_false h2, decide_eq_false (show ¬ k - b = 0 by omega), Bool.and_false]
  · rw [decide_eq_false h1, decide_eq_false (show ¬ k = b by omega), Bool.false_and]
theorem sbit_k (x : Int32) {b k : Nat} (hb : b < 20) (hk : k < 20) (on : Int32) : ((sbit x b on >>> (nI k &&& 31)) &&& 1 = 1) ↔ (if k = b then ¬ on = 0 else (x >>> (nI k &&& 31)) &&& 1 = 1) := by
  rw [b_tst _ (by omega), b_tst _ (by omega)]
  unfold sbit
  by_cases h0 : on = 0
  · rw [if_pos h0, b_and, b_xor, b_bit hb hk, b_m1 k (by omega)]
    by_cases h1 : k = b
    · rw [if_pos h1, decide_eq_true h1]; simp [h0]
    · rw [if_neg h1, decide_eq_false h1]; simp
  · rw [if_neg h0, b_or, b_bit hb hk]
    by_cases h1 : k = b
    · rw [if_pos h1, decide_eq_true h1]; simp [h0]
    · rw [if_neg h1, decide_eq_false h1]; simp
theorem k_setP (h : RC K A c V ms) {a b : Nat} (hb : b < rN V) (on : Int32) : f_X3_setPaired K z c (A 3 a) (A 3 b) on = some (zui c 64 (A 3 a) 0 (sbit (zi c 64 (A 3 a) 0) b on)) := by
  unfold f_X3_setPaired sbit
  rw [zlet, (C8 h b hb).1]
  by_cases h0 : on = 0
  · rw [if_pos h0, if_pos h0, zlet]
  · rw [if_neg h0, if_neg h0, zlet]
theorem RC_pair (h : RC K A c V ms) (hr : rN V ≤ 20) {a b : Nat} (ha : a < rN V) (hb : b < rN V) (on : Int32) : RC K A (zui c 64 (A 3 a) 0 (sbit (zi c 64 (A 3 a) 0) b on)) (uV V 6 (20 * a + b) on) ms := by
  generalize hv : sbit (zi c 64 (A 3 a) 0) b on = v
  have Ez : ∀ g, (g ≠ 64) → zi (zui c 64 (A 3 a) 0 v) g = zi c g := fun g hg => zi_o hg
  have El : ∀ g, g ≠ 1000 → zl (zui c 64 (A 3 a) 0 v) g = zl c g := fun _ _ => rfl
  have Er : ∀ g, g ≠ 1000 → zr (zui c 64 (A 3 a) 0 v) g = zr c g := fun _ _ => rfl
  have E : ∀ g, (g ≠ 6) → (uV V 6 (20 * a + b) on).1 g = V.1 g := fun g hg => uV_o hg
  have E2 : ∀ g, g ≠ 200 → (uV V 6 (20 * a + b) on).2 g = V.2 g := fun _ _ => rfl
  refine ⟨h.1, R1_c (E 7 (by decide)) (E 35 (by decide)) (C1 h), R2_c (Er 0 (by decide)) (Er 1 (by decide)) (Er 120 (by decide)) (Er 121 (by decide)) (Er 122 (by decide)) (Er 123 (by decide)) (Er 124 (by decide)) (Er 143 (by decide)) (C2 h), R3_c (Er 144 (by decide)) (Er 145 (by decide)) (E 7 (by decide)) (E 35 (by decide)) (C3 h), R4_c (Er 40 (by decide)) (Er 81 (by decide)) (Er 83 (by decide)) (Er 84 (by decide)) (Er 85 (by decide)) (Er 100 (by decide)) (Er 101 (by decide)) (E 9 (by decide)) (E 35 (by decide)) (C4 h), R5_c (Ez 20 (by decide)) (Ez 21 (by decide)) (Ez 22 (by decide)) (Ez 41 (by decide)) (Ez 42 (by decide)) (Ez 44 (by decide)) (Ez 45 (by decide)) (Ez 46 (by decide)) (Ez 82 (by decide)) (Ez 86 (by decide)) (Ez 87 (by decide)) (Ez 88 (by decide)) (Ez 89 (by decide)) (Ez 90 (by decide)) (Ez 91 (by decide)) (Ez 92 (by decide)) (Ez 102 (by decide)) (Ez 103 (by decide)) (E 8 (by decide)) (E 10 (by decide)) (E 11 (by decide)) (E 12 (by decide)) (E 13 (by decide)) (E 14 (by decide)) (E 15 (by decide)) (E 18 (by decide)) (E 19 (by decide)) (E 20 (by decide)) (E 21 (by decide)) (E 23 (by decide)) (E 24 (by decide)) (E 25 (by decide)) (E 27 (by decide)) (E 28 (by decide)) (E 29 (by decide)) (E 30 (by decide)) (E 31 (by decide)) (E 32 (by decide)) (E 33 (by decide)) (E 35 (by decide)) (C5 h), R6_c (Ez 141 (by decide)) (Ez 142 (by decide)) (E 16 (by decide)) (E 17 (by decide)) (E 35 (by decide)) (C6 h), R7_c (Ez 2 (by decide)) (Ez 140 (by decide)) (E 1 (by decide)) (E 2 (by decide)) (C7 h), ?_, R9_c (Ez 43 (by decide)) (Ez 80 (by decide)) (El 93 (by decide)) (E 21 (by decide)) (E 22 (by decide)) (E 35 (by decide)) (E2 34 (by decide)) (C9 h), R10_c (Ez 125 (by decide)) (Ez 126 (by decide)) (Ez 127 (by decide)) (Ez 128 (by decide)) (Ez 129 (by decide)) (Ez 130 (by decide)) (Ez 131 (by decide)) (El 134 (by decide)) (El 135 (by decide)) (El 136 (by decide)) (El 137 (by decide)) (E 7 (by decide)) (E 35 (by decide)) (E 36 (by decide)) (E 37 (by decide)) (E 38 (by decide)) (E 39 (by decide)) (E 40 (by decide)) (E 41 (by decide)) (E 42 (by decide)) (E2 43 (by decide)) (E2 44 (by decide)) (C10 h), R11_c (Ez 65 (by decide)) (E 7 (by decide)) (E 9 (by decide)) (E 27 (by decide)) (E 35 (by decide)) (C11 h), R12_c (Ez 132 (by decide)) (Ez 133 (by decide)) (E 8 (by decide)) (E 27 (by decide)) (E 35 (by decide)) (C12 h), R13_c (Er 148 (by decide)) (E 10 (by decide)) (E 27 (by decide)) (E 28 (by decide)) (E 29 (by decide)) (E 35 (by decide)) (C13 h), R14_c (Er 146 (by decide)) (E 11 (by decide)) (E 35 (by decide)) (C14 h), R15_c (Ez 47 (by decide)) (E 35 (by decide)) (E 60 (by decide)) (C15 h)⟩
  intro j hj
  have hj2 : j < rN V := hj
  obtain ⟨x1, x2, x3, x4, x5⟩ := C8 h j hj2
  refine ⟨by rw [Ez 60 (by decide)]; exact x1, by rw [Ez 61 (by decide), E 3 (by decide)]; exact x2, by rw [Ez 62 (by decide), E 4 (by decide)]; exact x3, by rw [Ez 63 (by decide), E 5 (by decide)]; exact x4, fun k hk => ?_⟩
  rw [zi_zui, uV_1]
  by_cases e : j = a
  · subst e
    rw [if_pos ⟨rfl, rfl, rfl⟩, ← hv, sbit_k _ (by omega) hk]
    by_cases e2 : k = b
    · rw [if_pos e2, if_pos ⟨rfl, by rw [e2]⟩]
    · rw [if_neg e2, if_neg (fun x => by omega)]; exact x5 k hk
  · rw [if_neg (fun x => e (h.1 _ _ _ _ x.2.1).2), if_neg (fun x => by omega)]; exact x5 k hk
theorem WV_pair {n : Nat} (hW : WV n V) {a b : Nat} (ha : a < rN V) (hb : b < rN V) {on : Int32} (hon : on = 0 ∨ on = 1) : WV n (uV (uV V 6 (20 * a + b) on) 6 (20 * b + a) on) := by
  have hr := WB_4 hW.1
  have E : ∀ g, (g ≠ 6) → (uV (uV V 6 (20 * a + b) on) 6 (20 * b + a) on).1 g = V.1 g := fun g hg => by rw [uV_o hg, uV_o hg]
  have E2 : ∀ g, g ≠ 200 → (uV (uV V 6 (20 * a + b) on) 6 (20 * b + a) on).2 g = V.2 g := fun _ _ => rfl
  obtain ⟨⟨w1, w2, w3, w4, w5, w6, w7, w8, w9, w10, w11, w12, w13, w18, w20, w22, w23, w24⟩, w14, w15, w16, w17, w19, w21⟩ := hW
  have v6 : ∀ q, (uV (uV V 6 (20 * a + b) on) 6 (20 * b + a) on).1 6 q = if q = 20 * b + a then on else if q = 20 * a + b then on else V.1 6 q := by
    intro q
    rw [uV_1, uV_1]
    by_cases e1 : q = 20 * b + a
    · rw [if_pos ⟨rfl, e1⟩, if_pos e1]
    · rw [if_neg (fun x => e1 x.2), if_neg e1]
      by_cases e2 : q = 20 * a + b
      · rw [if_pos ⟨rfl, e2⟩, if_pos e2]
      · rw [if_neg (fun x => e2 x.2), if_neg e2]
  refine ⟨⟨W1_c (E 35 (by decide)) w1, W2_c (E 35 (by decide)) w2, W3_c (E 7 (by decide)) w3, W4_c (E 7 (by decide)) w4, W5_c (E 7 (by decide)) (E 9 (by decide)) (E 35 (by decide)) w5, W6_c (E 10 (by decide)) (E 35 (by decide)) w6, W7_c (E 1 (by decide)) w7, W8_c (E 2 (by decide)) w8, ?_, W10_c (E 5 (by decide)) w10, W11_c (E 1 (by decide)) (E 10 (by decide)) (E 27 (by decide)) (E 28 (by decide)) (E 29 (by decide)) (E 35 (by decide)) w11, W12_c (E 10 (by decide)) (E 27 (by decide)) (E 28 (by decide)) (E 29 (by decide)) (E 35 (by decide)) w12, W13_c (E 21 (by decide)) (E 23 (by decide)) (E 35 (by decide)) w13, W18_c (E 31 (by decide)) (E 32 (by decide)) (E 35 (by decide)) w18, W20_c (E 11 (by decide)) (E 35 (by decide)) w20, W22_c (E 18 (by decide)) (E 35 (by decide)) w22, W23_c (E 12 (by decide)) (E 13 (by decide)) (E 14 (by decide)) (E 16 (by decide)) (E 17 (by decide)) (E 18 (by decide)) (E 19 (by decide)) (E 20 (by decide)) (E 21 (by decide)) (E 22 (by decide)) (E 23 (by decide)) (E 24 (by decide)) (E 25 (by decide)) (E 26 (by decide)) (E 27 (by decide)) (E 28 (by decide)) (E 29 (by decide)) (E 30 (by decide)) (E 31 (by decide)) (E 32 (by decide)) (E 35 (by decide)) (E2 34 (by decide)) w23, ?_⟩, W14_c (E 37 (by decide)) w14, W15_c (E 21 (by decide)) (E 22 (by decide)) (E 23 (by decide)) (E 24 (by decide)) (E 25 (by decide)) (E 26 (by decide)) (E 27 (by decide)) (E 37 (by decide)) w15, W16_c (E 25 (by decide)) (E 26 (by decide)) (E 27 (by decide)) (E 37 (by decide)) w16, W17_c (E 25 (by decide)) (E 26 (by decide)) (E 27 (by decide)) (E 35 (by decide)) w17, W19_c (E 11 (by decide)) (E 35 (by decide)) (E 36 (by decide)) w19, W21_c (E 41 (by decide)) (E 42 (by decide)) w21⟩
  · intro q hq
    rw [v6]
    split
    · exact hon
    · split
      · exact hon
      · exact w9 q hq
  · intro j k hj hk
    have w := w24 j k hj hk
    have eR : rN (uV (uV V 6 (20 * a + b) on) 6 (20 * b + a) on) = rN V := rfl
    rw [eR, v6, v6]
    by_cases e1 : 20 * j + k = 20 * b + a
    · have f1 : j = b := by omega
      have f2 : k = a := by omega
      rw [if_pos e1]
      refine ⟨?_, fun x => by omega⟩
      by_cases e2 : 20 * k + j = 20 * b + a
      · rw [if_pos e2]
      · rw [if_neg e2, if_pos (by omega)]
    · by_cases e2 : 20 * j + k = 20 * a + b
      · have f1 : j = a := by omega
        have f2 : k = b := by omega
        rw [if_neg e1, if_pos e2, if_pos (show 20 * k + j = 20 * b + a by omega)]
        exact ⟨rfl, fun x => by omega⟩
      · rw [if_neg e1, if_neg e2, if_neg (show ¬ 20 * k + j = 20 * b + a by omega), if_neg (show ¬ 20 * k + j = 20 * a + b by omega)]
        exact w
end PA

section SX
variable {ra : Nat → Nat} {ms mo ou z : Nat}
theorem s_3 (hz : 8100 ≤ z) : S_3 (IN ms mo ou ra) z ms mo ou := by
  intro n K L c r p1 p2 p3 hn hI
  obtain ⟨q1, q2, q3, A, h, hW, hM⟩ := hI
  generalize hV : vr ra mo r = V at h hW
  have hB := hW.1
  have hM1 : MS K ra mo (zui r 0 mo 0 0) := hM
  have hV1 : vr ra mo (zui r 0 mo 0 0) = V := by rw [vw_0, hV]
  have hT1 : zi (zui r 0 mo 0 0) 37 mo 0 = V.1 37 0 := by rw [← hV1]; rfl
  have t01 : zi (zui r 0 mo 0 0) 0 mo 0 = 0 := zi_thr
  have hW1 : WV (400 * (n + 1)) V := WV_mono (by omega) hW
  have THR : ∀ e : Int32, IN ms mo ou ra (n + 1) K L c (zui (zui r 0 mo 0 0) 0 mo 0 e) := fun e => IN_mk q1 q2 q3 h hW1 hM (by rw [vw_0, hV1])
  have hon := hc_zz p3
  generalize (if p3 = 0 then (0 : Int32) else 1) = on at hon ⊢
  have hR := WB_4 hB
  rcases td_in hB p1 with ⟨a, ha, rfl⟩ | hp1
  · have Ka : K (A 3 a) = 3 := (C1 h).2.1 a ha
    rcases td_in hB p2 with ⟨b, hb, rfl⟩ | hp2
    · have Kb : K (A 3 b) = 3 := (C1 h).2.1 b hb
      rcases tm4 hW with c4 | c4
      · have e2 : 20 * nI a + nI b = nI (20 * a + b) := by rw [n20, pk_mul, nI_add]
        have e3 : 20 * nI b + nI a = nI (20 * b + a) := by rw [n20, pk_mul, nI_add]
        have e6 : zi (zui r 0 mo 0 0) 106 (ra 6) (20 * a + b) = V.1 6 (20 * a + b) := by rw [← hV1]; rfl
        have x5 := (C8 h a ha).2.2.2.2 b (by omega)
        have w9 := WB_9 hB (show 20 * a + b < 400 by omega)
        have IPW : f_X3_isPairedWith K z c (A 3 a) (A 3 b) = some (V.1 6 (20 * a + b)) := by
          unfold f_X3_isPairedWith
          rw [(C8 h b hb).1]
          rcases w9 with y | y
          · rw [if_neg (fun w => (x5.mp w) y), y]
          · rw [if_pos (x5.mpr (by rw [y]; decide)), y]
        by_cases e9 : V.1 6 (20 * a + b) = on
        · have eV : uV (uV V 6 (20 * a + b) on) 6 (20 * b + a) on = V := by
            have s := (WB_24 hB (show a < 20 by omega) (show b < 20 by omega)).1
            rw [← e9, uV_self, s, uV_self]
          refine ⟨.inl (0, c), (by rw [f_X6_pair, k_tdIn h hB ha, zt_l, zn_s Ka, k_tdIn h hB hb, zt_l, zn_s Kb, k_tm h, c4, if_neg (by decide), if_pos (by decide), zt_l, IPW, zb_s, if_pos e9]), fun x hx => (by cases hx), fun rr u h9 => ?_⟩
          have hu : rr = 0 ∧ u = (K, L, (zul c 170 ou 0 (if (0 : Int32) = 0 then 0 else 1))) := by
            rcases h9 with ⟨x9, c9, e9, h9⟩ | ⟨e9, _⟩ | ⟨e9, _⟩
            · cases e9; exact h9
            · cases e9
            · cases e9
          obtain ⟨rfl, rfl⟩ := hu
          exact ⟨0, _, (by rw [f_X7_pair, zlet, m_noTd hV1 hB ha, zb_s, if_pos rfl, m_noTd hV1 hB hb, zb_s, if_pos rfl, f_X7_pair_27, m_thr0, zb2_s, if_pos rfl, hT1, c4, if_pos rfl, f_X7_pair_47, m_thr0, zb2_s, if_pos rfl, zq_6 hM1, e2, zx_400 (by omega), zlet, cl_ (by omega), e6, zx_400 (by omega), zz_p hon, zlet, zr_zui, zq_6 hM1, e3, zx_400 (by omega), zz_p hon, zlet, cl_ (by omega), if_pos e9]), (by rw [zi_zui, if_neg (fun x => absurd x.1 (by decide)), zi_zui, if_neg (fun x => absurd x.1 (by decide)), t01]), (fun _ => by rw [zl_zul, if_pos ⟨rfl, rfl, rfl⟩]), IN_mk q1 q2 q3 (RC_zl h) hW1 (by exact hM) (by rw [vw_6, vw_6, hV1, eV])⟩
        · have h1 := RC_pair h hR ha hb on
          have h2 := RC_pair h1 hR (a := b) (b := a) hb ha on
          refine ⟨.inl (1, zui (zui c 64 (A 3 a) 0 (sbit (zi c 64 (A 3 a) 0) b on)) 64 (A 3 b) 0 (sbit (zi (zui c 64 (A 3 a) 0 (sbit (zi c 64 (A 3 a) 0) b on)) 64 (A 3 b) 0) a on)), (by rw [f_X6_pair, k_tdIn h hB ha, zt_l, zn_s Ka, k_tdIn h hB hb, zt_l, zn_s Kb, k_tm h, c4, if_neg (by decide), if_pos (by decide), zt_l, IPW, zb_s, if_neg e9, k_setP h hb, zb_s, k_setP h1 (b := a) ha, zb_s]), fun x hx => (by cases hx), fun rr u h9 => ?_⟩
          have hu : rr = 0 ∧ u = (K, L, (zul (zui (zui c 64 (A 3 a) 0 (sbit (zi c 64 (A 3 a) 0) b on)) 64 (A 3 b) 0 (sbit (zi (zui c 64 (A 3 a) 0 (sbit (zi c 64 (A 3 a) 0) b on)) 64 (A 3 b) 0) a on)) 170 ou 0 (if (1 : Int32) = 0 then 0 else 1))) := by
            rcases h9 with ⟨x9, c9, e9, h9⟩ | ⟨e9, _⟩ | ⟨e9, _⟩
            · cases e9; exact h9
            · cases e9
            · cases e9
          obtain ⟨rfl, rfl⟩ := hu
          exact ⟨1, _, (by rw [f_X7_pair, zlet, m_noTd hV1 hB ha, zb_s, if_pos rfl, m_noTd hV1 hB hb, zb_s, if_pos rfl, f_X7_pair_27, m_thr0, zb2_s, if_pos rfl, hT1, c4, if_pos rfl, f_X7_pair_47, m_thr0, zb2_s, if_pos rfl, zq_6 hM1, e2, zx_400 (by omega), zlet, cl_ (by omega), e6, zx_400 (by omega), zz_p hon, zlet, zr_zui, zq_6 hM1, e3, zx_400 (by omega), zz_p hon, zlet, cl_ (by omega), if_neg e9]), (by rw [zi_zui, if_neg (fun x => absurd x.1 (by decide)), zi_zui, if_neg (fun x => absurd x.1 (by decide)), t01]), (fun _ => by rw [zl_zul, if_pos ⟨rfl, rfl, rfl⟩]), IN_mk q1 q2 q3 (RC_zl h2) (WV_pair hW1 ha hb hon) (by exact hM) (by rw [vw_6, vw_6, hV1])⟩
      · have c5 : ¬ V.1 37 0 = 0 := by rcases c4 with c4 | c4 | c4 <;> rw [c4] <;> decide
        have c6 : ¬ V.1 37 0 < 0 := by rcases c4 with c4 | c4 | c4 <;> rw [c4] <;> decide
        have c7 : ¬ V.1 37 0 ≤ 0 := by rcases c4 with c4 | c4 | c4 <;> rw [c4] <;> decide
        refine ⟨.inr 3, (by rw [f_X6_pair, k_tdIn h hB ha, zt_l, zn_s Ka, k_tdIn h hB hb, zt_l, zn_s Kb, k_tm h, if_neg c6, if_neg c7, zt_r]), fun x hx => by have e9 := Sum.inr.inj hx; omega, fun rr u h9 => ?_⟩
        have hu : rr = 2 ∧ u = (K, L, c) := by
          rcases h9 with ⟨_, _, e9, _⟩ | ⟨e9, h9⟩ | ⟨e9, h9⟩
          · cases e9
          · exact absurd (Sum.inr.inj e9) (by decide)
          · exact h9
        obtain ⟨rfl, rfl⟩ := hu
        exact ⟨0, _, (by rw [f_X7_pair, zlet, m_noTd hV1 hB ha, zb_s, if_pos rfl, m_noTd hV1 hB hb, zb_s, if_pos rfl, f_X7_pair_27, m_thr0, zb2_s, if_pos rfl, hT1, if_neg c5, f_X7_pair_47, m_thr1, zb2_s, if_neg (by decide)]), zi_thr, fun x => absurd x (by decide), THR 2⟩
    · refine ⟨.inr 1, (by rw [f_X6_pair, k_tdIn h hB ha, zt_l, zn_s Ka, k_tdOut h hB hp2, zt_r]), fun x hx => by have e9 := Sum.inr.inj hx; omega, fun rr u h9 => ?_⟩
      have hu : rr = 1 ∧ u = (K, L, c) := by
        rcases h9 with ⟨_, _, e9, _⟩ | ⟨e9, h9⟩ | ⟨e9, h9⟩
        · cases e9
        · exact h9
        · exact absurd (Sum.inr.inj e9) (by decide)
      obtain ⟨rfl, rfl⟩ := hu
      exact ⟨0, _, (by rw [f_X7_pair, zlet, m_noTd hV1 hB ha, zb_s, if_pos rfl, m_noTdO hV1 hp2, zb_s, if_neg (by decide), f_X7_pair_22, f_X7_pair_27, m_thr1, zb2_s, if_neg (by decide)]), zi_thr, fun x => absurd x (by decide), THR 1⟩
  · refine ⟨.inr 1, (by rw [f_X6_pair, k_tdOut h hB hp1, zt_r]), fun x hx => by have e9 := Sum.inr.inj hx; omega, fun rr u h9 => ?_⟩
    have hu : rr = 1 ∧ u = (K, L, c) := by
      rcases h9 with ⟨_, _, e9, _⟩ | ⟨e9, h9⟩ | ⟨e9, h9⟩
      · cases e9
      · exact h9
      · exact absurd (Sum.inr.inj e9) (by decide)
    obtain ⟨rfl, rfl⟩ := hu
    exact ⟨0, _, (by rw [f_X7_pair, zlet, m_noTdO hV1 hp1, zb_s, if_neg (by decide), f_X7_pair_22, f_X7_pair_27, m_thr1, zb2_s, if_neg (by decide)]), zi_thr, fun x => absurd x (by decide), THR 1⟩

end SX

section WI
variable {K : Nat → Nat} {A : Nat → Nat → Nat} {ra : Nat → Nat} {c r : zS} {V : zV} {ms mo z : Nat}
theorem RC_wish (h : RC K A c V ms) {t w : Nat} (hw : w < 12) (x y : Int32) : RC K A (zui (zui c 141 (A 7 t) w x) 142 (A 8 t) w y) (uV (uV V 16 (12 * t + w) x) 17 (12 * t + w) y) ms := by
  have Ez : ∀ g, (g ≠ 141 ∧ g ≠ 142) → zi (zui (zui c 141 (A 7 t) w x) 142 (A 8 t) w y) g = zi c g := fun g hg => by rw [zi_o hg.2, zi_o hg.1]
  have El : ∀ g, g ≠ 1000 → zl (zui (zui c 141 (A 7 t) w x) 142 (A 8 t) w y) g = zl c g := fun _ _ => rfl
  have Er : ∀ g, g ≠ 1000 → zr (zui (zui c 141 (A 7 t) w x) 142 (A 8 t) w y) g = zr c g := fun _ _ => rfl
  have E : ∀ g, (g ≠ 16 ∧ g ≠ 17) → (uV (uV V 16 (12 * t + w) x) 17 (12 * t + w) y).1 g = V.1 g := fun g hg => by rw [uV_o hg.2, uV_o hg.1]
  have E2 : ∀ g, g ≠ 200 → (uV (uV V 16 (12 * t + w) x) 17 (12 * t + w) y).2 g = V.2 g := fun _ _ => rfl
  refine ⟨h.1, R1_c (E 7 (by decide)) (E 35 (by decide)) (C1 h), R2_c (Er 0 (by decide)) (Er 1 (by decide)) (Er 120 (by decide)) (Er 121 (by decide)) (Er 122 (by decide)) (Er 123 (by decide)) (Er 124 (by decide)) (Er 143 (by decide)) (C2 h), R3_c (Er 144 (by decide)) (Er 145 (by decide)) (E 7 (by decide)) (E 35 (by decide)) (C3 h), R4_c (Er 40 (by decide)) (Er 81 (by decide)) (Er 83 (by decide)) (Er 84 (by decide)) (Er 85 (by decide)) (Er 100 (by decide)) (Er 101 (by decide)) (E 9 (by decide)) (E 35 (by decide)) (C4 h), R5_c (Ez 20 (by decide)) (Ez 21 (by decide)) (Ez 22 (by decide)) (Ez 41 (by decide)) (Ez 42 (by decide)) (Ez 44 (by decide)) (Ez 45 (by decide)) (Ez 46 (by decide)) (Ez 82 (by decide)) (Ez 86 (by decide)) (Ez 87 (by decide)) (Ez 88 (by decide)) (Ez 89 (by decide)) (Ez 90 (by decide)) (Ez 91 (by decide)) (Ez 92 (by decide)) (Ez 102 (by decide)) (Ez 103 (by decide)) (E 8 (by decide)) (E 10 (by decide)) (E 11 (by decide)) (E 12 (by decide)) (E 13 (by decide)) (E 14 (by decide)) (E 15 (by decide)) (E 18 (by decide)) (E 19 (by decide)) (E 20 (by decide)) (E 21 (by decide)) (E 23 (by decide)) (E 24 (by decide)) (E 25 (by decide)) (E 27 (by decide)) (E 28 (by decide)) (E 29 (by decide)) (E 30 (by decide)) (E 31 (by decide)) (E 32 (by decide)) (E 33 (by decide)) (E 35 (by decide)) (C5 h), ?_, R7_c (Ez 2 (by decide)) (Ez 140 (by decide)) (E 1 (by decide)) (E 2 (by decide)) (C7 h), R8_c (Ez 60 (by decide)) (Ez 61 (by decide)) (Ez 62 (by decide)) (Ez 63 (by decide)) (Ez 64 (by decide)) (E 3 (by decide)) (E 4 (by decide)) (E 5 (by decide)) (E 6 (by decide)) (E 7 (by decide)) (C8 h), R9_c (Ez 43 (by decide)) (Ez 80 (by decide)) (El 93 (by decide)) (E 21 (by decide)) (E 22 (by decide)) (E 35 (by decide)) (E2 34 (by decide)) (C9 h), R10_c (Ez 125 (by decide)) (Ez 126 (by decide)) (Ez 127 (by decide)) (Ez 128 (by decide)) (Ez 129 (by decide)) (Ez 130 (by decide)) (Ez 131 (by decide)) (El 134 (by decide)) (El 135 (by decide)) (El 136 (by decide)) (El 137 (by decide)) (E 7 (by decide)) (E 35 (by decide)) (E 36 (by decide)) (E 37 (by decide)) (E 38 (by decide)) (E 39 (by decide)) (E 40 (by decide)) (E 41 (by decide)) (E 42 (by decide)) (E2 43 (by decide)) (E2 44 (by decide)) (C10 h), R11_c (Ez 65 (by decide)) (E 7 (by decide)) (E 9 (by decide)) (E 27 (by decide)) (E 35 (by decide)) (C11 h), R12_c (Ez 132 (by decide)) (Ez 133 (by decide)) (E 8 (by decide)) (E 27 (by decide)) (E 35 (by decide)) (C12 h), R13_c (Er 148 (by decide)) (E 10 (by decide)) (E 27 (by decide)) (E 28 (by decide)) (E 29 (by decide)) (E 35 (by decide)) (C13 h), R14_c (Er 146 (by decide)) (E 11 (by decide)) (E 35 (by decide)) (C14 h), R15_c (Ez 47 (by decide)) (E 35 (by decide)) (E 60 (by decide)) (C15 h)⟩
  intro j hj k hk
  have hj2 : j < tN V := hj
  obtain ⟨a, b⟩ := C6 h j hj2 k hk
  rw [zi_o (show 141 ≠ 142 by decide), zi_zui, uV_o (show 16 ≠ 17 by decide), uV_1, zi_zui, uV_1]
  by_cases e : j = t ∧ k = w
  · rw [if_pos ⟨rfl, by rw [e.1], e.2⟩, if_pos ⟨rfl, by rw [e.1, e.2]⟩, if_pos ⟨rfl, by rw [e.1], e.2⟩, if_pos ⟨rfl, by rw [e.1, e.2]⟩]
    exact ⟨rfl, rfl⟩
  · rw [if_neg (fun x => e ⟨(h.1 _ _ _ _ x.2.1).2, x.2.2⟩), if_neg (fun x => by omega), if_neg (fun x => e ⟨(h.1 _ _ _ _ x.2.1).2, x.2.2⟩), if_neg (fun x => by omega), zi_o (show 142 ≠ 141 by decide), uV_o (show 17 ≠ 16 by decide)]
    exact ⟨a, b⟩
theorem WV_wish {n : Nat} (hW : WV n V) {t w : Nat} (ht : t < tN V) (hw : w < 12) (x y : Int32) : WV n (uV (uV (uV V 16 (12 * t + w) x) 17 (12 * t + w) y) 18 t (nI (w + 1))) := by
  have E : ∀ g, (g ≠ 16 ∧ g ≠ 17 ∧ g ≠ 18) → (uV (uV (uV V 16 (12 * t + w) x) 17 (12 * t + w) y) 18 t (nI (w + 1))).1 g = V.1 g := fun g hg => by rw [uV_o hg.2.2, uV_o hg.2.1, uV_o hg.1]
  have E2 : ∀ g, g ≠ 200 → (uV (uV (uV V 16 (12 * t + w) x) 17 (12 * t + w) y) 18 t (nI (w + 1))).2 g = V.2 g := fun _ _ => rfl
  obtain ⟨⟨w1, w2, w3, w4, w5, w6, w7, w8, w9, w10, w11, w12, w13, w18, w20, w22, w23, w24⟩, w14, w15, w16, w17, w19, w21⟩ := hW
  refine ⟨⟨W1_c (E 35 (by decide)) w1, W2_c (E 35 (by decide)) w2, W3_c (E 7 (by decide)) w3, W4_c (E 7 (by decide)) w4, W5_c (E 7 (by decide)) (E 9 (by decide)) (E 35 (by decide)) w5, W6_c (E 10 (by decide)) (E 35 (by decide)) w6, W7_c (E 1 (by decide)) w7, W8_c (E 2 (by decide)) w8, W9_c (E 6 (by decide)) w9, W10_c (E 5 (by decide)) w10, W11_c (E 1 (by decide)) (E 10 (by decide)) (E 27 (by decide)) (E 28 (by decide)) (E 29 (by decide)) (E 35 (by decide)) w11, W12_c (E 10 (by decide)) (E 27 (by decide)) (E 28 (by decide)) (E 29 (by decide)) (E 35 (by decide)) w12, W13_c (E 21 (by decide)) (E 23 (by decide)) (E 35 (by decide)) w13, W18_c (E 31 (by decide)) (E 32 (by decide)) (E 35 (by decide)) w18, W20_c (E 11 (by decide)) (E 35 (by decide)) w20, ?_, ?_, W24_c (E 6 (by decide)) (E 7 (by decide)) w24⟩, W14_c (E 37 (by decide)) w14, W15_c (E 21 (by decide)) (E 22 (by decide)) (E 23 (by decide)) (E 24 (by decide)) (E 25 (by decide)) (E 26 (by decide)) (E 27 (by decide)) (E 37 (by decide)) w15, W16_c (E 25 (by decide)) (E 26 (by decide)) (E 27 (by decide)) (E 37 (by decide)) w16, W17_c (E 25 (by decide)) (E 26 (by decide)) (E 27 (by decide)) (E 35 (by decide)) w17, W19_c (E 11 (by decide)) (E 35 (by decide)) (E 36 (by decide)) w19, W21_c (E 41 (by decide)) (E 42 (by decide)) w21⟩
  · intro a ha
    by_cases e : a = t
    · subst e
      unfold wN
      rw [uV_s, nI_clamp (by omega)]
      exact ⟨rfl, by omega⟩
    · unfold wN
      rw [uV_t e, uV_o (by decide), uV_o (by decide)]; exact w22 a ha
  · intro a ha h2
    have ha2 : tN V ≤ a := ha
    have hne : a ≠ t := by omega
    have h := w23 a ha2 h2
    have e18 : (uV (uV (uV V 16 (12 * t + w) x) 17 (12 * t + w) y) 18 t (nI (w + 1))).1 18 a = V.1 18 a := by rw [uV_t hne, uV_o (by decide), uV_o (by decide)]
    have e16 : ∀ k, k < 12 → (uV (uV (uV V 16 (12 * t + w) x) 17 (12 * t + w) y) 18 t (nI (w + 1))).1 16 (12 * a + k) = V.1 16 (12 * a + k) := fun k hk => by rw [uV_o (by decide), uV_o (by decide), uV_t (by omega)]
    have e17 : ∀ k, k < 12 → (uV (uV (uV V 16 (12 * t + w) x) 17 (12 * t + w) y) 18 t (nI (w + 1))).1 17 (12 * a + k) = V.1 17 (12 * a + k) := fun k hk => by rw [uV_o (by decide), uV_t (by omega), uV_o (by decide)]
    rw [e18, E 12 (by decide), E 13 (by decide), E 14 (by decide), E 19 (by decide), E 20 (by decide), E 21 (by decide), E 22 (by decide), E 23 (by decide), E 24 (by decide), E 25 (by decide), E 26 (by decide), E 27 (by decide), E 28 (by decide), E 29 (by decide), E 30 (by decide), E 31 (by decide), E 32 (by decide)]
    obtain ⟨y1, y2, y3, y4, y5, y6, y7, y8, y9, y10, y11, y12, y13, y14, y15, y16, y17, y18, y19, yk⟩ := h
    exact ⟨y1, y2, y3, y4, y5, y6, y7, y8, y9, y10, y11, y12, y13, y14, y15, y16, y17, y18, y19, fun k hk => by rw [e16 k hk, e17 k hk]; exact yk k hk⟩
end WI

section SX
variable {ra : Nat → Nat} {ms mo ou z : Nat}
theorem s_7 (hz : 8100 ≤ z) : S_7 (IN ms mo ou ra) z ms mo ou := by
  intro n K L c r p1 p2 p3 hn hI
  obtain ⟨q1, q2, q3, A, h, hW, hM⟩ := hI
  generalize hV : vr ra mo r = V at h hW
  have hB := hW.1
  have hM1 : MS K ra mo (zui r 0 mo 0 0) := hM
  have hV1 : vr ra mo (zui r 0 mo 0 0) = V := by rw [vw_0, hV]
  have hT1 : zi (zui r 0 mo 0 0) 37 mo 0 = V.1 37 0 := by rw [← hV1]; rfl
  have t01 : zi (zui r 0 mo 0 0) 0 mo 0 = 0 := zi_thr
  have hW1 : WV (400 * (n + 1)) V := WV_mono (by omega) hW
  have THR : ∀ e : Int32, IN ms mo ou ra (n + 1) K L c (zui (zui r 0 mo 0 0) 0 mo 0 e) := fun e => IN_mk q1 q2 q3 h hW1 hM (by rw [vw_0, hV1])
  have hN := WB_2 hB
  rcases tr_in hB p1 with ⟨t, ht, rfl⟩ | hp1
  · have ht2 : t < 200 := by omega
    have ht8 : t < 8000 := by omega
    obtain ⟨w1, w2⟩ := WB_22 hB ht
    have e18 : zi (zui r 0 mo 0 0) 118 (ra 18) t = nI (wN V t) := by rw [← w1, ← hV1]; rfl
    by_cases c1 : wN V t = 12
    · refine ⟨.inl (-1, c), (by rw [f_X6_wish, k_trIn h hB ht, zt_l, zn_s (K4 h ht), kn_84 h ht, f_X5_add, rt_102_6 h ht, w1, if_neg (show ¬ nI (wN V t) < 12 from nI_nlt (a := wN V t) (b := 12) (by omega) (by omega)), zb2_s]), fun x hx => (by cases hx), fun rr u h9 => ?_⟩
      have hu : rr = 0 ∧ u = (K, L, (zul c 170 ou 0 (Int32.toInt64 (-1)))) := by
        rcases h9 with ⟨x9, c9, e9, h9⟩ | ⟨e9, _⟩
        · cases e9; exact h9
        · cases e9
      obtain ⟨rfl, rfl⟩ := hu
      exact ⟨-1, _, (by rw [f_X7_wish, zlet, m_noTr hV1 hB ht, zb_s, m_thr0, zb2_s, if_pos rfl, zq_18 hM1, zx_2 ht2, cl_ ht8, e18, if_pos (show nI (wN V t) = 12 by rw [c1]; rfl)]), t01, (fun _ => by rw [zl_zul, if_pos ⟨rfl, rfl, rfl⟩]), IN_mk q1 q2 q3 (RC_zl h) hW1 hM1 hV1⟩
    · have c2 : wN V t < 12 := by omega
      generalize hw : wN V t = w at *
      have e2 : 12 * nI t + nI w = nI (12 * t + w) := by rw [n12, pk_mul, nI_add]
      have x102 : zi c 102 (A 6 t) 0 = nI w := by rw [rt_102_6 h ht, w1]
      have h2 := RC_u (f := 102) (k := 6) (m := 18) (t := t) (v := nI (w + 1)) (RC_wish h (t := t) c2 p2 p3) (by decide) (by decide) (by decide)
      have c3 : ¬ nI w = 12 := fun e => c1 ((nI_eq (b := 12) (by omega) (by omega)).mp e)
      refine ⟨.inl (nI (w + 1), zui (zui (zui c 141 (A 7 t) w p2) 142 (A 8 t) w p3) 102 (A 6 t) 0 (nI (w + 1))), (by rw [f_X6_wish, k_trIn h hB ht, zt_l, zn_s (K4 h ht), kn_84 h ht, f_X5_add, x102, if_pos (show nI w < 12 from nI_lt (b := 12) c2 (by decide)), kn_100 h ht, zx_12 c2, zlet, cl_ (by omega), zr_zui, kn_101 h ht, zi_o (show 102 ≠ 141 by decide), x102, zx_12 c2, zlet, cl_ (by omega), zlet, zi_o (show 102 ≠ 142 by decide), zi_o (show 102 ≠ 141 by decide), x102, nI_1, zi_zui, if_pos ⟨rfl, rfl, rfl⟩, zb2_s]), fun x hx => (by cases hx), fun rr u h9 => ?_⟩
      have hu : rr = 0 ∧ u = (K, L, (zul (zui (zui (zui c 141 (A 7 t) w p2) 142 (A 8 t) w p3) 102 (A 6 t) 0 (nI (w + 1))) 170 ou 0 (Int32.toInt64 (nI (w + 1))))) := by
        rcases h9 with ⟨x9, c9, e9, h9⟩ | ⟨e9, _⟩
        · cases e9; exact h9
        · cases e9
      obtain ⟨rfl, rfl⟩ := hu
      exact ⟨nI (w + 1), _, (by rw [f_X7_wish, zlet, m_noTr hV1 hB ht, zb_s, m_thr0, zb2_s, if_pos rfl, zq_18 hM1, zx_2 ht2, cl_ ht8, e18, if_neg c3, zq_16 hM1, zx_2 ht2, e2, zx_2400 (by omega), zlet, cl_ (by omega), zr_zui, zq_17 hM1, zr_zui, zq_18 hM1, zx_2 ht2, zi_o (show 118 ≠ 116 by decide), e18, e2, zx_2400 (by omega), zlet, cl_ (by omega), zr_zui, zr_zui, zq_18 hM1, zx_2 ht2, zx_2 ht2, zlet, zi_o (show 118 ≠ 117 by decide), zi_o (show 118 ≠ 116 by decide), e18, nI_1, zr_zui, zr_zui, zr_zui, zq_18 hM1, zx_2 ht2, zi_zui, if_pos ⟨rfl, rfl, rfl⟩]), (by rw [zi_zui, if_neg (fun x => absurd x.1 (by decide)), zi_zui, if_neg (fun x => absurd x.1 (by decide)), zi_zui, if_neg (fun x => absurd x.1 (by decide)), t01]), (fun _ => by rw [zl_zul, if_pos ⟨rfl, rfl, rfl⟩]), IN_mk q1 q2 q3 (RC_zl h2) (WV_wish hW1 ht c2 p2 p3) (by exact hM) (by rw [vw_18, vw_17, vw_16, hV1])⟩
  · refine ⟨.inr 1, (by rw [f_X6_wish, k_trOut h hB hp1, zt_r]), fun x hx => by have e9 := Sum.inr.inj hx; omega, fun rr u h9 => ?_⟩
    have hu : rr = 1 ∧ u = (K, L, c) := by
      rcases h9 with ⟨_, _, e9, _⟩ | ⟨e9, h9⟩
      · cases e9
      · exact h9
    obtain ⟨rfl, rfl⟩ := hu
    exact ⟨0, _, (by rw [f_X7_wish, zlet, m_noTrO hV1 hp1, zb_s, m_thr1, zb2_s, if_neg (by decide)]), zi_thr, fun x => absurd x (by decide), THR 1⟩

end SX

