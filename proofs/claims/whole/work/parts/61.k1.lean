/-! what is against a stall: by the class -/
section KA
variable {K : Nat → Nat} {A : Nat → Nat → Nat} {c : zS} {V : zV} {ms z : Nat}
theorem k_row (h : RC K A c V ms) {i : Nat} (hi : i < 40) : f_X6_rowOrNull K z c ms (nI i) = some (some (A 0 i)) := by
  unfold f_X6_rowOrNull
  have h1 : ¬ (40 : Int32) ≤ nI i := nI_ge hi (by decide)
  rw [if_neg (nI_pos (by omega)), if_neg h1]
  simp only [kn_120 h, zx_4 hi, cl_ (show i < 8000 by omega), kn_143 h hi]
theorem k_rowO {ρ : Int32} (h : ρ < 0 ∨ (¬ ρ < 0 ∧ ¬ ρ < 40 ∧ 40 ≤ ρ)) : f_X6_rowOrNull K z c ms ρ = some none := by
  unfold f_X6_rowOrNull
  rcases h with h | h
  · rw [if_pos h]
  · rw [if_neg h.1, if_pos h.2.2]
theorem k_has (h : RC K A c V ms) (hW : WB V) {i q : Nat} (hi : i < 40) (hq : q < 100000) : f_X0_has K z c (A 0 i) (nI q) = some (oi (q < pl V i)) := by
  obtain ⟨e1, hpl⟩ := WB_7 hW hi
  unfold f_X0_has
  rw [if_neg (nI_pos (by omega)), (C7 h i hi).1, e1, iLE (by omega) (by omega)]
  by_cases h1 : pl V i ≤ q
  · rw [if_pos h1, oi_n (by omega)]
  · rw [if_neg h1, oi_p (by omega)]
theorem k_hasN {i : Nat} {p : Int32} (hp : p < 0) : f_X0_has K z c (A 0 i) p = some 0 := by
  unfold f_X0_has
  rw [if_pos hp]
theorem cov_pl (hW : WB V) {o i q : Nat} (ho : o < tN V) (hc : cov V o i q) : i < 40 ∧ q < pl V i ∧ pl V i ≤ 200 := by
  obtain ⟨h1, h2, h3, h4⟩ := hc
  obtain ⟨s1, s2, s3, s4⟩ := WB_11 hW ho h1
  have := (WB_7 hW s2).2
  subst h2
  exact ⟨s2, by omega, this⟩
theorem cov_u (hW : WB V) {o o' i q : Nat} (ho : o < tN V) (ho' : o' < tN V) (hc : cov V o i q) (hc' : cov V o' i q) : o = o' := by
  obtain ⟨h1, h2, h3, h4⟩ := hc
  obtain ⟨k1, k2, k3, k4⟩ := hc'
  rcases Nat.lt_trichotomy o o' with hl | hl | hl
  · have := WB_12 hW ho ho' (by omega) h1 k1 (by omega); omega
  · exact hl
  · have := WB_12 hW ho ho' (by omega) h1 k1 (by omega); omega
theorem k_holder (h : RC K A c V ms) (hW : WB V) {i q : Nat} (hi : i < 40) (hq : q < 100000) : ∃ x, f_X0_holderAt K z c (A 0 i) (nI q) = some x ∧ ((∃ o, o < tN V ∧ cov V o i q ∧ x = some (A 4 o)) ∨ ((∀ o, o < tN V → ¬ cov V o i q) ∧ x = none)) := by
  unfold f_X0_holderAt
  rw [k_has h hW hi hq, zb_s]
  have hpl := (WB_7 hW hi).2
  by_cases h1 : q < pl V i
  · rw [oi_p h1, if_neg (by decide)]
    simp only [kn_1 h hi, zx_2 (show q < 200 by omega), cl_ (show q < 8000 by omega), zlet]
    exact ⟨_, rfl, C13 h i q hi (by omega)⟩
  · rw [oi_n h1, if_pos rfl]
    exact ⟨none, rfl, Or.inr ⟨fun o ho hc => h1 (cov_pl hW ho hc).2.1, rfl⟩⟩
theorem k_holderN {i : Nat} {p : Int32} (hp : p < 0) : f_X0_holderAt K z c (A 0 i) p = some none := by
  unfold f_X0_holderAt
  rw [k_hasN hp, zb_s, if_pos rfl]
theorem sub_lt {a b : Nat} {p : Nat} (ha : a < 1000) (hb : b < 1000) (hp : p < 2 ^ 31) : (nI a - nI b < nI p) = (a < p + b) := by
  rw [Int32.lt_iff_toInt_lt, pk_sub_toInt (by omega) (by omega), nI_toInt hp]
  exact propext ⟨fun h => by omega, fun h => by omega⟩
theorem k_hasAll (h : RC K A c V ms) (hW : WB V) {t i : Nat} (ht : t < tN V) (hi : i < 40) (π : Int32) : f_X0_hasAll K z c (A 0 i) π (V.1 10 t) = some (oi (wthn V t (nI i) π)) := by
  obtain ⟨e1, hpl⟩ := WB_7 hW hi
  obtain ⟨e10, f1, f2⟩ := WB_6 hW ht
  unfold f_X0_hasAll
  by_cases h1 : π < 0
  · rw [if_pos h1, oi_n]
    rintro ⟨i', p, hi', ei, rfl, hp⟩
    have := (WB_7 hW hi').2
    exact nI_pos (by omega) h1
  · rw [if_neg h1]
    obtain ⟨p, hp, rfl⟩ := nI_of h1
    rw [(C7 h i hi).1, e1, e10, iP (sub_lt (a := pl V i) (b := fN V t) (p := p) (by omega) (by omega) hp)]
    by_cases h2 : pl V i < p + fN V t
    · rw [if_pos h2, oi_n]
      rintro ⟨i', p', hi', ei, ep, hp'⟩
      have h4 : i' = i := ((nI_eq (by omega) (by omega)).mp ei).symm
      subst h4
      have h5 : p' = p := ((nI_eq (by omega) (by omega)).mp ep).symm
      omega
    · rw [if_neg h2, oi_p ⟨i, p, hi, rfl, rfl, by omega⟩]
theorem k_marked3 (h : RC K A c V ms) (hW : WB V) {t i p : Nat} (ht : t < tN V) (hi : i < 40) (hp : p + fN V t ≤ pl V i) (b : Int32) : ∀ (nn k : Nat), k ≤ fN V t → fN V t - k < nn → f_X0_isMarked_3 K z c (A 0 i) (nI p) (V.1 10 t) b nn (nI k) = some (oi (∃ j, k ≤ j ∧ j < fN V t ∧ mk V i (p + j) b)) := by
  obtain ⟨e10, f1, f2⟩ := WB_6 hW ht
  obtain ⟨e1, hpl⟩ := WB_7 hW hi
  intro nn
  induction nn with
  | zero => intro k hk h; omega
  | succ nn ih =>
    intro k hk hh
    rw [f_X0_isMarked_3, nI_add, k_has h hW hi (by omega), zb_s, e10, iLE (by omega) (by omega)]
    by_cases h1 : fN V t ≤ k
    · rw [if_pos h1, oi_n (fun ⟨j, h2, h3, _⟩ => by omega)]
    · have h5 : p + k < pl V i := by omega
      rw [if_neg h1, oi_p h5, if_neg (by decide)]
      simp only [kn_0 h hi, zx_2 (show p + k < 200 by omega), cl_ (show p + k < 8000 by omega), (C7 h i hi).2 (p + k) (by omega), zlet, nI_1]
      rw [e10] at ih
      by_cases h3 : V.1 2 (200 * i + (p + k)) &&& b = 0
      · rw [if_pos h3, ih (k + 1) (by omega) (by omega)]
        congr 1
        refine oi_c ⟨fun ⟨j, a1, a2, a3⟩ => ⟨j, by omega, a2, a3⟩, fun ⟨j, a1, a2, a3⟩ => ⟨j, ?_, a2, a3⟩⟩
        rcases Nat.lt_or_ge k j with h7 | h7
        · exact h7
        · exact absurd h3 (by rw [show k = j by omega]; exact a3)
      · rw [if_neg h3, oi_p ⟨k, Nat.le_refl _, by omega, h3⟩]
theorem k_marked (h : RC K A c V ms) (hW : WB V) (hz : 300 ≤ z) {t i p : Nat} (ht : t < tN V) (hi : i < 40) (hp : p + fN V t ≤ pl V i) (b : Int32) : f_X0_isMarked K z c (A 0 i) (nI p) (V.1 10 t) b = some (oi (mkd V t i p b)) := by
  obtain ⟨e10, f1, f2⟩ := WB_6 hW ht
  rw [f_X0_isMarked]
  have := k_marked3 (z := z) h hW ht hi hp b z 0 (by omega) (by omega)
  rw [nI_0] at this
  rw [this]
  congr 1
  exact oi_c ⟨fun ⟨j, _, h1, h2⟩ => ⟨j, h1, h2⟩, fun ⟨j, h1, h2⟩ => ⟨j, Nat.zero_le _, h1, h2⟩⟩
theorem k_taken2 (h : RC K A c V ms) (hW : WB V) {t i p : Nat} (ht : t < tN V) (hi : i < 40) (hp : p + fN V t ≤ pl V i) : ∀ (nn k : Nat), k ≤ fN V t → fN V t - k < nn → f_X0_isTakenByOther_2 K z c (A 0 i) (A 4 t) (nI p) nn (nI k) = some (oi (∃ j, k ≤ j ∧ j < fN V t ∧ ∃ o, oth V t o ∧ cov V o i (p + j))) := by
  obtain ⟨e10, f1, f2⟩ := WB_6 hW ht
  obtain ⟨e1, hpl⟩ := WB_7 hW hi
  intro nn
  induction nn with
  | zero => intro k hk h; omega
  | succ nn ih =>
    intro k hk hh
    rw [f_X0_isTakenByOther_2, rt_82_4 h ht, nI_add, e10, iLE (by omega) (by omega)]
    by_cases h1 : fN V t ≤ k
    · rw [if_pos h1, oi_n (fun ⟨j, h2, h3, _⟩ => by omega)]
    · rw [if_neg h1]
      obtain ⟨x, hx, hx2⟩ := k_holder (z := z) h hW hi (q := p + k) (by omega)
      rw [hx, zb_s]
      have SKIP : (∀ o, o < tN V → cov V o i (p + k) → o = t) → f_X0_isTakenByOther_2 K z c (A 0 i) (A 4 t) (nI p) nn (nI k + 1) = some (oi (∃ j, k ≤ j ∧ j < fN V t ∧ ∃ o, oth V t o ∧ cov V o i (p + j))) := by
        intro hs
        rw [nI_1, ih (k + 1) (by omega) (by omega)]
        congr 1
        refine oi_c ⟨fun ⟨j, a1, a2, a3⟩ => ⟨j, by omega, a2, a3⟩, fun ⟨j, a1, a2, o, a3, a4⟩ => ⟨j, ?_, a2, o, a3, a4⟩⟩
        rcases Nat.lt_or_ge k j with h7 | h7
        · exact h7
        · exact absurd (hs o a3.1 (by rw [show k = j by omega]; exact a4)) a3.2.2
      rcases hx2 with ⟨o, ho, hc, rfl⟩ | ⟨hn, rfl⟩
      · rw [zo_s (K4 h ho)]
        by_cases h2 : A 4 o = A 4 t
        · rw [if_pos h2, zlet]
          have e : o = t := (h.1 _ _ _ _ h2).2
          exact SKIP (fun o' ho' hc' => by rw [cov_u hW ho' ho hc' hc]; exact e)
        · rw [if_neg h2, oi_p ⟨k, Nat.le_refl _, by omega, o, ⟨ho, hc.1, fun e => h2 (by rw [e])⟩, hc⟩]
      · rw [zo_n, zlet]
        exact SKIP (fun o' ho' hc' => absurd hc' (hn o' ho'))
theorem cov_meet (hW : WB V) {t i p : Nat} (ht : t < tN V) : (∃ j, 0 ≤ j ∧ j < fN V t ∧ ∃ o, oth V t o ∧ cov V o i (p + j)) ↔ ∃ o, oth V t o ∧ meet V t o i p := by
  obtain ⟨e10, f1, f2⟩ := WB_6 hW ht
  constructor
  · rintro ⟨j, -, h1, o, h2, h3⟩
    exact ⟨o, h2, h3.2.1, by have := h3.2.2; omega, by have := h3.2.2; omega⟩
  · rintro ⟨o, h2, h3, h4, h5⟩
    obtain ⟨e11, f3, f4⟩ := WB_6 hW h2.1
    by_cases h6 : sp V o ≤ p
    · exact ⟨0, Nat.le_refl _, by omega, o, h2, h2.2.1, h3, by omega, by omega⟩
    · exact ⟨sp V o - p, Nat.zero_le _, by omega, o, h2, h2.2.1, h3, by omega, by omega⟩
theorem k_taken (h : RC K A c V ms) (hW : WB V) (hz : 300 ≤ z) {t i p : Nat} (ht : t < tN V) (hi : i < 40) (hp : p + fN V t ≤ pl V i) : f_X0_isTakenByOther K z c (A 0 i) (A 4 t) (nI p) = some (oi (∃ o, oth V t o ∧ meet V t o i p)) := by
  obtain ⟨e10, f1, f2⟩ := WB_6 hW ht
  rw [f_X0_isTakenByOther]
  have := k_taken2 (z := z) h hW ht hi hp z 0 (by omega) (by omega)
  rw [nI_0] at this
  rw [this]
  congr 1
  exact oi_c (cov_meet hW ht)
theorem k_oneIf (x : Int32) : f_X6_oneIf K z c x = some (if x = 0 then 0 else 1) := by
  unfold f_X6_oneIf
  split <;> rfl
theorem cn_st {Q : Nat → Prop} (t n : Nat) (ht : t < n) (hQ : Q t) {x : Int32} : nI (cn (fun o => ¬ V.1 27 o = 0 ∧ Q o) n) - (if V.1 27 t = 0 then 0 else 1) = nI (cn (fun o => ¬ V.1 27 o = 0 ∧ o ≠ t ∧ Q o) n) := by
  by_cases h : V.1 27 t = 0
  · rw [if_pos h, Int32.sub_zero, cn_c (Q := fun o => ¬ V.1 27 o = 0 ∧ o ≠ t ∧ Q o) n (fun o _ => ⟨fun x => ⟨x.1, fun e => x.1 (by rw [e]; exact h), x.2⟩, fun x => ⟨x.1, x.2.2⟩⟩)]
  · rw [if_neg h, cn_off (Q := fun o => ¬ V.1 27 o = 0 ∧ o ≠ t ∧ Q o) n ht ⟨h, hQ⟩ (fun x => x.2.1 rfl) (fun o ho => ⟨fun x => ⟨x.1, ho, x.2⟩, fun x => ⟨x.1, x.2.2⟩⟩), nI_pred]
theorem k_limit (h : RC K A c V ms) (hW : WB V) {t : Nat} (ht : t < tN V) : f_X6_isTradeAtLimit K z c (A 4 t) = some (oi (full V t)) := by
  obtain ⟨t1, t2⟩ := WB_5 hW ht
  unfold f_X6_isTradeAtLimit
  simp only [kn_81 h hW ht, kn_85 h ht, kn_40 h ht, rt_20_10 h ht, k_oneIf, zb_s, C11 h _ t2, (C8 h _ t2).2.2.1]
  have e : nI (cn (fun o => st V o ∧ tr V o = tr V t) (tN V)) - (if V.1 27 t = 0 then 0 else 1) = nI (cn (fun o => st V o ∧ o ≠ t ∧ tr V o = tr V t) (tN V)) := cn_st (Q := fun o => tr V o = tr V t) t (tN V) ht rfl (x := 0)
  rw [e]
  by_cases h2 : full V t
  · rw [if_neg h2, oi_p h2]
  · rw [if_pos (Classical.not_not.mp h2), oi_n h2]
theorem bit01 (x : Int32) : x &&& 1 = 0 ∨ x &&& 1 = 1 := by
  obtain ⟨j, hj, e⟩ := pk_andE x (m := 1) 1 (by decide)
  rw [e]
  rcases (show j = 0 ∨ j = 1 by omega) with rfl | rfl
  · exact Or.inl rfl
  · exact Or.inr rfl
theorem k_paired (h : RC K A c V ms) (hW : WB V) {t o : Nat} (ht : t < tN V) (ho : o < tN V) : f_X6_isPairedStall K z c (A 4 t) (some (A 4 o)) = some (oi (o ≠ t ∧ pd V t o)) := by
  obtain ⟨t1, t2⟩ := WB_5 hW ht
  obtain ⟨o1, o2⟩ := WB_5 hW ho
  have hr := WB_4 hW
  unfold f_X6_isPairedStall
  rw [zo_s (K4 h ho)]
  by_cases h1 : A 4 o = A 4 t
  · rw [if_pos h1, oi_n (fun x => x.1 (h.1 _ _ _ _ h1).2)]
  · rw [if_neg h1, kn_81 h hW ht, kn_81 h hW ho]
    unfold f_X3_isPairedWith
    have hb := (C8 h _ t2).2.2.2.2 (tr V o) (by omega)
    rw [(C8 h _ o2).1]
    by_cases h2 : (zi c 64 (A 3 (tr V t)) 0 >>> (nI (tr V o) &&& 31)) &&& 1 = 1
    · rw [if_pos h2, zb_s, if_neg (by decide), oi_p ⟨fun e => h1 (by rw [e]), hb.mp h2⟩]
    · rw [if_neg h2, zb_s, if_pos rfl, oi_n (fun x => h2 (hb.mpr x.2))]
theorem k_pairedN {t : Nat} : f_X6_isPairedStall K z c (A 4 t) none = some 0 := rfl
theorem k_beside (h : RC K A c V ms) (hW : WB V) {t i p : Nat} (ht : t < tN V) (hi : i < 40) (hp : p + fN V t ≤ pl V i) (hm : ¬ ∃ o, oth V t o ∧ meet V t o i p) : f_X6_isPairedBeside K z c (A 0 i) (A 4 t) (nI p) = some (oi (∃ o, oth V t o ∧ pd V t o ∧ besd V t o i p)) := by
  obtain ⟨e10, f1, f2⟩ := WB_6 hW ht
  obtain ⟨e1, hpl⟩ := WB_7 hW hi
  unfold f_X6_isPairedBeside
  rw [rt_82_4 h ht, e10, nI_add]
  -- the place ahead
  have L : ∃ x, f_X0_holderAt K z c (A 0 i) (nI p - 1) = some x ∧ f_X6_isPairedStall K z c (A 4 t) x = some (oi (∃ o, oth V t o ∧ pd V t o ∧ sr V o = i ∧ sp V o + fN V o = p)) := by
    rcases Nat.eq_zero_or_pos p with h0 | h0
    · refine ⟨none, by rw [k_holderN]; rw [h0]; decide, ?_⟩
      rw [k_pairedN, oi_n]
      rintro ⟨o, h1, h2, h3, h4⟩
      have := (WB_6 hW h1.1).2.1
      omega
    · obtain ⟨q, rfl⟩ : ∃ q, p = q + 1 := ⟨p - 1, by omega⟩
      rw [nI_pred]
      obtain ⟨x, hx, hx2⟩ := k_holder (z := z) h hW hi (q := q) (by omega)
      refine ⟨x, hx, ?_⟩
      rcases hx2 with ⟨o, ho, hc, rfl⟩ | ⟨hn, rfl⟩
      · rw [k_paired h hW ht ho]
        congr 1
        refine oi_c ⟨fun x => ⟨o, ⟨ho, hc.1, x.1⟩, x.2, hc.2.1, ?_⟩, fun ⟨o', h1, h2, h3, h4⟩ => ?_⟩
        · have h5 : ¬ meet V t o i (q + 1) := fun y => hm ⟨o, ⟨ho, hc.1, x.1⟩, y⟩
          have := hc.2.2
          have := (WB_6 hW ho).2.1
          rcases Nat.lt_or_ge (q + 1) (sp V o + fN V o) with h6 | h6
          · exact absurd ⟨hc.2.1, by omega, h6⟩ h5
          · omega
        · have hc' : cov V o' i q := ⟨h1.2.1, h3, by have := (WB_6 hW h1.1).2.1; omega, by omega⟩
          rw [cov_u hW ho h1.1 hc hc']
          exact ⟨h1.2.2, h2⟩
      · rw [k_pairedN, oi_n]
        rintro ⟨o', h1, h2, h3, h4⟩
        exact hn o' h1.1 ⟨h1.2.1, h3, by have := (WB_6 hW h1.1).2.1; omega, by omega⟩
  have Rr : ∃ x, f_X0_holderAt K z c (A 0 i) (nI (p + fN V t)) = some x ∧ f_X6_isPairedStall K z c (A 4 t) x = some (oi (∃ o, oth V t o ∧ pd V t o ∧ sr V o = i ∧ sp V o = p + fN V t)) := by
    obtain ⟨x, hx, hx2⟩ := k_holder (z := z) h hW hi (q := p + fN V t) (by omega)
    refine ⟨x, hx, ?_⟩
    rcases hx2 with ⟨o, ho, hc, rfl⟩ | ⟨hn, rfl⟩
    · rw [k_paired h hW ht ho]
      congr 1
      refine oi_c ⟨fun x => ⟨o, ⟨ho, hc.1, x.1⟩, x.2, hc.2.1, ?_⟩, fun ⟨o', h1, h2, h3, h4⟩ => ?_⟩
      · have h5 : ¬ meet V t o i p := fun y => hm ⟨o, ⟨ho, hc.1, x.1⟩, y⟩
        have := hc.2.2
        rcases Nat.lt_or_ge (sp V o) (p + fN V t) with h6 | h6
        · exact absurd ⟨hc.2.1, h6, by omega⟩ h5
        · omega
      · have hc' : cov V o' i (p + fN V t) := ⟨h1.2.1, h3, by omega, by have := (WB_6 hW h1.1).2.1; omega⟩
        rw [cov_u hW ho h1.1 hc hc']
        exact ⟨h1.2.2, h2⟩
    · rw [k_pairedN, oi_n]
      rintro ⟨o', h1, h2, h3, h4⟩
      exact hn o' h1.1 ⟨h1.2.1, h3, by omega, by have := (WB_6 hW h1.1).2.1; omega⟩
  obtain ⟨x1, a1, a2⟩ := L
  obtain ⟨x2, b1, b2⟩ := Rr
  rw [a1, zb_s, a2, zb_s]
  by_cases c1 : ∃ o, oth V t o ∧ pd V t o ∧ sr V o = i ∧ sp V o + fN V o = p
  · rw [oi_p c1, if_neg (by decide), oi_p]
    obtain ⟨o, y1, y2, y3, y4⟩ := c1
    exact ⟨o, y1, y2, y3, Or.inl y4⟩
  · rw [oi_n c1, if_pos rfl, b1, zb_s, b2, zb_s]
    by_cases c2 : ∃ o, oth V t o ∧ pd V t o ∧ sr V o = i ∧ sp V o = p + fN V t
    · rw [oi_p c2, if_neg (by decide), oi_p]
      obtain ⟨o, y1, y2, y3, y4⟩ := c2
      exact ⟨o, y1, y2, y3, Or.inr y4⟩
    · rw [oi_n c2, if_pos rfl, oi_n]
      rintro ⟨o, y1, y2, y3, y4 | y4⟩
      · exact c1 ⟨o, y1, y2, y3, y4⟩
      · exact c2 ⟨o, y1, y2, y3, y4⟩
theorem k_across8 (h : RC K A c V ms) (hW : WB V) {t i p : Nat} (ht : t < tN V) (hi : i < 40) (hp : p < 300) : ∀ (nn k : Nat), k ≤ fN V t → fN V t - k < nn → f_X6_isPairedAcross_8 K z c (A 4 t) (nI p) nn (A 0 i) (nI k) = some (oi (∃ j, k ≤ j ∧ j < fN V t ∧ ∃ o, oth V t o ∧ pd V t o ∧ cov V o i (p + j))) := by
  obtain ⟨e10, f1, f2⟩ := WB_6 hW ht
  intro nn
  induction nn with
  | zero => intro k hk h; omega
  | succ nn ih =>
    intro k hk hh
    rw [f_X6_isPairedAcross_8, rt_82_4 h ht, nI_add, e10, iLE (by omega) (by omega)]
    by_cases h1 : fN V t ≤ k
    · rw [if_pos h1, oi_n (fun ⟨j, h2, h3, _⟩ => by omega)]
    · rw [if_neg h1]
      obtain ⟨x, hx, hx2⟩ := k_holder (z := z) h hW hi (q := p + k) (by omega)
      rw [hx, zb_s]
      have SKIP : (∀ o, oth V t o → pd V t o → ¬ cov V o i (p + k)) → f_X6_isPairedAcross_8 K z c (A 4 t) (nI p) nn (A 0 i) (nI k + 1) = some (oi (∃ j, k ≤ j ∧ j < fN V t ∧ ∃ o, oth V t o ∧ pd V t o ∧ cov V o i (p + j))) := by
        intro hs
        rw [nI_1, ih (k + 1) (by omega) (by omega)]
        congr 1
        refine oi_c ⟨fun ⟨j, a1, a2, a3⟩ => ⟨j, by omega, a2, a3⟩, fun ⟨j, a1, a2, o, a3, a4, a5⟩ => ⟨j, ?_, a2, o, a3, a4, a5⟩⟩
        rcases Nat.lt_or_ge k j with h7 | h7
        · exact h7
        · exact absurd (by rw [show k = j by omega]; exact a5) (hs o a3 a4)
      rcases hx2 with ⟨o, ho, hc, rfl⟩ | ⟨hn, rfl⟩
      · rw [k_paired h hW ht ho, zb_s]
        by_cases h2 : o ≠ t ∧ pd V t o
        · rw [oi_p h2, if_neg (by decide), oi_p ⟨k, Nat.le_refl _, by omega, o, ⟨ho, hc.1, h2.1⟩, h2.2, hc⟩]
        · rw [oi_n h2, if_pos rfl, zlet]
          exact SKIP (fun o' a b d => h2 (by rw [cov_u hW ho a.1 hc d]; exact ⟨a.2.2, b⟩))
      · rw [k_pairedN, zb_s, if_pos rfl, zlet]
        exact SKIP (fun o' a b d => hn o' a.1 d)
theorem xor40 : ∀ i, i < 40 → ∃ j, j < 40 ∧ nI i ^^^ 1 = nI j ∧ nI j ^^^ 1 = nI i := by
  intro i hi
  have : ∀ i, i < 40 → nI i ^^^ 1 = nI (if i % 2 = 0 then i + 1 else i - 1) ∧ nI (if i % 2 = 0 then i + 1 else i - 1) ^^^ 1 = nI i := by decide +kernel
  obtain ⟨a, b⟩ := this i hi
  refine ⟨_, ?_, a, b⟩
  split <;> omega
theorem k_across (h : RC K A c V ms) (hW : WB V) (hz : 300 ≤ z) {t i p : Nat} (ht : t < tN V) (hi : i < 40) (hp : p + fN V t ≤ pl V i) : ∃ x, f_X6_rowOrNull K z c ms (nI i ^^^ 1) = some x ∧ f_X6_isPairedAcross K z c x (A 4 t) (nI p) = some (oi (∃ o, oth V t o ∧ pd V t o ∧ oppo V t o i p)) := by
  obtain ⟨e10, f1, f2⟩ := WB_6 hW ht
  obtain ⟨e1, hpl⟩ := WB_7 hW hi
  obtain ⟨j, hj, ej, ej2⟩ := xor40 i hi
  refine ⟨some (A 0 j), by rw [ej, k_row h hj], ?_⟩
  unfold f_X6_isPairedAcross
  rw [zo_s ((C1 h).1 j hj).1]
  have := k_across8 (z := z) h hW ht hj (p := p) (by omega) z 0 (by omega) (by omega)
  rw [nI_0] at this
  rw [this]
  congr 1
  refine oi_c ⟨fun ⟨k, _, h1, o, h2, h3, h4⟩ => ⟨o, h2, h3, ?_, by have := h4.2.2; omega, by have := h4.2.2; omega⟩, fun ⟨o, h2, h3, h4, h5, h6⟩ => ?_⟩
  · rw [h4.2.1, ej2]
  · obtain ⟨s1, s2, s3, s4⟩ := WB_11 hW h2.1 h2.2.1
    obtain ⟨j', hj', ej', ej2'⟩ := xor40 (sr V o) s2
    have e : sr V o = j := by
      have h7 : nI j' = nI i := ej'.symm.trans h4
      have h8 : j' = i := (nI_eq (by omega) (by omega)).mp h7
      subst h8
      exact ((nI_eq (by omega) (by omega)).mp (ej.symm.trans ej2')).symm
    have := (WB_6 hW h2.1).2.1
    by_cases h9 : sp V o ≤ p
    · exact ⟨0, Nat.le_refl _, by omega, o, h2, h3, h2.2.1, e, by omega, by omega⟩
    · exact ⟨sp V o - p, Nat.zero_le _, by omega, o, h2, h3, h2.2.1, e, by omega, by omega⟩
theorem k_spoil (h : RC K A c V ms) (hW : WB V) {t o : Nat} (ht : t < tN V) (ho : o < tN V) (h0 : ¬ V.1 8 t = 3 → ¬ V.1 5 (tr V t) = 0) : f_X6_doesSpoil K z c (A 4 t) (A 4 o) = some (oi (fire V t o)) := by
  obtain ⟨o1, o2⟩ := WB_5 hW ho
  have hr := WB_4 hW
  unfold f_X6_doesSpoil
  rw [rt_86_4 h ht, rt_86_4 h ho]
  by_cases h1 : V.1 8 t = 3
  · rw [if_pos h1, kn_81 h hW ho, (C8 h _ o2).2.2.2.1, zz_p (WB_10 hW (by omega))]
    rcases WB_10 hW (j := tr V o) (by omega) with h2 | h2
    · have hn : ¬ fire V t o := fun x => by
        rcases x with x | x
        · exact x.2 h2
        · exact x.1 h1
      rw [h2, oi_n hn]
    · have hn : fire V t o := Or.inl ⟨h1, fun x => by rw [h2] at x; exact absurd x (by decide)⟩
      rw [h2, oi_p hn]
  · rw [if_neg h1]
    by_cases h2 : V.1 8 o = 3
    · have hn : fire V t o := Or.inr ⟨h1, h0 h1, h2⟩
      rw [if_pos h2, oi_p hn]
    · have hn : ¬ fire V t o := fun x => by
        rcases x with x | x
        · exact h1 x.1
        · exact h2 x.2.2
      rw [if_neg h2, oi_n hn]
theorem k_cook23 (h : RC K A c V ms) (hW : WB V) {t i p : Nat} (ht : t < tN V) (hi : i < 40) (hp : p < 300) (h0 : ¬ V.1 8 t = 3 → ¬ V.1 5 (tr V t) = 0) : ∀ (nn k : Nat), k ≤ fN V t + 12 → fN V t + 12 - k < nn → f_X6_isCookNearCloth_23 K z c (A 0 i) (A 4 t) (nI p) nn (nI k - 6) = some (oi (∃ j, k ≤ j ∧ j < fN V t + 12 ∧ ∃ o, oth V t o ∧ fire V t o ∧ 6 ≤ p + j ∧ cov V o i (p + j - 6))) := by
  obtain ⟨e10, f1, f2⟩ := WB_6 hW ht
  intro nn
  induction nn with
  | zero => intro k hk h; omega
  | succ nn ih =>
    intro k hk hh
    rw [f_X6_isCookNearCloth_23, rt_82_4 h ht, e10]
    have e6 : (nI (fN V t) + 6 ≤ nI k - 6) = (fN V t + 12 ≤ k) := by
      have a1 : (nI (fN V t) + 6).toInt = (fN V t : Int) + 6 := by rw [n6, nI_add, nI_toInt (by omega)]; omega
      have a2 : (nI k - 6).toInt = (k : Int) - 6 := by rw [n6, pk_sub_toInt (by omega) (by omega)]; omega
      rw [Int32.le_iff_toInt_le, a1, a2]
      exact propext ⟨fun h => by omega, fun h => by omega⟩
    have e7 : nI k - 6 + 1 = nI (k + 1) - 6 := by
      rw [nI_succ, Int32.sub_eq_add_neg, Int32.sub_eq_add_neg, Int32.add_assoc, Int32.add_assoc, Int32.add_comm (-6) 1]
    have e8 : nI p + (nI k - 6) = nI (p + k) - 6 := by
      rw [← nI_add, Int32.sub_eq_add_neg, Int32.sub_eq_add_neg, Int32.add_assoc]
    rw [iP e6, e8]
    by_cases h1 : fN V t + 12 ≤ k
    · rw [if_pos h1, oi_n (fun ⟨j, h2, h3, _⟩ => by omega)]
    · rw [if_neg h1]
      have SKIP : (∀ o, oth V t o → fire V t o → 6 ≤ p + k → ¬ cov V o i (p + k - 6)) → f_X6_isCookNearCloth_23 K z c (A 0 i) (A 4 t) (nI p) nn (nI k - 6 + 1) = some (oi (∃ j, k ≤ j ∧ j < fN V t + 12 ∧ ∃ o, oth V t o ∧ fire V t o ∧ 6 ≤ p + j ∧ cov V o i (p + j - 6))) := by
        intro hs
        rw [e7, ih (k + 1) (by omega) (by omega)]
        congr 1
        refine oi_c ⟨fun ⟨j, a1, a2, a3⟩ => ⟨j, by omega, a2, a3⟩, fun ⟨j, a1, a2, o, a3, a4, a6, a5⟩ => ⟨j, ?_, a2, o, a3, a4, a6, a5⟩⟩
        rcases Nat.lt_or_ge k j with h7 | h7
        · exact h7
        · have e : k = j := by omega
          subst e
          exact absurd a5 (hs o a3 a4 a6)
      rcases Nat.lt_or_ge (p + k) 6 with h2 | h2
      · have h3 : nI (p + k) - 6 < 0 := pk_sneg (b := 6) (by omega) h2
        rw [k_holderN h3, zb_s, zo_n, zlet]
        exact SKIP (fun o _ _ x => by omega)
      · rw [n6, pk_sub h2, ← n6]
        obtain ⟨x, hx, hx2⟩ := k_holder (z := z) h hW hi (q := p + k - 6) (by omega)
        rw [hx, zb_s]
        rcases hx2 with ⟨o, ho, hc, rfl⟩ | ⟨hn, rfl⟩
        · rw [zo_s (K4 h ho)]
          by_cases h3 : A 4 o = A 4 t
          · rw [if_pos h3, zlet]
            have e : o = t := (h.1 _ _ _ _ h3).2
            exact SKIP (fun o' a b _ d => a.2.2 (by rw [cov_u hW a.1 ho d hc]; exact e))
          · rw [if_neg h3, k_spoil h hW ht ho h0, zb_s]
            have hne : o ≠ t := fun e => h3 (by rw [e])
            by_cases h4 : fire V t o
            · rw [oi_p h4, if_neg (by decide), oi_p ⟨k, Nat.le_refl _, by omega, o, ⟨ho, hc.1, hne⟩, h4, h2, hc⟩]
            · rw [oi_n h4, if_pos rfl, zlet]
              exact SKIP (fun o' a b _ d => h4 (by rw [cov_u hW ho a.1 hc d]; exact b))
        · rw [zo_n, zlet]
          exact SKIP (fun o' a b _ d => hn o' a.1 d)
theorem k_cook (h : RC K A c V ms) (hW : WB V) (hz : 300 ≤ z) {t i p : Nat} (ht : t < tN V) (hi : i < 40) (hp : p + fN V t ≤ pl V i) : f_X6_isCookNearCloth K z c (A 0 i) (A 4 t) (nI p) = some (oi (∃ o, oth V t o ∧ fire V t o ∧ near V t o i p)) := by
  obtain ⟨t1, t2⟩ := WB_5 hW ht
  obtain ⟨e10, f1, f2⟩ := WB_6 hW ht
  obtain ⟨e1, hpl⟩ := WB_7 hW hi
  have key : (¬ V.1 8 t = 3 → ¬ V.1 5 (tr V t) = 0) → f_X6_isCookNearCloth_23 K z c (A 0 i) (A 4 t) (nI p) z (-6) = some (oi (∃ o, oth V t o ∧ fire V t o ∧ near V t o i p)) := by
    intro h0
    have := k_cook23 (z := z) h hW ht hi (p := p) (by omega) h0 z 0 (by omega) (by omega)
    rw [show nI 0 - 6 = -6 by decide] at this
    rw [this]
    congr 1
    refine oi_c ⟨fun ⟨j, _, h1, o, h2, h3, h4, h5⟩ => ⟨o, h2, h3, h5.2.1, by have := h5.2.2; omega, by have := h5.2.2; omega⟩, fun ⟨o, h2, h3, h4, h5, h6⟩ => ?_⟩
    have := (WB_6 hW h2.1).2.1
    by_cases h9 : sp V o + 6 ≤ p
    · exact ⟨0, Nat.le_refl _, by omega, o, h2, h3, by omega, h2.2.1, h4, by omega, by omega⟩
    · by_cases h10 : p < 6
      · by_cases h11 : sp V o + 6 ≤ 6
        · exact ⟨6 - p, Nat.zero_le _, by omega, o, h2, h3, by omega, h2.2.1, h4, by omega, by omega⟩
        · exact ⟨sp V o + 6 - p, Nat.zero_le _, by omega, o, h2, h3, by omega, h2.2.1, h4, by omega, by omega⟩
      · exact ⟨sp V o + 6 - p, Nat.zero_le _, by omega, o, h2, h3, by omega, h2.2.1, h4, by omega, by omega⟩
  unfold f_X6_isCookNearCloth
  rw [rt_86_4 h ht]
  by_cases h1 : V.1 8 t = 3
  · rw [if_pos h1, key (fun x => absurd h1 x)]
  · rw [if_neg h1, kn_81 h hW ht, (C8 h _ t2).2.2.2.1]
    by_cases h2 : V.1 5 (tr V t) = 0
    · rw [if_pos h2, oi_n]
      rintro ⟨o, _, h3 | h3, _⟩
      · exact h1 h3.1
      · exact h3.2.1 h2
    · rw [if_neg h2, key (fun _ => h2)]
theorem k_outm (h : RC K A c V ms) {t : Nat} (ht : t < tN V) : f_X6_isOutOfMonth K z c ms (A 4 t) = some (oi (outm V t)) := by
  unfold f_X6_isOutOfMonth f_X4_isOfMonth
  rw [rt_86_4 h ht, rt_88_4 h ht, (C10 h).2.2.2.2.2.1]
  by_cases h1 : V.1 8 t = 2
  · rw [if_pos h1]
    rcases bit01 (V.1 15 t >>> (V.1 38 0 &&& 31)) with h2 | h2
    · have hn : ¬ (V.1 15 t >>> (V.1 38 0 &&& 31)) &&& 1 = 1 := by rw [h2]; decide
      have ho : outm V t := ⟨h1, h2⟩
      rw [if_neg hn, zb_s, if_pos rfl, oi_p ho]
    · have ho : ¬ outm V t := fun x => by have := x.2; rw [h2] at this; exact absurd this (by decide)
      rw [if_pos h2, zb_s, if_neg (by decide), oi_n ho]
  · have ho : ¬ outm V t := fun x => h1 x.1
    rw [if_neg h1, oi_n ho]
theorem k_secd (h : RC K A c V ms) (hW : WB V) {t : Nat} (ht : t < tN V) : f_X6_isSecondCharity K z c ms (A 4 t) = some (oi (secd V t)) := by
  have hN := WB_2 hW
  unfold f_X6_isSecondCharity
  rw [rt_86_4 h ht]
  by_cases h1 : V.1 8 t = 4
  · rw [if_pos h1, kn_85 h ht, kn_40 h ht, rt_20_10 h ht, k_oneIf, zb_s, (C12 h).2]
    have e : nI (cn (fun o => st V o ∧ V.1 8 o = 4) (tN V)) - (if V.1 27 t = 0 then 0 else 1) = nI (cn (fun o => st V o ∧ o ≠ t ∧ V.1 8 o = 4) (tN V)) := cn_st (Q := fun o => V.1 8 o = 4) t (tN V) ht h1 (x := 0)
    rw [e]
    have hl := cn_le (fun o => st V o ∧ o ≠ t ∧ V.1 8 o = 4) (tN V)
    have hi := cn_iff (P := fun o => st V o ∧ o ≠ t ∧ V.1 8 o = 4) (tN V)
    by_cases h2 : 0 < cn (fun o => st V o ∧ o ≠ t ∧ V.1 8 o = 4) (tN V)
    · have hs : secd V t := by
        obtain ⟨o, ho, k1, k2, k3⟩ := hi.mp h2
        exact ⟨h1, o, ⟨ho, k1, k2⟩, k3⟩
      rw [if_neg (nI_nle h2 (by omega)), oi_p hs]
    · have hs : ¬ secd V t := fun ⟨_, o, ⟨ho, k1, k2⟩, k3⟩ => h2 (hi.mpr ⟨o, ho, k1, k2, k3⟩)
      rw [show cn (fun o => st V o ∧ o ≠ t ∧ V.1 8 o = 4) (tN V) = 0 by omega, if_pos (by decide), oi_n hs]
  · have hs : ¬ secd V t := fun x => h1 x.1
    rw [if_neg h1, oi_n hs]
theorem k_against (h : RC K A c V ms) (hW : WB V) (hz : 300 ≤ z) {t : Nat} (ht : t < tN V) (ρ π : Int32) : f_X6_against K z c ms (A 4 t) ρ π = some (ag V t ρ π) := by
  unfold f_X6_against
  rcases in_of (p := ρ) (N := 40) (n := 40) rfl (by decide) with ⟨i, hi, rfl⟩ | hρ
  · rw [k_row h hi, zb_s, zo_s ((C1 h).1 i hi).1, rt_82_4 h ht, k_hasAll h hW ht hi, zb_s]
    by_cases hw : wthn V t (nI i) π
    · obtain ⟨i', p, hi', ei, rfl, hp⟩ := id hw
      have h4 : i' = i := ((nI_eq (by omega) (by omega)).mp ei).symm
      subst h4
      have hpl := (WB_7 hW hi').2
      rw [oi_p hw, if_neg (by decide), ag_in hi' hp (by omega)]
      unfold agN
      have h100 : ¬ (∃ o, oth V t o ∧ pd V t o ∧ oppo V t o i' p) → f_X6_against_119 K z c ms (A 4 t) (nI i') (nI p) (A 0 i') = some (cif (∃ o, oth V t o ∧ fire V t o ∧ near V t o i' p) 8 <| cif (outm V t) 9 <| cif (secd V t) 10 0) := by
        intro _
        unfold f_X6_against_119
        refine m_q (k_cook h hW hz ht hi' hp) (fun _ => ?_)
        refine m_q (k_outm h ht) (fun _ => ?_)
        exact m_q (k_secd h hW ht) (fun _ => rfl)
      refine m_q (k_marked h hW hz ht hi' hp 3) (fun _ => ?_)
      refine m_q (k_taken h hW hz ht hi' hp) (fun h3 => ?_)
      refine m_q (k_limit h hW ht) (fun _ => ?_)
      refine m_q (k_beside h hW ht hi' hp h3) (fun _ => ?_)
      obtain ⟨x, hx1, hx2⟩ := k_across h hW hz ht hi' hp
      rw [hx1, zb_s]
      refine m_q hx2 (fun h6 => ?_)
      rw [rt_86_4 h ht]
      by_cases h8 : V.1 8 t = 3
      · rw [if_pos h8, k_marked h hW hz ht hi' hp 4, zb_s]
        by_cases h9 : mkd V t i' p 4
        · rw [oi_p h9, if_neg (by decide), cif_n (fun x => x.2 h9), h100 h6]
        · rw [oi_n h9, if_pos rfl, cif_p ⟨h8, h9⟩]
      · rw [if_neg h8, cif_n (fun x => h8 x.1), h100 h6]
    · rw [oi_n hw, if_pos rfl, ag, cif_n hw]
  · rw [k_rowO hρ, zb_s, zo_n, ag, cif_n]
    rintro ⟨i', p, hi', ei, -⟩
    exact no_row hρ hi' ei
end KA
