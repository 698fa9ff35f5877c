section M1
variable {K : Nat → Nat} {ra : Nat → Nat} {mo z n : Nat} {r : zS} {V : zV}
theorem lgc_lN {a b : Nat} (ha : a < 2 ^ 62) (hb : b < 2 ^ 62) : (0 < lg_cmp (lN a) (lN b)) = (b < a) := by
  have e1 : (lN a).toInt = a := Int64.toInt_ofNat_of_lt (by omega)
  have e2 : (lN b).toInt = b := Int64.toInt_ofNat_of_lt (by omega)
  unfold lg_cmp
  by_cases h : lN a > lN b
  · rw [if_pos h]
    have h3 := Int64.lt_iff_toInt_lt.mp h
    rw [e1, e2] at h3
    exact propext ⟨fun _ => by omega, fun _ => by decide⟩
  · rw [if_neg h]
    have h3 : ¬ (lN b).toInt < (lN a).toInt := fun x => h (Int64.lt_iff_toInt_lt.mpr x)
    rw [e1, e2] at h3
    refine propext ⟨fun x => ?_, fun x => absurd x (by omega)⟩
    split at x
    · exact absurd x (by decide)
    · exact absurd x (by decide)
theorem m_isRow {i : Nat} (hM : MS K ra mo r) (hV : vr ra mo r = V) (hi : i < 40) : f_X7_isRow K z r mo (nI i) = some (if V.1 1 i ≤ 0 then 0 else 1) := by
  unfold f_X7_isRow f_X7_noRow
  rw [if_neg (nI_pos (by omega)), if_pos (show nI i < 40 from nI_lt hi (by decide))]
  simp only [zb_s, reduceIte, zq_1 hM, zx_4 hi, cl_ (show i < 8000 by omega), rd_1 (ra := ra) (mo := mo), hV]
  split <;> rfl
theorem m_noRow {ρ : Int32} (h : ρ < 0 ∨ (¬ ρ < 0 ∧ ¬ ρ < 40 ∧ 40 ≤ ρ)) : f_X7_noRow K z r ρ = some 1 := by
  unfold f_X7_noRow
  rcases h with h | h
  · rw [if_pos h]
  · rw [if_neg h.1, if_neg h.2.1]
theorem m_isRowO {ρ : Int32} (h : ρ < 0 ∨ (¬ ρ < 0 ∧ ¬ ρ < 40 ∧ 40 ≤ ρ)) : f_X7_isRow K z r mo ρ = some 0 := by
  unfold f_X7_isRow
  rw [m_noRow h]
  simp only [zb_s, i10, reduceIte]
theorem no_row {ρ : Int32} (h : ρ < 0 ∨ (¬ ρ < 0 ∧ ¬ ρ < 40 ∧ 40 ≤ ρ)) {i : Nat} (hi : i < 40) : ρ ≠ nI i := by
  rintro rfl
  rcases h with h | h
  · exact nI_pos (by omega) h
  · exact h.2.1 (nI_lt hi (by decide))
theorem m_isWithin (hM : MS K ra mo r) (hV : vr ra mo r = V) (hW : WB V) {t : Nat} (ht : t < tN V) (ρ π : Int32) : f_X7_isWithin K z r mo (nI t) ρ π = some (oi (wthn V t ρ π)) := by
  have htl : t < 200 := Nat.lt_of_lt_of_le ht (WB_2 hW)
  obtain ⟨e10, f1, f2⟩ := WB_6 hW ht
  unfold f_X7_isWithin
  rcases in_of (p := ρ) (N := 40) (n := 40) rfl (by decide) with ⟨i, hi, rfl⟩ | h
  · rw [m_isRow hM hV hi]
    obtain ⟨e1, hpl⟩ := WB_7 hW hi
    by_cases h1 : V.1 1 i ≤ 0
    · rw [zb_s, if_pos h1, if_pos rfl, oi_n]
      rintro ⟨i', p, hi', ei, rfl, hp⟩
      have : i' = i := ((nI_eq (by omega) (by omega)).mp ei).symm
      subst this
      rw [e1] at h1
      have := (nI_leI (a := pl V i') (b := 0) (by omega) (by decide)).mp h1
      omega
    · rw [zb_s, if_neg h1, if_neg (by decide)]
      by_cases h2 : π < 0
      · rw [if_pos h2, oi_n]
        rintro ⟨i', p, hi', ei, rfl, hp⟩
        have := (WB_7 hW hi').2
        exact nI_pos (by omega) h2
      · rw [if_neg h2]
        obtain ⟨p, hp, rfl⟩ := nI_of h2
        simp only [zq_10 hM, zq_1 hM, zx_2 htl, zx_4 hi, cl_ (show t < 8000 by omega), cl_ (show i < 8000 by omega), rd_10 (ra := ra) (mo := mo), rd_1 (ra := ra) (mo := mo), hV]
        rw [e10, e1, nI_l hp, nI_l (by omega), nI_l (by omega), lN_add, iP (lgc_lN (a := p + fN V t) (b := pl V i) (by omega) (by omega))]
        by_cases h3 : p + fN V t ≤ pl V i
        · rw [if_neg (by omega), oi_p ⟨i, p, hi, rfl, rfl, h3⟩]
        · rw [if_pos (by omega), oi_n]
          rintro ⟨i', p', hi', ei, ep, hp'⟩
          have h4 : i' = i := ((nI_eq (by omega) (by omega)).mp ei).symm
          subst h4
          have := (WB_7 hW hi').2
          have h5 : p' = p := ((nI_eq (by omega) (by omega)).mp ep).symm
          subst h5
          exact h3 hp'
  · rw [m_isRowO h, zb_s, if_pos rfl, oi_n]
    rintro ⟨i', p', hi', ei, ep, hp'⟩
    exact no_row h hi' ei
theorem m_isMarked6 (hM : MS K ra mo r) (hV : vr ra mo r = V) (hW : WB V) {t i p : Nat} (ht : t < tN V) (hi : i < 40) (hp : p + fN V t ≤ pl V i) (b : Int32) : ∀ (nn k : Nat), k ≤ fN V t → fN V t - k < nn → ∀ (P : Prop), f_X7_isMarked_6 K z r mo (nI t) (nI i) (nI p) b nn (oi P) (nI (p + k)) = some (oi (P ∨ ∃ j, k ≤ j ∧ j < fN V t ∧ mk V i (p + j) b)) := by
  have htl : t < 200 := Nat.lt_of_lt_of_le ht (WB_2 hW)
  obtain ⟨e10, f1, f2⟩ := WB_6 hW ht
  obtain ⟨e1, hpl⟩ := WB_7 hW hi
  intro nn
  induction nn with
  | zero => intro k hk h; omega
  | succ nn ih =>
    intro k hk h P
    rw [f_X7_isMarked_6]
    simp only [zq_10 hM, zx_2 htl, cl_ (show t < 8000 by omega), rd_10 (ra := ra) (mo := mo), hV]
    rw [e10, nI_add, iLE (by omega) (by omega)]
    by_cases h1 : p + fN V t ≤ p + k
    · rw [if_pos h1, zz_p oi_b]
      congr 1
      refine oi_c ⟨fun x => Or.inl x, fun x => ?_⟩
      rcases x with x | ⟨j, h2, h3, -⟩
      · exact x
      · omega
    · rw [if_neg h1]
      by_cases hP : P
      · rw [oi_p hP, if_neg (by decide), zlet, nI_1, show (1 : Int32) = oi True from (oi_p trivial).symm, Nat.add_assoc, ih (k + 1) (by omega) (by omega) True]
        congr 1
        rw [oi_p (Or.inl trivial), oi_p (Or.inl hP)]
      · rw [oi_n hP, if_pos rfl]
        have e2 : (200 * nI i) + nI (p + k) = nI (200 * i + (p + k)) := by rw [n200, pk_mul, nI_add]
        simp only [zq_2 hM, e2, zx_8000 (show 200 * i + (p + k) < 8000 by omega), cl_ (show 200 * i + (p + k) < 8000 by omega), rd_2 (ra := ra) (mo := mo), hV, zlet, nI_1]
        by_cases h3 : V.1 2 (200 * i + (p + k)) &&& b = 0
        · rw [if_pos h3, show (0 : Int32) = oi False from (oi_n (fun x => x)).symm, Nat.add_assoc, ih (k + 1) (by omega) (by omega) False]
          congr 1
          refine oi_c ⟨fun x => ?_, fun x => ?_⟩
          · rcases x with x | ⟨j, h4, h5, h6⟩
            · exact x.elim
            · exact Or.inr ⟨j, by omega, h5, h6⟩
          · rcases x with x | ⟨j, h4, h5, h6⟩
            · exact absurd x hP
            · refine Or.inr ⟨j, ?_, h5, h6⟩
              rcases Nat.lt_or_ge k j with h7 | h7
              · exact h7
              · exact absurd h3 (by rw [show k = j by omega]; exact h6)
        · rw [if_neg h3, show (1 : Int32) = oi True from (oi_p trivial).symm, Nat.add_assoc, ih (k + 1) (by omega) (by omega) True]
          congr 1
          rw [oi_p (Or.inl trivial), oi_p (Or.inr ⟨k, Nat.le_refl _, by omega, h3⟩)]
theorem m_isMarked (hM : MS K ra mo r) (hV : vr ra mo r = V) (hW : WB V) (hz : 300 ≤ z) {t i p : Nat} (ht : t < tN V) (hi : i < 40) (hp : p + fN V t ≤ pl V i) (b : Int32) : f_X7_isMarked K z r mo (nI t) (nI i) (nI p) b = some (oi (mkd V t i p b)) := by
  obtain ⟨e10, f1, f2⟩ := WB_6 hW ht
  rw [f_X7_isMarked, show (0 : Int32) = oi False from (oi_n (fun x => x)).symm]
  have := m_isMarked6 (z := z) hM hV hW ht hi hp b z 0 (by omega) (by omega) False
  rw [Nat.add_zero] at this
  rw [this]
  congr 1
  refine oi_c ⟨fun x => ?_, fun ⟨j, h1, h2⟩ => Or.inr ⟨j, by omega, h1, h2⟩⟩
  rcases x with x | ⟨j, -, h1, h2⟩
  · exact x.elim
  · exact ⟨j, h1, h2⟩
theorem m_endOf (hM : MS K ra mo r) (hV : vr ra mo r = V) (hW : WB V) {o : Nat} (ho : o < tN V) (hs : st V o) : f_X7_endOf K z r mo (nI o) = some (nI (sp V o + fN V o)) := by
  have htl : o < 200 := Nat.lt_of_lt_of_le ho (WB_2 hW)
  unfold f_X7_endOf
  simp only [zq_29 hM, zq_10 hM, zx_2 htl, cl_ (show o < 8000 by omega), rd_10 (ra := ra) (mo := mo), rd_29 (ra := ra) (mo := mo), hV]
  rw [(WB_11 hW ho hs).2.2.1, (WB_6 hW ho).1, nI_add]
theorem m_meets (hM : MS K ra mo r) (hV : vr ra mo r = V) (hW : WB V) {t o i p : Nat} (ht : t < tN V) (ho : o < tN V) (hs : st V o) (hi : i < 40) (hp : p < 300) : f_X7_meets K z r mo (nI t) (nI o) (nI i) (nI p) = some (oi (meet V t o i p)) := by
  have htl : t < 200 := Nat.lt_of_lt_of_le ht (WB_2 hW)
  have hol : o < 200 := Nat.lt_of_lt_of_le ho (WB_2 hW)
  obtain ⟨s1, s2, s3, s4⟩ := WB_11 hW ho hs
  obtain ⟨e10, f1, f2⟩ := WB_6 hW ht
  obtain ⟨e11, f3, f4⟩ := WB_6 hW ho
  have hpl := (WB_7 hW s2).2
  unfold f_X7_meets
  simp only [zq_28 hM, zq_29 hM, zq_10 hM, zx_2 htl, zx_2 hol, cl_ (show t < 8000 by omega), cl_ (show o < 8000 by omega), rd_10 (ra := ra) (mo := mo), rd_28 (ra := ra) (mo := mo), rd_29 (ra := ra) (mo := mo), hV, m_endOf hM hV hW ho hs, zb_s]
  rw [s1, s3, e10, nI_add, iEQ (by omega) (by omega), iLE (by omega) (by omega), iLE (by omega) (by omega)]
  by_cases h1 : sr V o = i
  · rw [if_pos h1]
    by_cases h2 : p + fN V t ≤ sp V o
    · rw [if_pos h2, oi_n (fun x => by have := x.2.1; omega)]
    · rw [if_neg h2]
      by_cases h3 : sp V o + fN V o ≤ p
      · rw [if_pos h3, oi_n (fun x => by have := x.2.2; omega)]
      · rw [if_neg h3, oi_p ⟨h1, by omega, by omega⟩]
  · rw [if_neg h1, oi_n (fun x => h1 x.1)]
theorem m_isBeside (hM : MS K ra mo r) (hV : vr ra mo r = V) (hW : WB V) {t o i p : Nat} (ht : t < tN V) (ho : o < tN V) (hs : st V o) (hi : i < 40) (hp : p < 300) : f_X7_isBeside K z r mo (nI t) (nI o) (nI i) (nI p) = some (oi (besd V t o i p)) := by
  have htl : t < 200 := Nat.lt_of_lt_of_le ht (WB_2 hW)
  have hol : o < 200 := Nat.lt_of_lt_of_le ho (WB_2 hW)
  obtain ⟨s1, s2, s3, s4⟩ := WB_11 hW ho hs
  obtain ⟨e10, f1, f2⟩ := WB_6 hW ht
  obtain ⟨e11, f3, f4⟩ := WB_6 hW ho
  have hpl := (WB_7 hW s2).2
  unfold f_X7_isBeside
  simp only [zq_28 hM, zq_29 hM, zq_10 hM, zx_2 htl, zx_2 hol, cl_ (show t < 8000 by omega), cl_ (show o < 8000 by omega), rd_10 (ra := ra) (mo := mo), rd_28 (ra := ra) (mo := mo), rd_29 (ra := ra) (mo := mo), hV, m_endOf hM hV hW ho hs, zb_s]
  rw [s1, s3, e10, nI_add, iEQ (by omega) (by omega), iEQ (by omega) (by omega), iEQ (by omega) (by omega)]
  by_cases h1 : sr V o = i
  · rw [if_pos h1]
    by_cases h2 : sp V o + fN V o = p
    · rw [if_pos h2, oi_p ⟨h1, Or.inl h2⟩]
    · rw [if_neg h2]
      by_cases h3 : sp V o = p + fN V t
      · rw [if_pos h3, oi_p ⟨h1, Or.inr h3⟩]
      · rw [if_neg h3, oi_n (fun x => by have := x.2; omega)]
  · rw [if_neg h1, oi_n (fun x => h1 x.1)]
theorem m_isOpposite (hM : MS K ra mo r) (hV : vr ra mo r = V) (hW : WB V) {t o i p : Nat} (ht : t < tN V) (ho : o < tN V) (hs : st V o) (hi : i < 40) (hp : p < 300) : f_X7_isOpposite K z r mo (nI t) (nI o) (nI i) (nI p) = some (oi (oppo V t o i p)) := by
  have htl : t < 200 := Nat.lt_of_lt_of_le ht (WB_2 hW)
  have hol : o < 200 := Nat.lt_of_lt_of_le ho (WB_2 hW)
  obtain ⟨s1, s2, s3, s4⟩ := WB_11 hW ho hs
  obtain ⟨e10, f1, f2⟩ := WB_6 hW ht
  obtain ⟨e11, f3, f4⟩ := WB_6 hW ho
  have hpl := (WB_7 hW s2).2
  unfold f_X7_isOpposite
  simp only [zq_28 hM, zq_29 hM, zq_10 hM, zx_2 htl, zx_2 hol, cl_ (show t < 8000 by omega), cl_ (show o < 8000 by omega), rd_10 (ra := ra) (mo := mo), rd_28 (ra := ra) (mo := mo), rd_29 (ra := ra) (mo := mo), hV, m_endOf hM hV hW ho hs, zb_s]
  rw [s1, s3, e10, nI_add, iLE (by omega) (by omega), iLE (by omega) (by omega)]
  by_cases h1 : nI (sr V o) ^^^ 1 = nI i
  · rw [if_pos h1]
    by_cases h2 : p + fN V t ≤ sp V o
    · rw [if_pos h2, oi_n (fun x => by have := x.2.1; omega)]
    · rw [if_neg h2]
      by_cases h3 : sp V o + fN V o ≤ p
      · rw [if_pos h3, oi_n (fun x => by have := x.2.2; omega)]
      · rw [if_neg h3, oi_p ⟨h1, by omega, by omega⟩]
  · rw [if_neg h1, oi_n (fun x => h1 x.1)]
theorem sub_le6 {a b c : Nat} (ha : a < 1000) (hb : b < 1000) (hc : c < 1000) : (6 ≤ nI a - nI b - nI c) = (b + c + 6 ≤ a) := by
  have e : nI a - nI b - nI c = Int32.ofInt ((a : Int) - b - c) := by
    rw [nI, nI, nI, ← Int32.ofInt_eq_ofNat, ← Int32.ofInt_eq_ofNat, ← Int32.ofInt_eq_ofNat, ← Int32.ofInt_sub, ← Int32.ofInt_sub]
  rw [e, Int32.le_iff_toInt_le, Int32.toInt_ofInt_of_le (by omega) (by omega)]
  have : (6 : Int32).toInt = 6 := by decide
  rw [this]
  exact propext ⟨fun h => by omega, fun h => by omega⟩
theorem m_isNear (hM : MS K ra mo r) (hV : vr ra mo r = V) (hW : WB V) {t o i p : Nat} (ht : t < tN V) (ho : o < tN V) (hs : st V o) (hi : i < 40) (hp : p < 300) : f_X7_isNear K z r mo (nI t) (nI o) (nI i) (nI p) = some (oi (near V t o i p)) := by
  have htl : t < 200 := Nat.lt_of_lt_of_le ht (WB_2 hW)
  have hol : o < 200 := Nat.lt_of_lt_of_le ho (WB_2 hW)
  obtain ⟨s1, s2, s3, s4⟩ := WB_11 hW ho hs
  obtain ⟨e10, f1, f2⟩ := WB_6 hW ht
  obtain ⟨e11, f3, f4⟩ := WB_6 hW ho
  have hpl := (WB_7 hW s2).2
  unfold f_X7_isNear f_X7_isNear_50
  simp only [zq_28 hM, zq_29 hM, zq_10 hM, zx_2 htl, zx_2 hol, cl_ (show t < 8000 by omega), cl_ (show o < 8000 by omega), rd_10 (ra := ra) (mo := mo), rd_28 (ra := ra) (mo := mo), rd_29 (ra := ra) (mo := mo), hV, m_endOf hM hV hW ho hs, zb_s]
  rw [s1, s3, e10, iEQ (by omega) (by omega), iLT (by omega) (by omega)]
  by_cases h1 : sr V o = i
  · rw [if_pos h1]
    by_cases h2 : sp V o < p
    · have e5 : nI p - nI (sp V o + fN V o) = nI p - nI (sp V o + fN V o) - nI 0 := by rw [nI_0]; exact (Int32.sub_zero _).symm
      rw [if_pos h2, e5, iP (sub_le6 (by omega) (by omega) (by omega))]
      by_cases h3 : sp V o + fN V o + 0 + 6 ≤ p
      · rw [if_pos h3, oi_n (fun x => by have := x.2.2; omega)]
      · rw [if_neg h3, oi_p ⟨h1, by omega, by omega⟩]
    · rw [if_neg h2, iP (sub_le6 (by omega) (by omega) (by omega))]
      by_cases h3 : p + fN V t + 6 ≤ sp V o
      · rw [if_pos h3, oi_n (fun x => by have := x.2.1; omega)]
      · rw [if_neg h3, oi_p ⟨h1, by omega, by omega⟩]
  · rw [if_neg h1, oi_n (fun x => h1 x.1)]
theorem m_arePaired (hM : MS K ra mo r) (hV : vr ra mo r = V) (hW : WB V) {t o : Nat} (ht : t < tN V) (ho : o < tN V) : f_X7_arePaired K z r mo (nI t) (nI o) = some (oi (pd V t o)) := by
  have htl : t < 200 := Nat.lt_of_lt_of_le ht (WB_2 hW)
  have hol : o < 200 := Nat.lt_of_lt_of_le ho (WB_2 hW)
  obtain ⟨t1, t2⟩ := WB_5 hW ht
  obtain ⟨o1, o2⟩ := WB_5 hW ho
  have hr := WB_4 hW
  unfold f_X7_arePaired
  simp only [zq_6 hM, zq_9 hM, zx_2 htl, zx_2 hol, cl_ (show t < 8000 by omega), cl_ (show o < 8000 by omega), rd_9 (ra := ra) (mo := mo), hV]
  have e : 20 * V.1 9 t + V.1 9 o = nI (20 * tr V t + tr V o) := by rw [t1, o1, n20, pk_mul, nI_add]
  rw [e]
  simp only [cl_ (show 20 * tr V t + tr V o < 8000 by omega), rd_6 (ra := ra) (mo := mo), hV]
  rw [zx_400 (by omega), zz_p (WB_9 hW (by omega))]
  rcases WB_9 hW (q := 20 * tr V t + tr V o) (by omega) with h | h
  · rw [h, oi_n (show ¬ pd V t o from fun x => x h)]
  · have hp : pd V t o := fun x => by rw [h] at x; exact absurd x (by decide)
    rw [h, oi_p hp]
theorem m_isFire (hM : MS K ra mo r) (hV : vr ra mo r = V) (hW : WB V) {t o i p : Nat} (ht : t < tN V) (ho : o < tN V) (hs : st V o) (hi : i < 40) (hp : p < 300) : f_X7_isFire K z r mo (nI t) (nI o) (nI i) (nI p) = some (oi (fire V t o ∧ near V t o i p)) := by
  have htl : t < 200 := Nat.lt_of_lt_of_le ht (WB_2 hW)
  have hol : o < 200 := Nat.lt_of_lt_of_le ho (WB_2 hW)
  obtain ⟨t1, t2⟩ := WB_5 hW ht
  obtain ⟨o1, o2⟩ := WB_5 hW ho
  have hr := WB_4 hW
  have hto : tr V o < 20 := by omega
  have htt : tr V t < 20 := by omega
  have key : f_X7_isFire_82 K z r mo (nI t) (nI o) (nI i) (nI p) = some (oi (near V t o i p)) := by
    unfold f_X7_isFire_82
    rw [m_isNear hM hV hW ht ho hs hi hp, zb_s]
    by_cases h : near V t o i p
    · rw [oi_p h, if_neg (by decide)]
    · rw [oi_n h, if_pos rfl]
  unfold f_X7_isFire f_X7_isFire_28 f_X7_isFire_29 f_X7_isFire_69 f_X7_isFire_70
  simp only [zq_5 hM, zq_8 hM, zq_9 hM, zx_2 htl, zx_2 hol, cl_ (show t < 8000 by omega), cl_ (show o < 8000 by omega), rd_8 (ra := ra) (mo := mo), rd_9 (ra := ra) (mo := mo), rd_5 (ra := ra) (mo := mo), hV, t1, o1, zx_20 hto, zx_20 htt, cl_ (show tr V t < 8000 by omega), cl_ (show tr V o < 8000 by omega), i10, reduceIte, key]
  by_cases h1 : V.1 8 t = 3
  · simp only [h1, reduceIte]
    by_cases h2 : V.1 5 (tr V o) = 0
    · rw [if_pos h2, oi_n]
      rintro ⟨h3 | h3, -⟩
      · exact h3.2 h2
      · exact h3.1 h1
    · rw [if_neg h2]
      congr 1
      exact oi_c ⟨fun x => ⟨Or.inl ⟨h1, h2⟩, x⟩, fun x => x.2⟩
  · rw [if_neg h1, if_neg h1]
    by_cases h2 : V.1 5 (tr V t) = 0
    · rw [if_pos h2, oi_n]
      rintro ⟨h3 | h3, -⟩
      · exact h1 h3.1
      · exact h3.2.1 h2
    · rw [if_neg h2]
      by_cases h4 : V.1 8 o = 3
      · rw [if_pos h4]
        congr 1
        exact oi_c ⟨fun x => ⟨Or.inr ⟨h1, h2, h4⟩, x⟩, fun x => x.2⟩
      · rw [if_neg h4, oi_n]
        rintro ⟨h3 | h3, -⟩
        · exact h1 h3.1
        · exact h4 h3.2.2
end M1
