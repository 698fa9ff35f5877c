/-! each kind of call: class and reference answer alike -/
def IN (ms mo ou : Nat) (ra : Nat → Nat) (n : Nat) (K : Nat → Nat) (_L : List Nat) (c r : zS) : Prop := K ms = 6 ∧ K mo = 7 ∧ K ou = 17 ∧ ∃ A, RC K A c (vr ra mo r) ms ∧ WV (400 * n) (vr ra mo r) ∧ MS K ra mo r
section SB
variable {K : Nat → Nat} {A : Nat → Nat → Nat} {ra : Nat → Nat} {c r : zS} {V : zV} {ms mo ou z n : Nat} {L : List Nat}
theorem IN_mk {V' : zV} {c' r' : zS} (q1 : K ms = 6) (q2 : K mo = 7) (q3 : K ou = 17) (h : RC K A c' V' ms) (hW : WV (400 * n) V') (hM : MS K ra mo r') (hV : vr ra mo r' = V') : IN ms mo ou ra n K L c' r' := ⟨q1, q2, q3, A, by rw [hV]; exact h, by rw [hV]; exact hW, hM⟩
theorem RC_zl (h : RC K A c V ms) {a : Nat} {x : Int64} : RC K A (zul c 170 a 0 x) V ms := by
  have Ez : ∀ g, g ≠ 1000 → zi (zul c 170 a 0 x) g = zi c g := fun _ _ => rfl
  have El : ∀ g, g ≠ 170 → zl (zul c 170 a 0 x) g = zl c g := fun g hg => zl_o hg
  have Er : ∀ g, g ≠ 1000 → zr (zul c 170 a 0 x) g = zr c g := fun _ _ => rfl
  have E : ∀ g, g ≠ 200 → V.1 g = V.1 g := fun _ _ => rfl
  have E2 : ∀ g, g ≠ 200 → V.2 g = V.2 g := fun _ _ => rfl
  exact ⟨h.1, R1_c (E 7 (by decide)) (E 35 (by decide)) (C1 h), R2_c (Er 0 (by decide)) (Er 1 (by decide)) (Er 120 (by decide)) (Er 121 (by decide)) (Er 122 (by decide)) (Er 123 (by decide)) (Er 124 (by decide)) (Er 143 (by decide)) (C2 h), R3_c (Er 144 (by decide)) (Er 145 (by decide)) (E 7 (by decide)) (E 35 (by decide)) (C3 h), R4_c (Er 40 (by decide)) (Er 81 (by decide)) (Er 83 (by decide)) (Er 84 (by decide)) (Er 85 (by decide)) (Er 100 (by decide)) (Er 101 (by decide)) (E 9 (by decide)) (E 35 (by decide)) (C4 h), R5_c (Ez 20 (by decide)) (Ez 21 (by decide)) (Ez 22 (by decide)) (Ez 41 (by decide)) (Ez 42 (by decide)) (Ez 44 (by decide)) (Ez 45 (by decide)) (Ez 46 (by decide)) (Ez 82 (by decide)) (Ez 86 (by decide)) (Ez 87 (by decide)) (Ez 88 (by decide)) (Ez 89 (by decide)) (Ez 90 (by decide)) (Ez 91 (by decide)) (Ez 92 (by decide)) (Ez 102 (by decide)) (Ez 103 (by decide)) (E 8 (by decide)) (E 10 (by decide)) (E 11 (by decide)) (E 12 (by decide)) (E 13 (by decide)) (E 14 (by decide)) (E 15 (by decide)) (E 18 (by decide)) (E 19 (by decide)) (E 20 (by decide)) (E 21 (by decide)) (E 23 (by decide)) (E 24 (by decide)) (E 25 (by decide)) (E 27 (by decide)) (E 28 (by decide)) (E 29 (by decide)) (E 30 (by decide)) (E 31 (by decide)) (E 32 (by decide)) (E 33 (by decide)) (E 35 (by decide)) (C5 h), R6_c (Ez 141 (by decide)) (Ez 142 (by decide)) (E 16 (by decide)) (E 17 (by decide)) (E 35 (by decide)) (C6 h), R7_c (Ez 2 (by decide)) (Ez 140 (by decide)) (E 1 (by decide)) (E 2 (by decide)) (C7 h), R8_c (Ez 60 (by decide)) (Ez 61 (by decide)) (Ez 62 (by decide)) (Ez 63 (by decide)) (Ez 64 (by decide)) (E 3 (by decide)) (E 4 (by decide)) (E 5 (by decide)) (E 6 (by decide)) (E 7 (by decide)) (C8 h), R9_c (Ez 43 (by decide)) (Ez 80 (by decide)) (El 93 (by decide)) (E 21 (by decide)) (E 22 (by decide)) (E 35 (by decide)) (E2 34 (by decide)) (C9 h), R10_c (Ez 125 (by decide)) (Ez 126 (by decide)) (Ez 127 (by decide)) (Ez 128 (by decide)) (Ez 129 (by decide)) (Ez 130 (by decide)) (Ez 131 (by decide)) (El 134 (by decide)) (El 135 (by decide)) (El 136 (by decide)) (El 137 (by decide)) (E 7 (by decide)) (E 35 (by decide)) (E 36 (by decide)) (E 37 (by decide)) (E 38 (by decide)) (E 39 (by decide)) (E 40 (by decide)) (E 41 (by decide)) (E 42 (by decide)) (E2 43 (by decide)) (E2 44 (by decide)) (C10 h), R11_c (Ez 65 (by decide)) (E 7 (by decide)) (E 9 (by decide)) (E 27 (by decide)) (E 35 (by decide)) (C11 h), R12_c (Ez 132 (by decide)) (Ez 133 (by decide)) (E 8 (by decide)) (E 27 (by decide)) (E 35 (by decide)) (C12 h), R13_c (Er 148 (by decide)) (E 10 (by decide)) (E 27 (by decide)) (E 28 (by decide)) (E 29 (by decide)) (E 35 (by decide)) (C13 h), R14_c (Er 146 (by decide)) (E 11 (by decide)) (E 35 (by decide)) (C14 h), R15_c (Ez 47 (by decide)) (E 35 (by decide)) (E 60 (by decide)) (C15 h)⟩
theorem m_thr0 {e : Int32} : f_X7_throwsIf K z r mo 0 e = some (0, r) := by unfold f_X7_throwsIf; rw [if_pos rfl, zz_0]
theorem m_thr1 {e : Int32} : f_X7_throwsIf K z r mo 1 e = some (1, zui r 0 mo 0 e) := by unfold f_X7_throwsIf; rw [if_neg (by decide), zlet, zz_1]
theorem zi_thr {e : Int32} : zi (zui r 0 mo 0 e) 0 mo 0 = e := by rw [zi_zui, if_pos ⟨rfl, rfl, rfl⟩]
theorem m_noTr (hV : vr ra mo r = V) (hW : WB V) {t : Nat} (ht : t < tN V) : f_X7_noTrader K z r mo (nI t) = some 0 := by
  have := WB_2 hW
  unfold f_X7_noTrader
  rw [if_neg (nI_pos (by omega)), rd_35 (ra := ra) (mo := mo), hV, WB_1 hW, if_pos (nI_lt ht (by omega))]
theorem m_noTrO (hV : vr ra mo r = V) {p : Int32} (hp : p < 0 ∨ (¬ p < 0 ∧ ¬ p < V.1 35 0 ∧ V.1 35 0 ≤ p)) : f_X7_noTrader K z r mo p = some 1 := by
  unfold f_X7_noTrader
  rcases hp with hp | hp
  · rw [if_pos hp]
  · rw [if_neg hp.1, rd_35 (ra := ra) (mo := mo), hV, if_neg hp.2.1]
theorem m_noTd (hV : vr ra mo r = V) (hW : WB V) {t : Nat} (ht : t < rN V) : f_X7_noTrade K z r mo (nI t) = some 0 := by
  have := WB_4 hW
  unfold f_X7_noTrade
  rw [if_neg (nI_pos (by omega)), rd_7 (ra := ra) (mo := mo), hV, WB_3 hW, if_pos (nI_lt ht (by omega))]
theorem m_noTdO (hV : vr ra mo r = V) {p : Int32} (hp : p < 0 ∨ (¬ p < 0 ∧ ¬ p < V.1 7 0 ∧ V.1 7 0 ≤ p)) : f_X7_noTrade K z r mo p = some 1 := by
  unfold f_X7_noTrade
  rcases hp with hp | hp
  · rw [if_pos hp]
  · rw [if_neg hp.1, rd_7 (ra := ra) (mo := mo), hV, if_neg hp.2.1]
theorem m_noRowI {i : Nat} (hi : i < 40) : f_X7_noRow K z r (nI i) = some 0 := by
  unfold f_X7_noRow
  rw [if_neg (nI_pos (by omega)), if_pos (show nI i < 40 from nI_lt hi (by decide))]
theorem k_trIn (h : RC K A c V ms) (hW : WB V) {t : Nat} (ht : t < tN V) : f_X6_knownTrader K z c ms (nI t) = some (.inl (some (A 4 t))) := by
  have hN := WB_2 hW
  unfold f_X6_knownTrader f_X6_knownTrader_21
  have h1 : ¬ (200 : Int32) ≤ nI t := nI_ge (show t < 200 by omega) (by decide)
  rw [if_neg (nI_pos (by omega)), if_neg h1, kn_122 h, zx_2 (by omega), zlet, cl_ (by omega), (C3 h).2 t (by omega), if_pos ht, zo_s (K4 h ht)]
theorem k_trOut (h : RC K A c V ms) (hW : WB V) {p : Int32} (hp : p < 0 ∨ (¬ p < 0 ∧ ¬ p < V.1 35 0 ∧ V.1 35 0 ≤ p)) : f_X6_knownTrader K z c ms p = some (.inr 1) := by
  have hN := WB_2 hW
  unfold f_X6_knownTrader f_X6_knownTrader_20 f_X6_knownTrader_21
  rcases hp with hp | hp
  · rw [if_pos hp, zo_n]
  · rw [if_neg hp.1]
    by_cases h1 : (200 : Int32) ≤ p
    · rw [if_pos h1, zo_n]
    · rw [if_neg h1]
      obtain ⟨j, hj, rfl⟩ := nI_of hp.1
      have hj2 : j < 200 := by
        rcases Nat.lt_or_ge j 200 with x | x
        · exact x
        · exact absurd (nI_le (a := 200) x hj) h1
      have hj3 : ¬ j < tN V := fun x => hp.2.1 (by rw [WB_1 hW]; exact nI_lt x (by omega))
      rw [kn_122 h, zx_2 hj2, zlet, cl_ (by omega), (C3 h).2 j hj2, if_neg hj3, zo_n]
theorem k_tdIn (h : RC K A c V ms) (hW : WB V) {t : Nat} (ht : t < rN V) : f_X6_knownTrade K z c ms (nI t) = some (.inl (some (A 3 t))) := by
  have hN := WB_4 hW
  unfold f_X6_knownTrade f_X6_knownTrade_20
  have h1 : ¬ (20 : Int32) ≤ nI t := nI_ge (show t < 20 by omega) (by decide)
  rw [if_neg (nI_pos (by omega)), if_neg h1, kn_121 h, zx_20 (by omega), zlet, cl_ (by omega), (C3 h).1 t (by omega), if_pos ht, zo_s ((C1 h).2.1 t ht)]
theorem k_tdOut (h : RC K A c V ms) (hW : WB V) {p : Int32} (hp : p < 0 ∨ (¬ p < 0 ∧ ¬ p < V.1 7 0 ∧ V.1 7 0 ≤ p)) : f_X6_knownTrade K z c ms p = some (.inr 1) := by
  have hN := WB_4 hW
  unfold f_X6_knownTrade f_X6_knownTrade_19 f_X6_knownTrade_20
  rcases hp with hp | hp
  · rw [if_pos hp, zo_n]
  · rw [if_neg hp.1]
    by_cases h1 : (20 : Int32) ≤ p
    · rw [if_pos h1, zo_n]
    · rw [if_neg h1]
      obtain ⟨j, hj, rfl⟩ := nI_of hp.1
      have hj2 : j < 20 := by
        rcases Nat.lt_or_ge j 20 with x | x
        · exact x
        · exact absurd (nI_le (a := 20) x hj) h1
      have hj3 : ¬ j < rN V := fun x => hp.2.1 (by rw [WB_3 hW]; exact nI_lt x (by omega))
      rw [kn_121 h, zx_20 hj2, zlet, cl_ (by omega), (C3 h).1 j hj2, if_neg hj3, zo_n]
theorem k_rwIn (h : RC K A c V ms) {i : Nat} (hi : i < 40) : f_X6_knownRow K z c ms (nI i) = some (.inl (some (A 0 i))) := by
  unfold f_X6_knownRow
  rw [k_row h hi, zb_s, zo_s ((C1 h).1 i hi).1]
theorem k_rwOut {p : Int32} (hp : p < 0 ∨ (¬ p < 0 ∧ ¬ p < 40 ∧ 40 ≤ p)) : f_X6_knownRow K z c ms p = some (.inr 1) := by
  unfold f_X6_knownRow
  rw [k_rowO hp, zb_s, zo_n]
theorem k_tm (h : RC K A c V ms) (a b : Int32) : f_X6_needTime K z c ms a b = (if V.1 37 0 < a then some (.inr 3) else if V.1 37 0 ≤ b then some (.inl ()) else some (.inr 3)) := by
  unfold f_X6_needTime
  rw [(C10 h).2.2.2.1]
theorem tm4 {n : Nat} (hW : WV n V) : V.1 37 0 = 0 ∨ V.1 37 0 = 1 ∨ V.1 37 0 = 2 ∨ V.1 37 0 = 3 := by
  obtain ⟨k, hk, e⟩ := WV_14 hW
  rw [e]
  rcases (show k = 0 ∨ k = 1 ∨ k = 2 ∨ k = 3 by omega) with rfl | rfl | rfl | rfl
  · exact Or.inl rfl
  · exact Or.inr (Or.inl rfl)
  · exact Or.inr (Or.inr (Or.inl rfl))
  · exact Or.inr (Or.inr (Or.inr rfl))
theorem tr_in (hW : WB V) (p : Int32) : (∃ t, t < tN V ∧ p = nI t) ∨ p < 0 ∨ (¬ p < 0 ∧ ¬ p < V.1 35 0 ∧ V.1 35 0 ≤ p) := in_of (WB_1 hW) (by have := WB_2 hW; omega)
theorem td_in (hW : WB V) (p : Int32) : (∃ t, t < rN V ∧ p = nI t) ∨ p < 0 ∨ (¬ p < 0 ∧ ¬ p < V.1 7 0 ∧ V.1 7 0 ≤ p) := in_of (WB_3 hW) (by have := WB_4 hW; omega)
end SB
