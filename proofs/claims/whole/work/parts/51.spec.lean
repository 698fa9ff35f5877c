/-! what is asked of the state: in the reference's slots, by the document's words -/
theorem i10 : ((1 : Int32) = 0) = False := eq_false (by decide)
theorem i01 : ((0 : Int32) = 1) = False := eq_false (by decide)
def tN (V : zV) : Nat := (V.1 35 0).toNatClampNeg
def rN (V : zV) : Nat := (V.1 7 0).toNatClampNeg
def fN (V : zV) (t : Nat) : Nat := (V.1 10 t).toNatClampNeg
def tr (V : zV) (t : Nat) : Nat := (V.1 9 t).toNatClampNeg
def sr (V : zV) (t : Nat) : Nat := (V.1 28 t).toNatClampNeg
def sp (V : zV) (t : Nat) : Nat := (V.1 29 t).toNatClampNeg
def pl (V : zV) (i : Nat) : Nat := (V.1 1 i).toNatClampNeg
def wN (V : zV) (t : Nat) : Nat := (V.1 18 t).toNatClampNeg
def st (V : zV) (o : Nat) : Prop := ¬ V.1 27 o = 0
/-- what holds of the state at all times (n: no more ranks, losses and gifts than that) -/
def W1 (V : zV) : Prop := V.1 35 0 = nI (tN V)
def W2 (V : zV) : Prop := tN V ≤ 200
def W3 (V : zV) : Prop := V.1 7 0 = nI (rN V)
def W4 (V : zV) : Prop := rN V ≤ 20
def W5 (V : zV) : Prop := ∀ t, t < tN V → V.1 9 t = nI (tr V t) ∧ tr V t < rN V
def W6 (V : zV) : Prop := ∀ t, t < tN V → V.1 10 t = nI (fN V t) ∧ 1 ≤ fN V t ∧ fN V t ≤ 20
def W7 (V : zV) : Prop := ∀ i, i < 40 → V.1 1 i = nI (pl V i) ∧ pl V i ≤ 200
def W8 (V : zV) : Prop := ∀ q, q < 8000 → ∃ m, m < 8 ∧ V.1 2 q = nI m
def W9 (V : zV) : Prop := ∀ q, q < 400 → V.1 6 q = 0 ∨ V.1 6 q = 1
def W10 (V : zV) : Prop := ∀ j, j < 20 → V.1 5 j = 0 ∨ V.1 5 j = 1
def W11 (V : zV) : Prop := ∀ t, t < tN V → st V t → V.1 28 t = nI (sr V t) ∧ sr V t < 40 ∧ V.1 29 t = nI (sp V t) ∧ sp V t + fN V t ≤ pl V (sr V t) ∧ V.1 27 t = 1
def W12 (V : zV) : Prop := ∀ a b, a < tN V → b < tN V → a ≠ b → st V a → st V b → sr V a = sr V b → sp V a + fN V a ≤ sp V b ∨ sp V b + fN V b ≤ sp V a
def W13 (V : zV) : Prop := ∀ t, t < tN V → (V.1 23 t = 0 ∨ V.1 23 t = 1) ∧ (V.1 21 t = 0 ∨ V.1 21 t = 1)
def W14 (V : zV) : Prop := ∃ k, k < 4 ∧ V.1 37 0 = nI k
def W15 (V : zV) : Prop := V.1 37 0 = 0 → ∀ t, t < 200 → V.1 21 t = 0 ∧ V.1 22 t = 0 ∧ V.1 23 t = 0 ∧ V.1 24 t = 0 ∧ V.1 25 t = 0 ∧ V.1 26 t = 0 ∧ V.1 27 t = 0
def W16 (V : zV) : Prop := V.1 37 0 = 1 → ∀ t, t < 200 → V.1 25 t = 0 ∧ V.1 26 t = 0 ∧ V.1 27 t = 0
def W17 (V : zV) : Prop := ∀ t, t < tN V → (¬ V.1 26 t = 0 ↔ st V t ∨ ¬ V.1 25 t = 0)
def W18 (V : zV) : Prop := ∀ t, t < tN V → (∃ m, m < 256 ∧ V.1 31 t = nI m) ∧ ∃ m, m < 256 ∧ V.1 32 t = nI m
def W19 (n : Nat) (V : zV) : Prop := ∃ q, q ≤ n ∧ V.1 36 0 = nI q ∧ ∀ t, t < tN V → ∃ k, k < q ∧ V.1 11 t = nI k
def W20 (V : zV) : Prop := ∀ a b, a < tN V → b < tN V → a ≠ b → V.1 11 a ≠ V.1 11 b
def W21 (n : Nat) (V : zV) : Prop := ∃ a b, a ≤ n ∧ b ≤ n ∧ V.1 41 0 = nI a ∧ V.1 42 0 = nI b
def W22 (V : zV) : Prop := ∀ t, t < tN V → V.1 18 t = nI (wN V t) ∧ wN V t ≤ 12
def W23 (V : zV) : Prop := ∀ t, tN V ≤ t → t < 200 → V.1 12 t = 0 ∧ V.1 13 t = 0 ∧ V.1 14 t = 0 ∧ V.1 18 t = 0 ∧ V.1 19 t = 0 ∧ V.1 20 t = 0 ∧ V.1 21 t = 0 ∧ V.1 22 t = 0 ∧ V.1 23 t = 0 ∧ V.1 24 t = 0 ∧ V.1 25 t = 0 ∧ V.1 26 t = 0 ∧ V.1 27 t = 0 ∧ V.1 28 t = 0 ∧ V.1 29 t = 0 ∧ V.1 30 t = 0 ∧ V.1 31 t = 0 ∧ V.1 32 t = 0 ∧ V.2 34 t = 0 ∧ ∀ k, k < 12 → V.1 16 (12 * t + k) = 0 ∧ V.1 17 (12 * t + k) = 0
def W24 (V : zV) : Prop := ∀ j k, j < 20 → k < 20 → V.1 6 (20 * j + k) = V.1 6 (20 * k + j) ∧ (rN V ≤ j → V.1 6 (20 * j + k) = 0 ∧ V.1 6 (20 * k + j) = 0)
/-- what holds also amid a call -/
def WB (V : zV) : Prop := W1 V ∧ W2 V ∧ W3 V ∧ W4 V ∧ W5 V ∧ W6 V ∧ W7 V ∧ W8 V ∧ W9 V ∧ W10 V ∧ W11 V ∧ W12 V ∧ W13 V ∧ W18 V ∧ W20 V ∧ W22 V ∧ W23 V ∧ W24 V
def WV (n : Nat) (V : zV) : Prop := WB V ∧ W14 V ∧ W15 V ∧ W16 V ∧ W17 V ∧ W19 n V ∧ W21 n V
section WP
variable {n : Nat} {V V' : zV}
theorem WB_1 (h : WB V) : V.1 35 0 = nI (tN V) := h.1
theorem W1_c (e35 : V'.1 35 = V.1 35) (h : W1 V) : W1 V' := by
  unfold W1 at h ⊢
  first | (simp only [tN, rN, fN, tr, sr, sp, pl, wN, st, e35] at h ⊢; exact h) | (simp only [tN, rN, fN, tr, sr, sp, pl, wN, st, e35]; exact h)
theorem WB_2 (h : WB V) : tN V ≤ 200 := h.2.1
theorem W2_c (e35 : V'.1 35 = V.1 35) (h : W2 V) : W2 V' := by
  unfold W2 at h ⊢
  first | (simp only [tN, rN, fN, tr, sr, sp, pl, wN, st, e35] at h ⊢; exact h) | (simp only [tN, rN, fN, tr, sr, sp, pl, wN, st, e35]; exact h)
theorem WB_3 (h : WB V) : V.1 7 0 = nI (rN V) := h.2.2.1
theorem W3_c (e7 : V'.1 7 = V.1 7) (h : W3 V) : W3 V' := by
  unfold W3 at h ⊢
  first | (simp only [tN, rN, fN, tr, sr, sp, pl, wN, st, e7] at h ⊢; exact h) | (simp only [tN, rN, fN, tr, sr, sp, pl, wN, st, e7]; exact h)
theorem WB_4 (h : WB V) : rN V ≤ 20 := h.2.2.2.1
theorem W4_c (e7 : V'.1 7 = V.1 7) (h : W4 V) : W4 V' := by
  unfold W4 at h ⊢
  first | (simp only [tN, rN, fN, tr, sr, sp, pl, wN, st, e7] at h ⊢; exact h) | (simp only [tN, rN, fN, tr, sr, sp, pl, wN, st, e7]; exact h)
theorem WB_5 (h : WB V) {t : Nat} (ht : t < tN V) : V.1 9 t = nI (tr V t) ∧ tr V t < rN V := h.2.2.2.2.1 t ht
theorem W5_c (e7 : V'.1 7 = V.1 7) (e9 : V'.1 9 = V.1 9) (e35 : V'.1 35 = V.1 35) (h : W5 V) : W5 V' := by
  unfold W5 at h ⊢
  first | (simp only [tN, rN, fN, tr, sr, sp, pl, wN, st, e7, e9, e35] at h ⊢; exact h) | (simp only [tN, rN, fN, tr, sr, sp, pl, wN, st, e7, e9, e35]; exact h)
theorem WB_6 (h : WB V) {t : Nat} (ht : t < tN V) : V.1 10 t = nI (fN V t) ∧ 1 ≤ fN V t ∧ fN V t ≤ 20 := h.2.2.2.2.2.1 t ht
theorem W6_c (e10 : V'.1 10 = V.1 10) (e35 : V'.1 35 = V.1 35) (h : W6 V) : W6 V' := by
  unfold W6 at h ⊢
  first | (simp only [tN, rN, fN, tr, sr, sp, pl, wN, st, e10, e35] at h ⊢; exact h) | (simp only [tN, rN, fN, tr, sr, sp, pl, wN, st, e10, e35]; exact h)
theorem WB_7 (h : WB V) {i : Nat} (hi : i < 40) : V.1 1 i = nI (pl V i) ∧ pl V i ≤ 200 := h.2.2.2.2.2.2.1 i hi
theorem W7_c (e1 : V'.1 1 = V.1 1) (h : W7 V) : W7 V' := by
  unfold W7 at h ⊢
  first | (simp only [tN, rN, fN, tr, sr, sp, pl, wN, st, e1] at h ⊢; exact h) | (simp only [tN, rN, fN, tr, sr, sp, pl, wN, st, e1]; exact h)
theorem WB_8 (h : WB V) {q : Nat} (hq : q < 8000) : ∃ m, m < 8 ∧ V.1 2 q = nI m := h.2.2.2.2.2.2.2.1 q hq
theorem W8_c (e2 : V'.1 2 = V.1 2) (h : W8 V) : W8 V' := by
  unfold W8 at h ⊢
  first | (simp only [tN, rN, fN, tr, sr, sp, pl, wN, st, e2] at h ⊢; exact h) | (simp only [tN, rN, fN, tr, sr, sp, pl, wN, st, e2]; exact h)
theorem WB_9 (h : WB V) {q : Nat} (hq : q < 400) : V.1 6 q = 0 ∨ V.1 6 q = 1 := h.2.2.2.2.2.2.2.2.1 q hq
theorem W9_c (e6 : V'.1 6 = V.1 6) (h : W9 V) : W9 V' := by
  unfold W9 at h ⊢
  first | (simp only [tN, rN, fN, tr, sr, sp, pl, wN, st, e6] at h ⊢; exact h) | (simp only [tN, rN, fN, tr, sr, sp, pl, wN, st, e6]; exact h)
theorem WB_10 (h : WB V) {j : Nat} (hj : j < 20) : V.1 5 j = 0 ∨ V.1 5 j = 1 := h.2.2.2.2.2.2.2.2.2.1 j hj
theorem W10_c (e5 : V'.1 5 = V.1 5) (h : W10 V) : W10 V' := by
  unfold W10 at h ⊢
  first | (simp only [tN, rN, fN, tr, sr, sp, pl, wN, st, e5] at h ⊢; exact h) | (simp only [tN, rN, fN, tr, sr, sp, pl, wN, st, e5]; exact h)
theorem WB_11 (h : WB V) {t : Nat} (ht : t < tN V) (hs : st V t) : V.1 28 t = nI (sr V t) ∧ sr V t < 40 ∧ V.1 29 t = nI (sp V t) ∧ sp V t + fN V t ≤ pl V (sr V t) := ⟨(h.2.2.2.2.2.2.2.2.2.2.1 t ht hs).1, (h.2.2.2.2.2.2.2.2.2.2.1 t ht hs).2.1, (h.2.2.2.2.2.2.2.2.2.2.1 t ht hs).2.2.1, (h.2.2.2.2.2.2.2.2.2.2.1 t ht hs).2.2.2.1⟩
theorem WB_11b (h : WB V) {t : Nat} (ht : t < tN V) (hs : st V t) : V.1 27 t = 1 := (h.2.2.2.2.2.2.2.2.2.2.1 t ht hs).2.2.2.2
theorem W11_c (e1 : V'.1 1 = V.1 1) (e10 : V'.1 10 = V.1 10) (e27 : V'.1 27 = V.1 27) (e28 : V'.1 28 = V.1 28) (e29 : V'.1 29 = V.1 29) (e35 : V'.1 35 = V.1 35) (h : W11 V) : W11 V' := by
  unfold W11 at h ⊢
  first | (simp only [tN, rN, fN, tr, sr, sp, pl, wN, st, e1, e10, e27, e28, e29, e35] at h ⊢; exact h) | (simp only [tN, rN, fN, tr, sr, sp, pl, wN, st, e1, e10, e27, e28, e29, e35]; exact h)
theorem WB_12 (h : WB V) {a b : Nat} (ha : a < tN V) (hb : b < tN V) (hab : a ≠ b) (h1 : st V a) (h2 : st V b) (h3 : sr V a = sr V b) : sp V a + fN V a ≤ sp V b ∨ sp V b + fN V b ≤ sp V a := h.2.2.2.2.2.2.2.2.2.2.2.1 a b ha hb hab h1 h2 h3
theorem W12_c (e10 : V'.1 10 = V.1 10) (e27 : V'.1 27 = V.1 27) (e28 : V'.1 28 = V.1 28) (e29 : V'.1 29 = V.1 29) (e35 : V'.1 35 = V.1 35) (h : W12 V) : W12 V' := by
  unfold W12 at h ⊢
  first | (simp only [tN, rN, fN, tr, sr, sp, pl, wN, st, e10, e27, e28, e29, e35] at h ⊢; exact h) | (simp only [tN, rN, fN, tr, sr, sp, pl, wN, st, e10, e27, e28, e29, e35]; exact h)
theorem WB_13 (h : WB V) {t : Nat} (ht : t < tN V) : V.1 23 t = 0 ∨ V.1 23 t = 1 := (h.2.2.2.2.2.2.2.2.2.2.2.2.1 t ht).1
theorem WB_13b (h : WB V) {t : Nat} (ht : t < tN V) : V.1 21 t = 0 ∨ V.1 21 t = 1 := (h.2.2.2.2.2.2.2.2.2.2.2.2.1 t ht).2
theorem W13_c (e21 : V'.1 21 = V.1 21) (e23 : V'.1 23 = V.1 23) (e35 : V'.1 35 = V.1 35) (h : W13 V) : W13 V' := by
  unfold W13 at h ⊢
  first | (simp only [tN, rN, fN, tr, sr, sp, pl, wN, st, e21, e23, e35] at h ⊢; exact h) | (simp only [tN, rN, fN, tr, sr, sp, pl, wN, st, e21, e23, e35]; exact h)
theorem WV_14 (h : WV n V) : ∃ k, k < 4 ∧ V.1 37 0 = nI k := h.2.1
theorem W14_c (e37 : V'.1 37 = V.1 37) (h : W14 V) : W14 V' := by
  unfold W14 at h ⊢
  first | (simp only [tN, rN, fN, tr, sr, sp, pl, wN, st, e37] at h ⊢; exact h) | (simp only [tN, rN, fN, tr, sr, sp, pl, wN, st, e37]; exact h)
theorem WV_15 (h : WV n V) (h0 : V.1 37 0 = 0) {t : Nat} (ht : t < 200) : V.1 21 t = 0 ∧ V.1 22 t = 0 ∧ V.1 23 t = 0 ∧ V.1 24 t = 0 ∧ V.1 25 t = 0 ∧ V.1 26 t = 0 ∧ V.1 27 t = 0 := h.2.2.1 h0 t ht
theorem W15_c (e21 : V'.1 21 = V.1 21) (e22 : V'.1 22 = V.1 22) (e23 : V'.1 23 = V.1 23) (e24 : V'.1 24 = V.1 24) (e25 : V'.1 25 = V.1 25) (e26 : V'.1 26 = V.1 26) (e27 : V'.1 27 = V.1 27) (e37 : V'.1 37 = V.1 37) (h : W15 V) : W15 V' := by
  unfold W15 at h ⊢
  first | (simp only [tN, rN, fN, tr, sr, sp, pl, wN, st, e21, e22, e23, e24, e25, e26, e27, e37] at h ⊢; exact h) | (simp only [tN, rN, fN, tr, sr, sp, pl, wN, st, e21, e22, e23, e24, e25, e26, e27, e37]; exact h)
theorem WV_16 (h : WV n V) (h0 : V.1 37 0 = 1) {t : Nat} (ht : t < 200) : V.1 25 t = 0 ∧ V.1 26 t = 0 ∧ V.1 27 t = 0 := h.2.2.2.1 h0 t ht
theorem W16_c (e25 : V'.1 25 = V.1 25) (e26 : V'.1 26 = V.1 26) (e27 : V'.1 27 = V.1 27) (e37 : V'.1 37 = V.1 37) (h : W16 V) : W16 V' := by
  unfold W16 at h ⊢
  first | (simp only [tN, rN, fN, tr, sr, sp, pl, wN, st, e25, e26, e27, e37] at h ⊢; exact h) | (simp only [tN, rN, fN, tr, sr, sp, pl, wN, st, e25, e26, e27, e37]; exact h)
theorem WV_17 (h : WV n V) {t : Nat} (ht : t < tN V) : (¬ V.1 26 t = 0 ↔ st V t ∨ ¬ V.1 25 t = 0) := h.2.2.2.2.1 t ht
theorem W17_c (e25 : V'.1 25 = V.1 25) (e26 : V'.1 26 = V.1 26) (e27 : V'.1 27 = V.1 27) (e35 : V'.1 35 = V.1 35) (h : W17 V) : W17 V' := by
  unfold W17 at h ⊢
  first | (simp only [tN, rN, fN, tr, sr, sp, pl, wN, st, e25, e26, e27, e35] at h ⊢; exact h) | (simp only [tN, rN, fN, tr, sr, sp, pl, wN, st, e25, e26, e27, e35]; exact h)
theorem WB_18 (h : WB V) {t : Nat} (ht : t < tN V) : (∃ m, m < 256 ∧ V.1 31 t = nI m) ∧ ∃ m, m < 256 ∧ V.1 32 t = nI m := h.2.2.2.2.2.2.2.2.2.2.2.2.2.1 t ht
theorem W18_c (e31 : V'.1 31 = V.1 31) (e32 : V'.1 32 = V.1 32) (e35 : V'.1 35 = V.1 35) (h : W18 V) : W18 V' := by
  unfold W18 at h ⊢
  first | (simp only [tN, rN, fN, tr, sr, sp, pl, wN, st, e31, e32, e35] at h ⊢; exact h) | (simp only [tN, rN, fN, tr, sr, sp, pl, wN, st, e31, e32, e35]; exact h)
theorem WV_19 (h : WV n V) : ∃ q, q ≤ n ∧ V.1 36 0 = nI q ∧ ∀ t, t < tN V → ∃ k, k < q ∧ V.1 11 t = nI k := h.2.2.2.2.2.1
theorem W19_c (e11 : V'.1 11 = V.1 11) (e35 : V'.1 35 = V.1 35) (e36 : V'.1 36 = V.1 36) (h : W19 n V) : W19 n V' := by
  unfold W19 at h ⊢
  first | (simp only [tN, rN, fN, tr, sr, sp, pl, wN, st, e11, e35, e36] at h ⊢; exact h) | (simp only [tN, rN, fN, tr, sr, sp, pl, wN, st, e11, e35, e36]; exact h)
theorem WB_20 (h : WB V) {a b : Nat} (ha : a < tN V) (hb : b < tN V) (hab : a ≠ b) : V.1 11 a ≠ V.1 11 b := h.2.2.2.2.2.2.2.2.2.2.2.2.2.2.1 a b ha hb hab
theorem W20_c (e11 : V'.1 11 = V.1 11) (e35 : V'.1 35 = V.1 35) (h : W20 V) : W20 V' := by
  unfold W20 at h ⊢
  first | (simp only [tN, rN, fN, tr, sr, sp, pl, wN, st, e11, e35] at h ⊢; exact h) | (simp only [tN, rN, fN, tr, sr, sp, pl, wN, st, e11, e35]; exact h)
theorem WV_21 (h : WV n V) : ∃ a b, a ≤ n ∧ b ≤ n ∧ V.1 41 0 = nI a ∧ V.1 42 0 = nI b := h.2.2.2.2.2.2
theorem W21_c (e41 : V'.1 41 = V.1 41) (e42 : V'.1 42 = V.1 42) (h : W21 n V) : W21 n V' := by
  unfold W21 at h ⊢
  first | (simp only [tN, rN, fN, tr, sr, sp, pl, wN, st, e41, e42] at h ⊢; exact h) | (simp only [tN, rN, fN, tr, sr, sp, pl, wN, st, e41, e42]; exact h)
theorem WB_22 (h : WB V) {t : Nat} (ht : t < tN V) : V.1 18 t = nI (wN V t) ∧ wN V t ≤ 12 := h.2.2.2.2.2.2.2.2.2.2.2.2.2.2.2.1 t ht
theorem W22_c (e18 : V'.1 18 = V.1 18) (e35 : V'.1 35 = V.1 35) (h : W22 V) : W22 V' := by
  unfold W22 at h ⊢
  first | (simp only [tN, rN, fN, tr, sr, sp, pl, wN, st, e18, e35] at h ⊢; exact h) | (simp only [tN, rN, fN, tr, sr, sp, pl, wN, st, e18, e35]; exact h)
theorem WB_23 (h : WB V) {t : Nat} (ht : tN V ≤ t) (h2 : t < 200) : V.1 12 t = 0 ∧ V.1 13 t = 0 ∧ V.1 14 t = 0 ∧ V.1 18 t = 0 ∧ V.1 19 t = 0 ∧ V.1 20 t = 0 ∧ V.1 21 t = 0 ∧ V.1 22 t = 0 ∧ V.1 23 t = 0 ∧ V.1 24 t = 0 ∧ V.1 25 t = 0 ∧ V.1 26 t = 0 ∧ V.1 27 t = 0 ∧ V.1 28 t = 0 ∧ V.1 29 t = 0 ∧ V.1 30 t = 0 ∧ V.1 31 t = 0 ∧ V.1 32 t = 0 ∧ V.2 34 t = 0 ∧ ∀ k, k < 12 → V.1 16 (12 * t + k) = 0 ∧ V.1 17 (12 * t + k) = 0 := h.2.2.2.2.2.2.2.2.2.2.2.2.2.2.2.2.1 t ht h2
theorem W23_c (e12 : V'.1 12 = V.1 12) (e13 : V'.1 13 = V.1 13) (e14 : V'.1 14 = V.1 14) (e16 : V'.1 16 = V.1 16) (e17 : V'.1 17 = V.1 17) (e18 : V'.1 18 = V.1 18) (e19 : V'.1 19 = V.1 19) (e20 : V'.1 20 = V.1 20) (e21 : V'.1 21 = V.1 21) (e22 : V'.1 22 = V.1 22) (e23 : V'.1 23 = V.1 23) (e24 : V'.1 24 = V.1 24) (e25 : V'.1 25 = V.1 25) (e26 : V'.1 26 = V.1 26) (e27 : V'.1 27 = V.1 27) (e28 : V'.1 28 = V.1 28) (e29 : V'.1 29 = V.1 29) (e30 : V'.1 30 = V.1 30) (e31 : V'.1 31 = V.1 31) (e32 : V'.1 32 = V.1 32) (e35 : V'.1 35 = V.1 35) (g34 : V'.2 34 = V.2 34) (h : W23 V) : W23 V' := by
  unfold W23 at h ⊢
  first | (simp only [tN, rN, fN, tr, sr, sp, pl, wN, st, e12, e13, e14, e16, e17, e18, e19, e20, e21, e22, e23, e24, e25, e26, e27, e28, e29, e30, e31, e32, e35, g34] at h ⊢; exact h) | (simp only [tN, rN, fN, tr, sr, sp, pl, wN, st, e12, e13, e14, e16, e17, e18, e19, e20, e21, e22, e23, e24, e25, e26, e27, e28, e29, e30, e31, e32, e35, g34]; exact h)
theorem WB_24 (h : WB V) {j k : Nat} (h2 : j < 20) (hk : k < 20) : V.1 6 (20 * j + k) = V.1 6 (20 * k + j) ∧ (rN V ≤ j → V.1 6 (20 * j + k) = 0 ∧ V.1 6 (20 * k + j) = 0) := h.2.2.2.2.2.2.2.2.2.2.2.2.2.2.2.2.2 j k h2 hk
theorem W24_c (e6 : V'.1 6 = V.1 6) (e7 : V'.1 7 = V.1 7) (h : W24 V) : W24 V' := by
  unfold W24 at h ⊢
  first | (simp only [tN, rN, fN, tr, sr, sp, pl, wN, st, e6, e7] at h ⊢; exact h) | (simp only [tN, rN, fN, tr, sr, sp, pl, wN, st, e6, e7]; exact h)
theorem WV_mono {m : Nat} (hm : n ≤ m) (h : WV n V) : WV m V := ⟨h.1, h.2.1, h.2.2.1, h.2.2.2.1, h.2.2.2.2.1, by obtain ⟨q, h1, h2⟩ := h.2.2.2.2.2.1; exact ⟨q, by omega, h2⟩, by obtain ⟨a, b, h1, h2, h3⟩ := h.2.2.2.2.2.2; exact ⟨a, b, by omega, by omega, h3⟩⟩
end WP
/-! what is against a stall: numbers of the document -/
def mk (V : zV) (i q : Nat) (b : Int32) : Prop := ¬ V.1 2 (200 * i + q) &&& b = 0
def wthn (V : zV) (t : Nat) (ρ π : Int32) : Prop := ∃ i p, i < 40 ∧ ρ = nI i ∧ π = nI p ∧ p + fN V t ≤ pl V i
def oth (V : zV) (t o : Nat) : Prop := o < tN V ∧ st V o ∧ o ≠ t
def pd (V : zV) (t o : Nat) : Prop := ¬ V.1 6 (20 * tr V t + tr V o) = 0
def full (V : zV) (t : Nat) : Prop := ¬ nI (cn (fun o => st V o ∧ o ≠ t ∧ tr V o = tr V t) (tN V)) < V.1 4 (tr V t)
def outm (V : zV) (t : Nat) : Prop := V.1 8 t = 2 ∧ (V.1 15 t >>> (V.1 38 0 &&& 31)) &&& 1 = 0
def secd (V : zV) (t : Nat) : Prop := V.1 8 t = 4 ∧ ∃ o, oth V t o ∧ V.1 8 o = 4
def fire (V : zV) (t o : Nat) : Prop := (V.1 8 t = 3 ∧ ¬ V.1 5 (tr V o) = 0) ∨ (¬ V.1 8 t = 3 ∧ ¬ V.1 5 (tr V t) = 0 ∧ V.1 8 o = 3)
def near (V : zV) (t o i p : Nat) : Prop := sr V o = i ∧ sp V o < p + fN V t + 6 ∧ p < sp V o + fN V o + 6
def meet (V : zV) (t o i p : Nat) : Prop := sr V o = i ∧ sp V o < p + fN V t ∧ p < sp V o + fN V o
def besd (V : zV) (t o i p : Nat) : Prop := sr V o = i ∧ (sp V o + fN V o = p ∨ sp V o = p + fN V t)
def oppo (V : zV) (t o i p : Nat) : Prop := nI (sr V o) ^^^ 1 = nI i ∧ sp V o < p + fN V t ∧ p < sp V o + fN V o
def mkd (V : zV) (t i p : Nat) (b : Int32) : Prop := ∃ k, k < fN V t ∧ mk V i (p + k) b
noncomputable def agN (V : zV) (t i p : Nat) : Int32 :=
  cif (mkd V t i p 3) 2 <| cif (∃ o, oth V t o ∧ meet V t o i p) 3 <| cif (full V t) 4 <| cif (∃ o, oth V t o ∧ pd V t o ∧ besd V t o i p) 5 <| cif (∃ o, oth V t o ∧ pd V t o ∧ oppo V t o i p) 6 <| cif (V.1 8 t = 3 ∧ ¬ mkd V t i p 4) 7 <| cif (∃ o, oth V t o ∧ fire V t o ∧ near V t o i p) 8 <| cif (outm V t) 9 <| cif (secd V t) 10 0
noncomputable def ag (V : zV) (t : Nat) (ρ π : Int32) : Int32 := cif (wthn V t ρ π) (agN V t ρ.toNatClampNeg π.toNatClampNeg) 1
theorem ag_in {V : zV} {t i p : Nat} (hi : i < 40) (hp : p + fN V t ≤ pl V i) (h2 : p < 100000) : ag V t (nI i) (nI p) = agN V t i p := by
  rw [ag, cif_p ⟨i, p, hi, rfl, rfl, hp⟩, nI_clamp (by omega), nI_clamp (by omega)]
