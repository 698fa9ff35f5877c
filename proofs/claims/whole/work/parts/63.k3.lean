/-! stalls that come and go, by the class -/
def zsh (c : zS) (a lo hi : Nat) (x : Option Nat) : zS := (c.1, c.2.1, fun f b j => if f = 148 ∧ b = a ∧ lo ≤ j ∧ j < hi then x else c.2.2 f b j)
theorem zr_zsh (c : zS) (a lo hi : Nat) (x : Option Nat) (f b j : Nat) : zr (zsh c a lo hi x) f b j = if f = 148 ∧ b = a ∧ lo ≤ j ∧ j < hi then x else zr c f b j := rfl
theorem zsh_0 (c : zS) (a lo : Nat) (x : Option Nat) : zsh c a lo lo x = c := by
  refine Prod.ext rfl (Prod.ext rfl ?_)
  funext f b j
  exact if_neg (fun h => by omega)
theorem zsh_s (c : zS) (a lo hi : Nat) (x : Option Nat) (h : lo ≤ hi) : zur (zsh c a lo hi x) 148 a hi x = zsh c a lo (hi + 1) x := by
  refine Prod.ext rfl (Prod.ext rfl ?_)
  funext f b j
  show (if f = 148 ∧ b = a ∧ j = hi then x else if f = 148 ∧ b = a ∧ lo ≤ j ∧ j < hi then x else c.2.2 f b j) = if f = 148 ∧ b = a ∧ lo ≤ j ∧ j < hi + 1 then x else c.2.2 f b j
  by_cases h1 : f = 148 ∧ b = a ∧ j = hi
  · rw [if_pos h1, if_pos ⟨h1.1, h1.2.1, by omega, by omega⟩]
  · rw [if_neg h1]
    by_cases h2 : f = 148 ∧ b = a ∧ lo ≤ j ∧ j < hi
    · rw [if_pos h2, if_pos ⟨h2.1, h2.2.1, by omega, by omega⟩]
    · rw [if_neg h2, if_neg (fun x => by
        by_cases e : j = hi
        · exact h1 ⟨x.1, x.2.1, e⟩
        · exact h2 ⟨x.1, x.2.1, x.2.2.1, by omega⟩)]
theorem zr_zo {c : zS} {a lo hi : Nat} {x : Option Nat} {g : Nat} (h : g ≠ 148) : zr (zsh c a lo hi x) g = zr c g := by funext b j; rw [zr_zsh, if_neg (fun y => h y.1)]
def suV (V : zV) (t : Nat) (ρ π : Int32) : zV := uV (uV (uV V 27 t 1) 28 t ρ) 29 t π
theorem suV_st {V : zV} {t : Nat} {ρ π : Int32} : st (suV V t ρ π) t := by unfold st suV; rw [uV_o (by decide), uV_o (by decide), uV_s]; decide
theorem suV_so {V : zV} {t o : Nat} {ρ π : Int32} (h : o ≠ t) : st (suV V t ρ π) o ↔ st V o := by unfold st suV; rw [uV_o (by decide), uV_o (by decide), uV_t h]
theorem suV_sr {V : zV} {t i : Nat} {π : Int32} (hi : i < 40) : sr (suV V t (nI i) π) t = i := by unfold sr suV; rw [uV_o (by decide), uV_s, nI_clamp (by omega)]
theorem suV_sp {V : zV} {t p : Nat} {ρ : Int32} (hp : p < 100000) : sp (suV V t ρ (nI p)) t = p := by unfold sp suV; rw [uV_s, nI_clamp (by omega)]
theorem suV_ro {V : zV} {t o : Nat} {ρ π : Int32} (h : o ≠ t) : sr (suV V t ρ π) o = sr V o := by unfold sr suV; rw [uV_o (by decide), uV_t h, uV_o (by decide)]
theorem suV_po {V : zV} {t o : Nat} {ρ π : Int32} (h : o ≠ t) : sp (suV V t ρ π) o = sp V o := by unfold sp suV; rw [uV_t h, uV_o (by decide), uV_o (by decide)]
/-- a stall set up where nothing meets it -/
theorem suV_W {V : zV} (hW : WB V) {t i p : Nat} (ht : t < tN V) (hi : i < 40) (hp : p + fN V t ≤ pl V i) (hm : ¬ ∃ o, oth V t o ∧ meet V t o i p) : WB (suV V t (nI i) (nI p)) := by
  have hpl := (WB_7 hW hi).2
  have E : ∀ k, (k ≠ 27 ∧ k ≠ 28 ∧ k ≠ 29) → (suV V t (nI i) (nI p)).1 k = V.1 k := fun k h => by unfold suV; rw [uV_o h.2.2, uV_o h.2.1, uV_o h.1]
  have E2 : ∀ k, k ≠ 200 → (suV V t (nI i) (nI p)).2 k = V.2 k := fun k _ => rfl
  have eN : tN (suV V t (nI i) (nI p)) = tN V := rfl
  have eF : ∀ o, fN (suV V t (nI i) (nI p)) o = fN V o := fun o => rfl
  have eP : ∀ o, pl (suV V t (nI i) (nI p)) o = pl V o := fun o => rfl
  obtain ⟨w1, w2, w3, w4, w5, w6, w7, w8, w9, w10, w11, w12, w13, w18, w20, w22, w23, w24⟩ := id hW
  refine ⟨W1_c (E 35 (by decide)) w1, W2_c (E 35 (by decide)) w2, W3_c (E 7 (by decide)) w3, W4_c (E 7 (by decide)) w4, W5_c (E 7 (by decide)) (E 9 (by decide)) (E 35 (by decide)) w5, W6_c (E 10 (by decide)) (E 35 (by decide)) w6, W7_c (E 1 (by decide)) w7, W8_c (E 2 (by decide)) w8, W9_c (E 6 (by decide)) w9, W10_c (E 5 (by decide)) w10, ?_, ?_, W13_c (E 21 (by decide)) (E 23 (by decide)) (E 35 (by decide)) w13, W18_c (E 31 (by decide)) (E 32 (by decide)) (E 35 (by decide)) w18, W20_c (E 11 (by decide)) (E 35 (by decide)) w20, W22_c (E 18 (by decide)) (E 35 (by decide)) w22, ?_, W24_c (E 6 (by decide)) (E 7 (by decide)) w24⟩
  · intro a ha hs
    by_cases e : a = t
    · subst e
      rw [suV_sr hi, suV_sp (by omega), eF, eP]
      refine ⟨?_, hi, ?_, hp, ?_⟩
      · unfold suV; rw [uV_o (by decide), uV_s]
      · unfold suV; rw [uV_s]
      · unfold suV; rw [uV_o (by decide), uV_o (by decide), uV_s]
    · rw [suV_ro e, suV_po e, eF, eP]
      have := w11 a ha ((suV_so e).mp hs)
      refine ⟨?_, this.2.1, ?_, this.2.2.2.1, ?_⟩
      · unfold suV; rw [uV_o (by decide), uV_t e, uV_o (by decide)]; exact this.1
      · unfold suV; rw [uV_t e, uV_o (by decide), uV_o (by decide)]; exact this.2.2.1
      · unfold suV; rw [uV_o (by decide), uV_o (by decide), uV_t e]; exact this.2.2.2.2
  · intro a b ha hb hab h1 h2 h3
    rw [eF, eF]
    by_cases e : a = t
    · subst e
      have hb2 : b ≠ a := fun x => hab x.symm
      rw [suV_sp (by omega), suV_po hb2]
      rw [suV_sr hi, suV_ro hb2] at h3
      have hm2 : ¬ meet V a b i p := fun y => hm ⟨b, ⟨hb, (suV_so hb2).mp h2, hb2⟩, y⟩
      rcases Nat.lt_or_ge (sp V b) (p + fN V a) with x | x
      · right
        rcases Nat.lt_or_ge p (sp V b + fN V b) with y | y
        · exact absurd ⟨h3.symm, x, y⟩ hm2
        · exact y
      · left; exact x
    · by_cases e2 : b = t
      · subst e2
        rw [suV_sp (by omega), suV_po e]
        rw [suV_sr hi, suV_ro e] at h3
        have hm2 : ¬ meet V b a i p := fun y => hm ⟨a, ⟨ha, (suV_so e).mp h1, e⟩, y⟩
        rcases Nat.lt_or_ge (sp V a) (p + fN V b) with x | x
        · left
          rcases Nat.lt_or_ge p (sp V a + fN V a) with y | y
          · exact absurd ⟨h3, x, y⟩ hm2
          · exact y
        · right; exact x
      · rw [suV_po e, suV_po e2]
        rw [suV_ro e, suV_ro e2] at h3
        exact w12 a b ha hb hab ((suV_so e).mp h1) ((suV_so e2).mp h2) h3
  · intro a ha h2
    have hne : a ≠ t := by have : tN V ≤ a := ha; omega
    have h := w23 a ha h2
    have e27 : (suV V t (nI i) (nI p)).1 27 a = V.1 27 a := by unfold suV; rw [uV_o (by decide), uV_o (by decide), uV_t hne]
    have e28 : (suV V t (nI i) (nI p)).1 28 a = V.1 28 a := by unfold suV; rw [uV_o (by decide), uV_t hne, uV_o (by decide)]
    have e29 : (suV V t (nI i) (nI p)).1 29 a = V.1 29 a := by unfold suV; rw [uV_t hne, uV_o (by decide), uV_o (by decide)]
    rw [e27, e28, e29]
    exact h
theorem tdV_W {V : zV} (hW : WB V) {t : Nat} (ht : t < tN V) : WB (uV V 27 t 0) := by
  have E : ∀ k, (k ≠ 27) → (uV V 27 t 0).1 k = V.1 k := fun k h => uV_o h
  have E2 : ∀ k, k ≠ 200 → (uV V 27 t 0).2 k = V.2 k := fun k _ => rfl
  have so : ∀ o, st (uV V 27 t 0) o → st V o := fun o hs => by
    by_cases e : o = t
    · subst e; unfold st at hs; rw [uV_s] at hs; exact absurd rfl hs
    · unfold st at hs ⊢; rw [uV_t e] at hs; exact hs
  obtain ⟨w1, w2, w3, w4, w5, w6, w7, w8, w9, w10, w11, w12, w13, w18, w20, w22, w23, w24⟩ := id hW
  refine ⟨W1_c (E 35 (by decide)) w1, W2_c (E 35 (by decide)) w2, W3_c (E 7 (by decide)) w3, W4_c (E 7 (by decide)) w4, W5_c (E 7 (by decide)) (E 9 (by decide)) (E 35 (by decide)) w5, W6_c (E 10 (by decide)) (E 35 (by decide)) w6, W7_c (E 1 (by decide)) w7, W8_c (E 2 (by decide)) w8, W9_c (E 6 (by decide)) w9, W10_c (E 5 (by decide)) w10, ?_, ?_, W13_c (E 21 (by decide)) (E 23 (by decide)) (E 35 (by decide)) w13, W18_c (E 31 (by decide)) (E 32 (by decide)) (E 35 (by decide)) w18, W20_c (E 11 (by decide)) (E 35 (by decide)) w20, W22_c (E 18 (by decide)) (E 35 (by decide)) w22, ?_, W24_c (E 6 (by decide)) (E 7 (by decide)) w24⟩
  · intro a ha hs
    have x := w11 a ha (so a hs)
    refine ⟨x.1, x.2.1, x.2.2.1, x.2.2.2.1, ?_⟩
    by_cases e : a = t
    · subst e; unfold st at hs; rw [uV_s] at hs; exact absurd rfl hs
    · rw [uV_t e]; exact x.2.2.2.2
  · intro a b ha hb hab h1 h2 h3
    exact w12 a b ha hb hab (so a h1) (so b h2) h3
  · intro a ha h2
    have hne : a ≠ t := by have : tN V ≤ a := ha; omega
    have h := w23 a ha h2
    rw [uV_t hne]
    exact h
section KC
variable {K : Nat → Nat} {A : Nat → Nat → Nat} {c : zS} {V : zV} {ms z : Nat}
theorem k_setH3 (h : RC K A c V ms) (hW : WB V) {i p f : Nat} (hi : i < 40) (hp : p + f ≤ pl V i) {x : Option Nat} (hx : x = none ∨ ∃ a, x = some a ∧ K a = 4) : ∀ (nn k : Nat), k ≤ f → f - k < nn → f_X0_setHolder_3 K z (A 0 i) (nI p) (nI f) nn (zsh c (A 2 i) p (p + k) x) x (nI k) = some (zsh c (A 2 i) p (p + f) x) := by
  obtain ⟨e1, hpl⟩ := WB_7 hW hi
  intro nn
  induction nn with
  | zero => intro k hk h; omega
  | succ nn ih =>
    intro k hk hh
    rw [f_X0_setHolder_3, iLE (by omega) (by omega), nI_add]
    by_cases h1 : f ≤ k
    · rw [if_pos h1, show k = f by omega]
    · have hq : p + k < pl V i := by omega
      have e2 : f_X0_has K z (zsh c (A 2 i) p (p + k) x) (A 0 i) (nI (p + k)) = some (oi (p + k < pl V i)) := k_has (z := z) h hW hi (by omega)
      have ih1 := ih (k + 1) (by omega) (by omega)
      rw [← Nat.add_assoc, ← zsh_s c (A 2 i) p (p + k) x (by omega)] at ih1
      rw [if_neg h1, e2, zb_s, oi_p hq, if_neg (by decide), zr_zo (by decide), kn_1 h hi, zx_2 (by omega), cl_ (by omega), zlet, zlet, nI_1]
      rcases hx with rfl | ⟨a, rfl, ha⟩
      · rw [zo_n]; exact ih1
      · rw [zo_s ha, zx_2 (by omega), zlet, zlet]; exact ih1
theorem k_setH (h : RC K A c V ms) (hW : WB V) (hz : 300 ≤ z) {i p f : Nat} (hi : i < 40) (hp : p + f ≤ pl V i) {x : Option Nat} (hx : x = none ∨ ∃ a, x = some a ∧ K a = 4) : f_X0_setHolder K z c (A 0 i) (nI p) (nI f) x = some (zsh c (A 2 i) p (p + f) x) := by
  have hpl := (WB_7 hW hi).2
  have := k_setH3 (z := z) h hW hi hp hx z 0 (Nat.zero_le _) (by omega)
  rw [Nat.add_zero, zsh_0] at this
  exact this
theorem RC_V {V' : zV} (h : RC K A c V ms) (E : ∀ k, k ≠ 26 → V'.1 k = V.1 k) (e2 : V'.2 = V.2) : RC K A c V' ms := by
  have Ez : ∀ k, k ≠ 1000 → zi c k = zi c k := fun _ _ => rfl
  have El : ∀ k, k ≠ 1000 → zl c k = zl c k := fun _ _ => rfl
  have Er : ∀ k, k ≠ 1000 → zr c k = zr c k := fun _ _ => rfl
  have E2 : ∀ k, k ≠ 200 → V'.2 k = V.2 k := fun k _ => by rw [e2]
  exact ⟨h.1, R1_c (E 7 (by decide)) (E 35 (by decide)) (C1 h), R2_c (Er 0 (by decide)) (Er 1 (by decide)) (Er 120 (by decide)) (Er 121 (by decide)) (Er 122 (by decide)) (Er 123 (by decide)) (Er 124 (by decide)) (Er 143 (by decide)) (C2 h), R3_c (Er 144 (by decide)) (Er 145 (by decide)) (E 7 (by decide)) (E 35 (by decide)) (C3 h), R4_c (Er 40 (by decide)) (Er 81 (by decide)) (Er 83 (by decide)) (Er 84 (by decide)) (Er 85 (by decide)) (Er 100 (by decide)) (Er 101 (by decide)) (E 9 (by decide)) (E 35 (by decide)) (C4 h), R5_c (Ez 20 (by decide)) (Ez 21 (by decide)) (Ez 22 (by decide)) (Ez 41 (by decide)) (Ez 42 (by decide)) (Ez 44 (by decide)) (Ez 45 (by decide)) (Ez 46 (by decide)) (Ez 82 (by decide)) (Ez 86 (by decide)) (Ez 87 (by decide)) (Ez 88 (by decide)) (Ez 89 (by decide)) (Ez 90 (by decide)) (Ez 91 (by decide)) (Ez 92 (by decide)) (Ez 102 (by decide)) (Ez 103 (by decide)) (E 8 (by decide)) (E 10 (by decide)) (E 11 (by decide)) (E 12 (by decide)) (E 13 (by decide)) (E 14 (by decide)) (E 15 (by decide)) (E 18 (by decide)) (E 19 (by decide)) (E 20 (by decide)) (E 21 (by decide)) (E 23 (by decide)) (E 24 (by decide)) (E 25 (by decide)) (E 27 (by decide)) (E 28 (by decide)) (E 29 (by decide)) (E 30 (by decide)) (E 31 (by decide)) (E 32 (by decide)) (E 33 (by decide)) (E 35 (by decide)) (C5 h), R6_c (Ez 141 (by decide)) (Ez 142 (by decide)) (E 16 (by decide)) (E 17 (by decide)) (E 35 (by decide)) (C6 h), R7_c (Ez 2 (by decide)) (Ez 140 (by decide)) (E 1 (by decide)) (E 2 (by decide)) (C7 h), R8_c (Ez 60 (by decide)) (Ez 61 (by decide)) (Ez 62 (by decide)) (Ez 63 (by decide)) (Ez 64 (by decide)) (E 3 (by decide)) (E 4 (by decide)) (E 5 (by decide)) (E 6 (by decide)) (E 7 (by decide)) (C8 h), R9_c (Ez 43 (by decide)) (Ez 80 (by decide)) (El 93 (by decide)) (E 21 (by decide)) (E 22 (by decide)) (E 35 (by decide)) (E2 34 (by decide)) (C9 h), R10_c (Ez 125 (by decide)) (Ez 126 (by decide)) (Ez 127 (by decide)) (Ez 128 (by decide)) (Ez 129 (by decide)) (Ez 130 (by decide)) (Ez 131 (by decide)) (El 134 (by decide)) (El 135 (by decide)) (El 136 (by decide)) (El 137 (by decide)) (E 7 (by decide)) (E 35 (by decide)) (E 36 (by decide)) (E 37 (by decide)) (E 38 (by decide)) (E 39 (by decide)) (E 40 (by decide)) (E 41 (by decide)) (E 42 (by decide)) (E2 43 (by decide)) (E2 44 (by decide)) (C10 h), R11_c (Ez 65 (by decide)) (E 7 (by decide)) (E 9 (by decide)) (E 27 (by decide)) (E 35 (by decide)) (C11 h), R12_c (Ez 132 (by decide)) (Ez 133 (by decide)) (E 8 (by decide)) (E 27 (by decide)) (E 35 (by decide)) (C12 h), R13_c (Er 148 (by decide)) (E 10 (by decide)) (E 27 (by decide)) (E 28 (by decide)) (E 29 (by decide)) (E 35 (by decide)) (C13 h), R14_c (Er 146 (by decide)) (E 11 (by decide)) (E 35 (by decide)) (C14 h), R15_c (Ez 47 (by decide)) (E 35 (by decide)) (E 60 (by decide)) (C15 h)⟩
/-- what stays where stalls alone change -/
theorem RC_setUp (h : RC K A c V ms) (hW : WB V) {t i p : Nat} (ht : t < tN V) (hs : ¬ st V t) (hi : i < 40) (hp : p + fN V t ≤ pl V i) (hm : ¬ ∃ o, oth V t o ∧ meet V t o i p) (w : Int32) (hw : w = if V.1 8 t = 4 then 1 else 0) : RC K A (zui (zui (zui (zui (zui (zui (zsh c (A 2 i) p (p + fN V t) (some (A 4 t))) 20 (A 10 t) 0 1) 21 (A 10 t) 0 (nI i)) 22 (A 10 t) 0 (nI p)) 65 (A 3 (tr V t)) 0 (zi c 65 (A 3 (tr V t)) 0 + 1)) 132 ms 0 (zi c 132 ms 0 + 1)) 133 ms 0 (zi c 133 ms 0 + w)) (suV V t (nI i) (nI p)) ms := by
  have hpl := (WB_7 hW hi).2
  have E : ∀ k, (k ≠ 27 ∧ k ≠ 28 ∧ k ≠ 29) → (suV V t (nI i) (nI p)).1 k = V.1 k := fun k h => by unfold suV; rw [uV_o h.2.2, uV_o h.2.1, uV_o h.1]
  have E2 : ∀ k, k ≠ 200 → (suV V t (nI i) (nI p)).2 k = V.2 k := fun k _ => rfl
  generalize hc : zui (zui (zui (zui (zui (zui (zsh c (A 2 i) p (p + fN V t) (some (A 4 t))) 20 (A 10 t) 0 1) 21 (A 10 t) 0 (nI i)) 22 (A 10 t) 0 (nI p)) 65 (A 3 (tr V t)) 0 (zi c 65 (A 3 (tr V t)) 0 + 1)) 132 ms 0 (zi c 132 ms 0 + 1)) 133 ms 0 (zi c 133 ms 0 + w) = c'
  have Ez : ∀ k, (k ≠ 20 ∧ k ≠ 21 ∧ k ≠ 22 ∧ k ≠ 65 ∧ k ≠ 132 ∧ k ≠ 133) → zi c' k = zi c k := fun k h => by
    rw [← hc, zi_o h.2.2.2.2.2, zi_o h.2.2.2.2.1, zi_o h.2.2.2.1, zi_o h.2.2.1, zi_o h.2.1, zi_o h.1]; rfl
  have El : ∀ k, k ≠ 1000 → zl c' k = zl c k := fun k _ => by rw [← hc]; rfl
  have Er : ∀ k, k ≠ 148 → zr c' k = zr c k := fun k h => by rw [← hc]; exact zr_zo h
  refine ⟨h.1, R1_c (E 7 (by decide)) (E 35 (by decide)) (C1 h), R2_c (Er 0 (by decide)) (Er 1 (by decide)) (Er 120 (by decide)) (Er 121 (by decide)) (Er 122 (by decide)) (Er 123 (by decide)) (Er 124 (by decide)) (Er 143 (by decide)) (C2 h), R3_c (Er 144 (by decide)) (Er 145 (by decide)) (E 7 (by decide)) (E 35 (by decide)) (C3 h), R4_c (Er 40 (by decide)) (Er 81 (by decide)) (Er 83 (by decide)) (Er 84 (by decide)) (Er 85 (by decide)) (Er 100 (by decide)) (Er 101 (by decide)) (E 9 (by decide)) (E 35 (by decide)) (C4 h), ?_, R6_c (Ez 141 (by decide)) (Ez 142 (by decide)) (E 16 (by decide)) (E 17 (by decide)) (E 35 (by decide)) (C6 h), R7_c (Ez 2 (by decide)) (Ez 140 (by decide)) (E 1 (by decide)) (E 2 (by decide)) (C7 h), R8_c (Ez 60 (by decide)) (Ez 61 (by decide)) (Ez 62 (by decide)) (Ez 63 (by decide)) (Ez 64 (by decide)) (E 3 (by decide)) (E 4 (by decide)) (E 5 (by decide)) (E 6 (by decide)) (E 7 (by decide)) (C8 h), R9_c (Ez 43 (by decide)) (Ez 80 (by decide)) (El 93 (by decide)) (E 21 (by decide)) (E 22 (by decide)) (E 35 (by decide)) (E2 34 (by decide)) (C9 h), R10_c (Ez 125 (by decide)) (Ez 126 (by decide)) (Ez 127 (by decide)) (Ez 128 (by decide)) (Ez 129 (by decide)) (Ez 130 (by decide)) (Ez 131 (by decide)) (El 134 (by decide)) (El 135 (by decide)) (El 136 (by decide)) (El 137 (by decide)) (E 7 (by decide)) (E 35 (by decide)) (E 36 (by decide)) (E 37 (by decide)) (E 38 (by decide)) (E 39 (by decide)) (E 40 (by decide)) (E 41 (by decide)) (E 42 (by decide)) (E2 43 (by decide)) (E2 44 (by decide)) (C10 h), ?_, ?_, ?_, R14_c (Er 146 (by decide)) (E 11 (by decide)) (E 35 (by decide)) (C14 h), R15_c (Ez 47 (by decide)) (E 35 (by decide)) (E 60 (by decide)) (C15 h)⟩
  · have h5 : R5 A (zsh c (A 2 i) p (p + fN V t) (some (A 4 t))) V := fun q hq j hj => C5 h q hq j hj
    have h6 : R5 A (zui (zui (zui (zsh c (A 2 i) p (p + fN V t) (some (A 4 t))) 20 (A 10 t) 0 1) 21 (A 10 t) 0 (nI i)) 22 (A 10 t) 0 (nI p)) (suV V t (nI i) (nI p)) := R5_u1 h.1 (by decide) (by decide) (R5_u1 h.1 (by decide) (by decide) (R5_u1 h.1 (by decide) (by decide) h5))
    have Ez : ∀ k, (k ≠ 65 ∧ k ≠ 132 ∧ k ≠ 133) → zi c' k = zi (zui (zui (zui (zsh c (A 2 i) p (p + fN V t) (some (A 4 t))) 20 (A 10 t) 0 1) 21 (A 10 t) 0 (nI i)) 22 (A 10 t) 0 (nI p)) k := fun k h => by
      rw [← hc, zi_o h.2.2, zi_o h.2.1, zi_o h.1]
    have E : ∀ k, k ≠ 200 → (suV V t (nI i) (nI p)).1 k = (suV V t (nI i) (nI p)).1 k := fun k _ => rfl
    exact R5_c (Ez 20 (by decide)) (Ez 21 (by decide)) (Ez 22 (by decide)) (Ez 41 (by decide)) (Ez 42 (by decide)) (Ez 44 (by decide)) (Ez 45 (by decide)) (Ez 46 (by decide)) (Ez 82 (by decide)) (Ez 86 (by decide)) (Ez 87 (by decide)) (Ez 88 (by decide)) (Ez 89 (by decide)) (Ez 90 (by decide)) (Ez 91 (by decide)) (Ez 92 (by decide)) (Ez 102 (by decide)) (Ez 103 (by decide)) (E 8 (by decide)) (E 10 (by decide)) (E 11 (by decide)) (E 12 (by decide)) (E 13 (by decide)) (E 14 (by decide)) (E 15 (by decide)) (E 18 (by decide)) (E 19 (by decide)) (E 20 (by decide)) (E 21 (by decide)) (E 23 (by decide)) (E 24 (by decide)) (E 25 (by decide)) (E 27 (by decide)) (E 28 (by decide)) (E 29 (by decide)) (E 30 (by decide)) (E 31 (by decide)) (E 32 (by decide)) (E 33 (by decide)) (E 35 (by decide)) h6
  · intro j hj
    have hj2 : j < rN V := hj
    have e : zi c' 65 (A 3 j) 0 = if j = tr V t then zi c 65 (A 3 (tr V t)) 0 + 1 else zi c 65 (A 3 j) 0 := by
      rw [← hc, zi_o (by decide), zi_o (by decide), zi_zui]
      by_cases e : j = tr V t
      · rw [if_pos ⟨rfl, by rw [e], rfl⟩, if_pos e]
      · rw [if_neg (fun x => e (h.1 _ _ _ _ x.2.1).2), if_neg e, zi_o (by decide), zi_o (by decide), zi_o (by decide)]; rfl
    have h11 := C11 h j hj2
    rw [e]
    show _ = nI (cn (fun o => st (suV V t (nI i) (nI p)) o ∧ tr V o = j) (tN V))
    by_cases e : j = tr V t
    · subst e
      rw [if_pos rfl, h11, nI_1, cn_off (P := fun o => st (suV V t (nI i) (nI p)) o ∧ tr V o = tr V t) (Q := fun o => st V o ∧ tr V o = tr V t) (tN V) ht ⟨suV_st, rfl⟩ (fun x => hs x.1) (fun o ho => by rw [suV_so ho])]
    · rw [if_neg e, h11, cn_c (P := fun o => st V o ∧ tr V o = j) (Q := fun o => st (suV V t (nI i) (nI p)) o ∧ tr V o = j) (tN V) (fun o _ => ⟨fun x => ⟨(suV_so (fun y => e (by rw [← x.2, y]))).mpr x.1, x.2⟩, fun x => ⟨(suV_so (fun y => e (by rw [← x.2, y]))).mp x.1, x.2⟩⟩)]
  · have e1 : zi c' 132 ms 0 = zi c 132 ms 0 + 1 := by rw [← hc, zi_o (by decide), zi_zui, if_pos ⟨rfl, rfl, rfl⟩]
    have e2 : zi c' 133 ms 0 = zi c 133 ms 0 + w := by rw [← hc, zi_zui, if_pos ⟨rfl, rfl, rfl⟩]
    refine ⟨?_, ?_⟩
    · rw [e1, (C12 h).1, nI_1]
      show _ = nI (cn (fun o => st (suV V t (nI i) (nI p)) o) (tN V))
      rw [cn_off (P := fun o => st (suV V t (nI i) (nI p)) o) (Q := fun o => st V o) (tN V) ht suV_st hs (fun o ho => suV_so ho)]
    · rw [e2, (C12 h).2, hw]
      show _ = nI (cn (fun o => st (suV V t (nI i) (nI p)) o ∧ V.1 8 o = 4) (tN V))
      by_cases h4 : V.1 8 t = 4
      · rw [if_pos h4, nI_1, cn_off (P := fun o => st (suV V t (nI i) (nI p)) o ∧ V.1 8 o = 4) (Q := fun o => st V o ∧ V.1 8 o = 4) (tN V) ht ⟨suV_st, h4⟩ (fun x => hs x.1) (fun o ho => by rw [suV_so ho])]
      · rw [if_neg h4, Int32.add_zero, cn_c (P := fun o => st V o ∧ V.1 8 o = 4) (Q := fun o => st (suV V t (nI i) (nI p)) o ∧ V.1 8 o = 4) (tN V) (fun o _ => ⟨fun x => ⟨(suV_so (fun y => h4 (by rw [← y]; exact x.2))).mpr x.1, x.2⟩, fun x => ⟨(suV_so (fun y => h4 (by rw [← y]; exact x.2))).mp x.1, x.2⟩⟩)]
  · intro i' q hi' hq
    have e : zr c' 148 (A 2 i') q = if i' = i ∧ p ≤ q ∧ q < p + fN V t then some (A 4 t) else zr c 148 (A 2 i') q := by
      rw [← hc]
      show zr (zsh c (A 2 i) p (p + fN V t) (some (A 4 t))) 148 (A 2 i') q = _
      rw [zr_zsh]
      by_cases e : i' = i ∧ p ≤ q ∧ q < p + fN V t
      · rw [if_pos ⟨rfl, by rw [e.1], e.2⟩, if_pos e]
      · rw [if_neg (fun x => e ⟨(h.1 _ _ _ _ x.2.1).2, x.2.2⟩), if_neg e]
    rw [e]
    have covt : cov (suV V t (nI i) (nI p)) t i' q ↔ i' = i ∧ p ≤ q ∧ q < p + fN V t := by
      unfold cov
      rw [suV_sr hi, suV_sp (by omega)]
      exact ⟨fun x => ⟨x.2.1.symm, x.2.2⟩, fun x => ⟨suV_st, x.1.symm, x.2⟩⟩
    have covo : ∀ o, o ≠ t → (cov (suV V t (nI i) (nI p)) o i' q ↔ cov V o i' q) := fun o ho => by
      unfold cov
      rw [suV_so ho, suV_ro ho, suV_po ho]; exact Iff.rfl
    by_cases e : i' = i ∧ p ≤ q ∧ q < p + fN V t
    · left
      exact ⟨t, ht, covt.mpr e, by rw [if_pos e]⟩
    · rw [if_neg e]
      rcases C13 h i' q hi' hq with ⟨o, ho, hc1, hc2⟩ | ⟨hn, hc2⟩
      · left
        exact ⟨o, ho, (covo o (fun x => hs (by rw [← x]; exact hc1.1))).mpr hc1, hc2⟩
      · right
        refine ⟨fun o ho hc1 => ?_, hc2⟩
        by_cases x : o = t
        · subst x; exact e (covt.mp hc1)
        · exact hn o ho ((covo o x).mp hc1)
theorem k_setUp (h : RC K A c V ms) (hW : WB V) (hz : 300 ≤ z) {t i p : Nat} (ht : t < tN V) (hs : ¬ st V t) (hi : i < 40) (hp : p + fN V t ≤ pl V i) (hm : ¬ ∃ o, oth V t o ∧ meet V t o i p) : ∃ c', f_X6_setUp K z c ms (A 4 t) (nI i) (nI p) = some c' ∧ RC K A c' (suV V t (nI i) (nI p)) ms ∧ (∀ f, f ≠ 148 → zr c' f = zr c f) := by
  have hpl := (WB_7 hW hi).2
  obtain ⟨e10, f1, f2⟩ := WB_6 hW ht
  have key := fun w hw => RC_setUp h hW ht hs hi hp hm w hw
  unfold f_X6_setUp f_X1_put
  rw [k_row h hi, zb_s, zo_s ((C1 h).1 i hi).1, rt_82_4 h ht, e10, k_setH h hW hz hi hp (Or.inr ⟨A 4 t, rfl, K4 h ht⟩), zb_s, zr_zo (by decide), kn_85 h ht, zr_zo (by decide), kn_40 h ht]
  simp only [zlet, zb_s, zr_zui, zr_zo (show 81 ≠ 148 by decide), kn_81 h hW ht, k_oneIf]
  have a65 : zi (zui (zui (zui (zsh c (A 2 i) p (p + fN V t) (some (A 4 t))) 20 (A 10 t) 0 1) 21 (A 10 t) 0 (nI i)) 22 (A 10 t) 0 (nI p)) 65 (A 3 (tr V t)) 0 = zi c 65 (A 3 (tr V t)) 0 := by rw [zi_o (by decide), zi_o (by decide), zi_o (by decide)]; rfl
  rw [a65]
  have a132 : zi (zui (zui (zui (zui (zsh c (A 2 i) p (p + fN V t) (some (A 4 t))) 20 (A 10 t) 0 1) 21 (A 10 t) 0 (nI i)) 22 (A 10 t) 0 (nI p)) 65 (A 3 (tr V t)) 0 (zi c 65 (A 3 (tr V t)) 0 + 1)) 132 ms 0 = zi c 132 ms 0 := by rw [zi_o (by decide), zi_o (by decide), zi_o (by decide), zi_o (by decide)]; rfl
  rw [a132]
  have a86 : ∀ f a, f ≠ 20 → f ≠ 21 → f ≠ 22 → f ≠ 65 → f ≠ 132 → zi (zui (zui (zui (zui (zui (zsh c (A 2 i) p (p + fN V t) (some (A 4 t))) 20 (A 10 t) 0 1) 21 (A 10 t) 0 (nI i)) 22 (A 10 t) 0 (nI p)) 65 (A 3 (tr V t)) 0 (zi c 65 (A 3 (tr V t)) 0 + 1)) 132 ms 0 (zi c 132 ms 0 + 1)) f a 0 = zi c f a 0 := fun f a h1 h2 h3 h4 h5 => by rw [zi_o h5, zi_o h4, zi_o h3, zi_o h2, zi_o h1]; rfl
  rw [a86 86 _ (by decide) (by decide) (by decide) (by decide) (by decide), a86 133 _ (by decide) (by decide) (by decide) (by decide) (by decide), rt_86_4 h ht]
  by_cases h4 : V.1 8 t = 4
  · rw [if_pos h4, if_neg (show ¬ (1 : Int32) = 0 by decide)]
    exact ⟨_, rfl, key 1 (by rw [if_pos h4]), fun f hf => zr_zo hf⟩
  · rw [if_neg h4]
    exact ⟨_, rfl, key 0 (by rw [if_neg h4]), fun f hf => zr_zo hf⟩
end KC
