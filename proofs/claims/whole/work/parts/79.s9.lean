/-! the end of a day -/
def sh (x b : Int32) : Int32 := ((x <<< ((1 : Int32) &&& 31)) ||| b) &&& 255
def aw (V : zV) (t : Nat) : Prop := V.1 21 t = 0 ∧ V.1 22 t = 0
noncomputable def kst (V : zV) (t : Nat) : Prop := ¬ V.1 12 t = 0 ∧ cs V t
noncomputable def sumF (V : zV) : Nat → Int64
  | 0 => 0
  | j + 1 => sumF V j + cif (st V j) (Int32.toInt64 (feV V j)) 0
noncomputable def fvI (V : zV) (f x : Nat) : Int32 := if f = 33 then cif (st V x ∨ ¬ V.1 25 x = 0) (V.1 40 0 - 1) (V.1 33 x) else if f = 31 then sh (V.1 31 x) (if V.1 21 x = 0 then 0 else 1) else if f = 32 then cif (kst V x) (sh (V.1 32 x) (oi (aw V x))) (V.1 32 x) else if f = 60 then cif (kst V x) (oi (aw V x)) (V.1 60 x) else V.1 f x
/-- k traders written up, j charged -/
noncomputable def FV (V : zV) (k j : Nat) : zV := (fun f x => if f = 27 then (if x < j then 0 else V.1 27 x) else if x < k then fvI V f x else V.1 f x, fun f x => if f = 34 then (if x < j then cif (st V x) (V.2 34 x + Int32.toInt64 (feV V x)) (V.2 34 x) else V.2 34 x) else if f = 43 ∧ x = 0 then V.2 43 0 + sumF V j else V.2 f x)
theorem FV_1 (V : zV) (k j f x : Nat) : (FV V k j).1 f x = if f = 27 then (if x < j then 0 else V.1 27 x) else if x < k then fvI V f x else V.1 f x := rfl
theorem FV_2 (V : zV) (k j f x : Nat) : (FV V k j).2 f x = if f = 34 then (if x < j then cif (st V x) (V.2 34 x + Int32.toInt64 (feV V x)) (V.2 34 x) else V.2 34 x) else if f = 43 ∧ x = 0 then V.2 43 0 + sumF V j else V.2 f x := rfl
theorem fv33 (V : zV) (x : Nat) : fvI V 33 x = cif (st V x ∨ ¬ V.1 25 x = 0) (V.1 40 0 - 1) (V.1 33 x) := by unfold fvI; rw [if_pos rfl]
theorem fv31 (V : zV) (x : Nat) : fvI V 31 x = sh (V.1 31 x) (if V.1 21 x = 0 then 0 else 1) := by unfold fvI; rw [if_neg (by decide), if_pos rfl]
theorem fv32 (V : zV) (x : Nat) : fvI V 32 x = cif (kst V x) (sh (V.1 32 x) (oi (aw V x))) (V.1 32 x) := by unfold fvI; rw [if_neg (by decide), if_neg (by decide), if_pos rfl]
theorem fv60 (V : zV) (x : Nat) : fvI V 60 x = cif (kst V x) (oi (aw V x)) (V.1 60 x) := by unfold fvI; rw [if_neg (by decide), if_neg (by decide), if_neg (by decide), if_pos rfl]
theorem fvo (V : zV) (f x : Nat) (hf : f ≠ 31 ∧ f ≠ 32 ∧ f ≠ 33 ∧ f ≠ 60) : fvI V f x = V.1 f x := by unfold fvI; rw [if_neg hf.2.2.1, if_neg hf.1, if_neg hf.2.1, if_neg hf.2.2.2]
theorem sh_r (x b : Int32) : ∃ m, m < 256 ∧ sh x b = nI m := pk_andE _ 8 (by decide)
section FS
variable {V : zV} {k j t : Nat}
theorem FV_o (f : Nat) (hf : f ≠ 27 ∧ f ≠ 31 ∧ f ≠ 32 ∧ f ≠ 33 ∧ f ≠ 60) : (FV V k j).1 f = V.1 f := by
  funext x
  rw [FV_1, if_neg hf.1, fvo V f x hf.2]
  split <;> rfl
theorem FV_o2 (f : Nat) (hf : f ≠ 34 ∧ f ≠ 43) : (FV V k j).2 f = V.2 f := by
  funext x
  rw [FV_2, if_neg hf.1, if_neg (fun y => hf.2 y.1)]
theorem FV_t (hk : k ≤ t) (hj : j ≤ t) (f : Nat) : (FV V k j).1 f t = V.1 f t := by
  rw [FV_1]
  by_cases h : f = 27
  · rw [if_pos h, if_neg (by omega), h]
  · rw [if_neg h, if_neg (by omega)]
theorem FV_n (hk : k ≤ t) (f : Nat) (hf : f ≠ 27) : (FV V k j).1 f t = V.1 f t := by rw [FV_1, if_neg hf, if_neg (by omega)]
theorem FV_27 (x : Nat) : (FV V k j).1 27 x = if x < j then 0 else V.1 27 x := by rw [FV_1, if_pos rfl]
theorem FV_fe : feV (FV V k j) t = feV V t := by
  unfold feV tr
  rw [FV_o 8 (by decide), FV_o 10 (by decide), FV_o 39 (by decide), FV_o 30 (by decide), FV_o 3 (by decide), FV_o 9 (by decide)]
theorem FV_N : tN (FV V k j) = tN V := by unfold tN; rw [FV_o 35 (by decide)]
theorem FV_0 : FV V 0 0 = V := by
  refine zV_ext (fun f x => ?_) (fun f x => ?_)
  · rw [FV_1, if_neg (Nat.not_lt_zero x), if_neg (Nat.not_lt_zero x)]
    by_cases h : f = 27
    · rw [if_pos h, h]
    · rw [if_neg h]
  · rw [FV_2, if_neg (Nat.not_lt_zero x)]
    by_cases h : f = 34
    · rw [if_pos h, h]
    · rw [if_neg h]
      by_cases h2 : f = 43 ∧ x = 0
      · rw [if_pos h2, h2.1, h2.2]; show V.2 43 0 + (0 : Int64) = _; rw [Int64.add_zero]
      · rw [if_neg h2]
theorem FV_go (hs : st V t) : goV (FV V k t) t = FV V k (t + 1) := by
  have e34 : (FV V k t).2 34 t = V.2 34 t := by rw [FV_2, if_pos rfl, if_neg (by omega)]
  have e43 : (FV V k t).2 43 0 = V.2 43 0 + sumF V t := by rw [FV_2, if_neg (by decide), if_pos ⟨rfl, rfl⟩]
  refine zV_ext (fun f x => ?_) (fun f x => ?_)
  · show (uV (FV V k t) 27 t 0).1 f x = _
    rw [uV_1, FV_1, FV_1]
    by_cases h : f = 27
    · rw [if_pos h, if_pos h]
      by_cases hx : x = t
      · rw [if_pos ⟨h, hx⟩, if_pos (by omega)]
      · rw [if_neg (fun y => hx y.2)]
        by_cases h2 : x < t
        · rw [if_pos h2, if_pos (by omega)]
        · rw [if_neg h2, if_neg (by omega)]
    · rw [if_neg (fun y => h y.1), if_neg h, if_neg h]
  · unfold goV
    rw [uL_2, uL_2, uV_2, e34, e43, FV_fe, FV_2, FV_2]
    by_cases h : f = 34
    · rw [if_neg (fun y => by omega), if_pos h, if_pos h]
      by_cases hx : x = t
      · rw [if_pos ⟨h, hx⟩, if_pos (by omega), hx, cif_p hs]
      · rw [if_neg (fun y => hx y.2)]
        by_cases h2 : x < t
        · rw [if_pos h2, if_pos (by omega)]
        · rw [if_neg h2, if_neg (by omega)]
    · rw [if_neg (show ¬ (f = 34 ∧ x = t) from fun y => h y.1), if_neg h, if_neg h]
      by_cases h2 : f = 43 ∧ x = 0
      · rw [if_pos h2, if_pos h2, sumF, cif_p hs, Int64.add_assoc]
      · rw [if_neg h2, if_neg h2, if_neg h2]
theorem FV_ns (hs : ¬ st V t) : FV V k (t + 1) = FV V k t := by
  refine zV_ext (fun f x => ?_) (fun f x => ?_)
  · rw [FV_1, FV_1]
    by_cases h : f = 27
    · rw [if_pos h, if_pos h]
      by_cases hx : x = t
      · rw [if_pos (by omega), if_neg (by omega), hx]; exact (Classical.not_not.mp hs).symm
      · by_cases h2 : x < t
        · rw [if_pos h2, if_pos (by omega)]
        · rw [if_neg h2, if_neg (by omega)]
    · rw [if_neg h, if_neg h]
  · rw [FV_2, FV_2]
    by_cases h : f = 34
    · rw [if_pos h, if_pos h]
      by_cases hx : x = t
      · rw [if_pos (by omega), if_neg (by omega), hx, cif_n hs]
      · by_cases h2 : x < t
        · rw [if_pos h2, if_pos (by omega)]
        · rw [if_neg h2, if_neg (by omega)]
    · rw [if_neg h, if_neg h]
      by_cases h2 : f = 43 ∧ x = 0
      · rw [if_pos h2, if_pos h2, sumF, cif_n hs, Int64.add_zero]
      · rw [if_neg h2, if_neg h2]
theorem FV_step : uV (uV (uV (uV (FV V t j) 33 t (fvI V 33 t)) 31 t (fvI V 31 t)) 60 t (fvI V 60 t)) 32 t (fvI V 32 t) = FV V (t + 1) j := by
  refine zV_ext (fun f x => ?_) (fun _ _ => rfl)
  rw [uV_1, uV_1, uV_1, uV_1, FV_1, FV_1]
  by_cases hx : x = t
  · subst hx
    by_cases h32 : f = 32
    · subst h32; rw [if_pos ⟨rfl, rfl⟩, if_neg (by decide), if_pos (by omega)]
    · rw [if_neg (fun y => h32 y.1)]
      by_cases h60 : f = 60
      · subst h60; rw [if_pos ⟨rfl, rfl⟩, if_neg (by decide), if_pos (by omega)]
      · rw [if_neg (fun y => h60 y.1)]
        by_cases h31 : f = 31
        · subst h31; rw [if_pos ⟨rfl, rfl⟩, if_neg (by decide), if_pos (by omega)]
        · rw [if_neg (fun y => h31 y.1)]
          by_cases h33 : f = 33
          · subst h33; rw [if_pos ⟨rfl, rfl⟩, if_neg (by decide), if_pos (by omega)]
          · rw [if_neg (fun y => h33 y.1)]
            by_cases h27 : f = 27
            · rw [if_pos h27, if_pos h27]
            · rw [if_neg h27, if_neg h27, if_neg (by omega), if_pos (by omega), fvo V f x ⟨h31, h32, h33, h60⟩]
  · rw [if_neg (fun y => hx y.2), if_neg (fun y => hx y.2), if_neg (fun y => hx y.2), if_neg (fun y => hx y.2)]
    by_cases h2 : x < t
    · rw [if_pos h2, if_pos (show x < t + 1 by omega)]
    · rw [if_neg h2, if_neg (show ¬ x < t + 1 by omega)]
theorem FV_60 (h : ¬ kst V t) (hk : k ≤ t) : fvI V 60 t = (FV V k j).1 60 t := by rw [fv60, cif_n h, FV_n hk 60 (by decide)]
theorem WB_FV (hW : WB V) (hk : k ≤ tN V) (hj : j ≤ tN V) : WB (FV V k j) := by
  have E : ∀ f, (f ≠ 27 ∧ f ≠ 31 ∧ f ≠ 32 ∧ f ≠ 33 ∧ f ≠ 60) → (FV V k j).1 f = V.1 f := fun f hf => FV_o f hf
  have E2 : ∀ f, (f ≠ 34 ∧ f ≠ 43) → (FV V k j).2 f = V.2 f := fun f hf => FV_o2 f hf
  have sd : ∀ x, st (FV V k j) x → st V x := fun x hs => by
    unfold st at hs ⊢
    rw [FV_27] at hs
    by_cases h : x < j
    · rw [if_pos h] at hs; exact absurd rfl hs
    · rw [if_neg h] at hs; exact hs
  have s27 : ∀ x, st (FV V k j) x → (FV V k j).1 27 x = V.1 27 x := fun x hs => by
    unfold st at hs
    rw [FV_27] at hs ⊢
    by_cases h : x < j
    · rw [if_pos h] at hs; exact absurd rfl hs
    · rw [if_neg h]
  have e28 : ∀ x, sr (FV V k j) x = sr V x := fun x => by unfold sr; rw [E 28 (by decide)]
  have e29 : ∀ x, sp (FV V k j) x = sp V x := fun x => by unfold sp; rw [E 29 (by decide)]
  have e10 : ∀ x, fN (FV V k j) x = fN V x := fun x => by unfold fN; rw [E 10 (by decide)]
  have e1 : ∀ x, pl (FV V k j) x = pl V x := fun x => by unfold pl; rw [E 1 (by decide)]
  obtain ⟨w1, w2, w3, w4, w5, w6, w7, w8, w9, w10, w11, w12, w13, w18, w20, w22, w23, w24⟩ := hW
  refine ⟨W1_c (E 35 (by decide)) w1, W2_c (E 35 (by decide)) w2, W3_c (E 7 (by decide)) w3, W4_c (E 7 (by decide)) w4, W5_c (E 7 (by decide)) (E 9 (by decide)) (E 35 (by decide)) w5, W6_c (E 10 (by decide)) (E 35 (by decide)) w6, W7_c (E 1 (by decide)) w7, W8_c (E 2 (by decide)) w8, W9_c (E 6 (by decide)) w9, W10_c (E 5 (by decide)) w10, ?_, ?_, W13_c (E 21 (by decide)) (E 23 (by decide)) (E 35 (by decide)) w13, ?_, W20_c (E 11 (by decide)) (E 35 (by decide)) w20, W22_c (E 18 (by decide)) (E 35 (by decide)) w22, ?_, W24_c (E 6 (by decide)) (E 7 (by decide)) w24⟩
  · intro a ha hs
    rw [FV_N] at ha
    rw [e28, e29, e10, e1, E 28 (by decide), E 29 (by decide), s27 a hs]
    exact w11 a ha (sd a hs)
  · intro a b ha hb hab h1 h2 h3
    rw [FV_N] at ha hb
    rw [e28, e28] at h3
    rw [e29, e29, e10, e10]
    exact w12 a b ha hb hab (sd a h1) (sd b h2) h3
  · intro a ha
    rw [FV_N] at ha
    have w := w18 a ha
    rw [FV_1, FV_1, if_neg (show ¬ (31 = 27) by decide), if_neg (show ¬ (32 = 27) by decide)]
    by_cases h : a < k
    · rw [if_pos h, if_pos h, fv31, fv32]
      refine ⟨sh_r _ _, ?_⟩
      by_cases h2 : kst V a
      · rw [cif_p h2]; exact sh_r _ _
      · rw [cif_n h2]; exact w.2
    · rw [if_neg h, if_neg h]; exact w
  · intro a ha h2
    rw [FV_N] at ha
    have h := w23 a ha h2
    have e34 : (FV V k j).2 34 a = V.2 34 a := by rw [FV_2, if_pos rfl, if_neg (by omega)]
    have ea : ∀ f, (FV V k j).1 f a = V.1 f a := fun f => FV_t (by omega) (by omega) f
    simp only [ea, e34, E 16 (by decide), E 17 (by decide)]
    exact h
end FS
theorem cs_e {V Y : zV} {t : Nat} (h : ∀ f, (f = 1 ∨ f = 8 ∨ f = 12 ∨ f = 13 ∨ f = 15 ∨ f = 38) → Y.1 f = V.1 f) : cs Y t = cs V t := by
  unfold cs outm
  rw [h 1 (by decide), h 8 (by decide), h 13 (by decide), h 15 (by decide), h 38 (by decide)]
theorem kst_e {V Y : zV} {t : Nat} (h : ∀ f, (f = 1 ∨ f = 8 ∨ f = 12 ∨ f = 13 ∨ f = 15 ∨ f = 38) → Y.1 f = V.1 f) : kst Y t = kst V t := by
  unfold kst
  rw [cs_e h, h 12 (by decide)]
section WU
variable {K : Nat → Nat} {A : Nat → Nat → Nat} {c : zS} {V : zV} {ms z : Nat}
theorem RC_60 (h : RC K A c V ms) {t : Nat} {v : Int32} : RC K A (zui c 47 (A 9 t) 0 v) (uV V 60 t v) ms := by
  have Ez : ∀ g, (g ≠ 47) → zi (zui c 47 (A 9 t) 0 v) g = zi c g := fun g hg => zi_o hg
  have El : ∀ g, g ≠ 1000 → zl (zui c 47 (A 9 t) 0 v) g = zl c g := fun _ _ => rfl
  have Er : ∀ g, g ≠ 1000 → zr (zui c 47 (A 9 t) 0 v) g = zr c g := fun _ _ => rfl
  have E : ∀ g, (g ≠ 60) → (uV V 60 t v).1 g = V.1 g := fun g hg => uV_o hg
  have E2 : ∀ g, g ≠ 200 → (uV V 60 t v).2 g = V.2 g := fun _ _ => rfl
  refine ⟨h.1, R1_c (E 7 (by decide)) (E 35 (by decide)) (C1 h), R2_c (Er 0 (by decide)) (Er 1 (by decide)) (Er 120 (by decide)) (Er 121 (by decide)) (Er 122 (by decide)) (Er 123 (by decide)) (Er 124 (by decide)) (Er 143 (by decide)) (C2 h), R3_c (Er 144 (by decide)) (Er 145 (by decide)) (E 7 (by decide)) (E 35 (by decide)) (C3 h), R4_c (Er 40 (by decide)) (Er 81 (by decide)) (Er 83 (by decide)) (Er 84 (by decide)) (Er 85 (by decide)) (Er 100 (by decide)) (Er 101 (by decide)) (E 9 (by decide)) (E 35 (by decide)) (C4 h), R5_c (Ez 20 (by decide)) (Ez 21 (by decide)) (Ez 22 (by decide)) (Ez 41 (by decide)) (Ez 42 (by decide)) (Ez 44 (by decide)) (Ez 45 (by decide)) (Ez 46 (by decide)) (Ez 82 (by decide)) (Ez 86 (by decide)) (Ez 87 (by decide)) (Ez 88 (by decide)) (Ez 89 (by decide)) (Ez 90 (by decide)) (Ez 91 (by decide)) (Ez 92 (by decide)) (Ez 102 (by decide)) (Ez 103 (by decide)) (E 8 (by decide)) (E 10 (by decide)) (E 11 (by decide)) (E 12 (by decide)) (E 13 (by decide)) (E 14 (by decide)) (E 15 (by decide)) (E 18 (by decide)) (E 19 (by decide)) (E 20 (by decide)) (E 21 (by decide)) (E 23 (by decide)) (E 24 (by decide)) (E 25 (by decide)) (E 27 (by decide)) (E 28 (by decide)) (E 29 (by decide)) (E 30 (by decide)) (E 31 (by decide)) (E 32 (by decide)) (E 33 (by decide)) (E 35 (by decide)) (C5 h), R6_c (Ez 141 (by decide)) (Ez 142 (by decide)) (E 16 (by decide)) (E 17 (by decide)) (E 35 (by decide)) (C6 h), R7_c (Ez 2 (by decide)) (Ez 140 (by decide)) (E 1 (by decide)) (E 2 (by decide)) (C7 h), R8_c (Ez 60 (by decide)) (Ez 61 (by decide)) (Ez 62 (by decide)) (Ez 63 (by decide)) (Ez 64 (by decide)) (E 3 (by decide)) (E 4 (by decide)) (E 5 (by decide)) (E 6 (by decide)) (E 7 (by decide)) (C8 h), R9_c (Ez 43 (by decide)) (Ez 80 (by decide)) (El 93 (by decide)) (E 21 (by decide)) (E 22 (by decide)) (E 35 (by decide)) (E2 34 (by decide)) (C9 h), R10_c (Ez 125 (by decide)) (Ez 126 (by decide)) (Ez 127 (by decide)) (Ez 128 (by decide)) (Ez 129 (by decide)) (Ez 130 (by decide)) (Ez 131 (by decide)) (El 134 (by decide)) (El 135 (by decide)) (El 136 (by decide)) (El 137 (by decide)) (E 7 (by decide)) (E 35 (by decide)) (E 36 (by decide)) (E 37 (by decide)) (E 38 (by decide)) (E 39 (by decide)) (E 40 (by decide)) (E 41 (by decide)) (E 42 (by decide)) (E2 43 (by decide)) (E2 44 (by decide)) (C10 h), R11_c (Ez 65 (by decide)) (E 7 (by decide)) (E 9 (by decide)) (E 27 (by decide)) (E 35 (by decide)) (C11 h), R12_c (Ez 132 (by decide)) (Ez 133 (by decide)) (E 8 (by decide)) (E 27 (by decide)) (E 35 (by decide)) (C12 h), R13_c (Er 148 (by decide)) (E 10 (by decide)) (E 27 (by decide)) (E 28 (by decide)) (E 29 (by decide)) (E 35 (by decide)) (C13 h), R14_c (Er 146 (by decide)) (E 11 (by decide)) (E 35 (by decide)) (C14 h), ?_⟩
  intro j hj
  rw [zi_zui, uV_1]
  by_cases e : j = t
  · rw [if_pos ⟨rfl, by rw [e], rfl⟩, if_pos ⟨rfl, e⟩]
  · rw [if_neg (fun x => e (h.1 _ _ _ _ x.2.1).2), if_neg (fun x => e x.2)]; exact C15 h j hj
theorem k_could (h : RC K A c V ms) {t : Nat} (ht : t < tN V) : f_X6_couldStand K z c ms (A 4 t) = some (oi (kst V t)) := by
  unfold f_X6_couldStand
  rw [kn_83 h ht, rt_20_5 h ht, rt_21_5 h ht]
  by_cases h1 : V.1 12 t = 0
  · rw [if_pos h1, oi_n (fun x => x.1 h1)]
  · rw [if_neg h1, k_outm h ht, zb_s]
    by_cases h2 : outm V t
    · rw [oi_p h2, if_neg (by decide), oi_n (fun x => x.2.2 h2)]
    · rw [oi_n h2, if_pos rfl]
      rcases in_of (p := V.1 13 t) (N := 40) (n := 40) rfl (by decide) with ⟨i, hi, ei⟩ | hp
      · rw [ei, k_row h hi, zb_s, zo_s ((C1 h).1 i hi).1, (C7 h i hi).1]
        by_cases h3 : V.1 1 i ≤ 0
        · rw [if_pos h3, oi_n]
          rintro ⟨-, ⟨i', hi', ei', h4⟩, -⟩
          have e : i' = i := ((nI_eq (by omega) (by omega)).mp (ei.symm.trans ei')).symm
          subst e
          exact h4 h3
        · rw [if_neg h3, oi_p ⟨h1, ⟨i, hi, ei, h3⟩, h2⟩]
      · rw [k_rowO hp, zb_s, zo_n, oi_n]
        rintro ⟨-, ⟨i', hi', ei', -⟩, -⟩
        exact no_row hp hi' ei'
theorem oi_if {P : Prop} : (if oi P = 0 then (0 : Int32) else 1) = oi P := by
  by_cases h : P
  · rw [oi_p h, if_neg (by decide)]
  · rw [oi_n h, if_pos rfl]
theorem k_wu98 {t : Nat} {X : zV} (h : RC K A c X ms) (ht : t < tN X) {P : Prop} (x32 : X.1 32 t = V.1 32 t) : f_X6_writeUpDay_98 K z ms (A 4 t) c (A 9 t) (A 9 t) (oi P) = some (zui (zui c 47 (A 9 t) 0 (oi P)) 91 (A 4 t) 0 (sh (V.1 32 t) (oi P))) ∧ RC K A (zui (zui c 47 (A 9 t) 0 (oi P)) 91 (A 4 t) 0 (sh (V.1 32 t) (oi P))) (uV (uV X 60 t (oi P)) 32 t (sh (V.1 32 t) (oi P))) ms := by
  have h1 := RC_60 h (t := t) (v := oi P)
  have h2 := RC_u (f := 91) (k := 4) (m := 32) (t := t) (v := sh (V.1 32 t) (oi P)) h1 (by decide) (by decide) (by decide)
  refine ⟨?_, h2⟩
  unfold f_X6_writeUpDay_98
  have e47 : zi (zui c 47 (A 9 t) 0 (oi P)) 47 (A 9 t) 0 = oi P := by rw [zi_zui, if_pos ⟨rfl, rfl, rfl⟩]
  have e91 : zi (zui c 47 (A 9 t) 0 (oi P)) 91 (A 4 t) 0 = V.1 32 t := by rw [zi_o (by decide), rt_91_4 h ht, x32]
  rw [zz_p oi_b, zlet, k_oneIf, zb_s, e47, oi_if, e91, zlet]
  rfl
theorem k_wu48 (hW : WB V) {t : Nat} (ht : t < tN V) (h : RC K A c (uV (FV V t (t + 1)) 33 t (fvI V 33 t)) ms) : ∃ c', f_X6_writeUpDay_48 K z ms (A 4 t) c (A 9 t) = some c' ∧ RC K A c' (FV V (t + 1) (t + 1)) ms ∧ (∀ f, f ≠ 148 → zr c' f = zr c f) := by
  have x : ∀ f, f ≠ 27 → f ≠ 33 → (uV (FV V t (t + 1)) 33 t (fvI V 33 t)).1 f t = V.1 f t := fun f h1 h2 => by rw [uV_o h2, FV_n (Nat.le_refl _) f h1]
  have htX : t < tN (uV (FV V t (t + 1)) 33 t (fvI V 33 t)) := by
    have : tN (uV (FV V t (t + 1)) 33 t (fvI V 33 t)) = tN (FV V t (t + 1)) := rfl
    rw [this, FV_N]; exact ht
  have h1 := RC_u (f := 90) (k := 4) (m := 31) (t := t) (v := fvI V 31 t) h (by decide) (by decide) (by decide)
  have htX1 : t < tN (uV (uV (FV V t (t + 1)) 33 t (fvI V 33 t)) 31 t (fvI V 31 t)) := htX
  have y : ∀ f, f ≠ 27 → f ≠ 33 → f ≠ 31 → (uV (uV (FV V t (t + 1)) 33 t (fvI V 33 t)) 31 t (fvI V 31 t)).1 f t = V.1 f t := fun f h1 h2 h3 => by rw [uV_o h3]; exact x f h1 h2
  have ek : kst (uV (uV (FV V t (t + 1)) 33 t (fvI V 33 t)) 31 t (fvI V 31 t)) t = kst V t := kst_e (fun f hf => by rw [uV_o (by omega), uV_o (by omega), FV_o f (by omega)])
  have e31 : ((V.1 31 t <<< ((1 : Int32) &&& 31)) ||| (if V.1 21 t = 0 then 0 else 1)) &&& 255 = fvI V 31 t := (fv31 V t).symm
  unfold f_X6_writeUpDay_48
  rw [rt_42_9 h htX, x 21 (by decide) (by decide), k_oneIf, zb_s, rt_90_4 h htX, x 31 (by decide) (by decide), e31, zlet, k_could h1 htX1, ek, zb_s]
  by_cases hk : kst V t
  · rw [oi_p hk, if_neg (by decide), rt_42_9 h1 htX1, y 21 (by decide) (by decide) (by decide), (C9 h1 t htX1).2.1, y 21 (by decide) (by decide) (by decide), y 22 (by decide) (by decide) (by decide)]
    have FIN : ∃ c', f_X6_writeUpDay_98 K z ms (A 4 t) (zui c 90 (A 4 t) 0 (fvI V 31 t)) (A 9 t) (A 9 t) (oi (aw V t)) = some c' ∧ RC K A c' (FV V (t + 1) (t + 1)) ms ∧ (∀ f, f ≠ 148 → zr c' f = zr c f) := by
      obtain ⟨a1, a2⟩ := k_wu98 (z := z) (V := V) h1 htX1 (P := aw V t) (y 32 (by decide) (by decide) (by decide))
      refine ⟨_, a1, ?_, fun _ _ => rfl⟩
      have e60 : fvI V 60 t = oi (aw V t) := by rw [fv60, cif_p hk]
      have e32 : fvI V 32 t = sh (V.1 32 t) (oi (aw V t)) := by rw [fv32, cif_p hk]
      rw [← FV_step, e60, e32]
      exact a2
    by_cases d1 : V.1 21 t = 0
    · rw [if_pos d1, if_pos d1]
      by_cases d2 : V.1 22 t = 0
      · rw [if_pos d2]
        rw [oi_p (show aw V t from ⟨d1, d2⟩)] at FIN
        exact FIN
      · rw [if_neg d2, f_X6_writeUpDay_97]
        rw [oi_n (show ¬ aw V t from fun z => d2 z.2)] at FIN
        exact FIN
    · rw [if_neg d1, f_X6_writeUpDay_97]
      rw [oi_n (show ¬ aw V t from fun z => d1 z.1)] at FIN
      exact FIN
  · rw [oi_n hk, if_pos rfl]
    refine ⟨_, rfl, ?_, fun _ _ => rfl⟩
    have e60 : fvI V 60 t = (uV (uV (FV V t (t + 1)) 33 t (fvI V 33 t)) 31 t (fvI V 31 t)).1 60 t := by rw [y 60 (by decide) (by decide) (by decide), fv60, cif_n hk]
    have e32 : fvI V 32 t = (uV (uV (FV V t (t + 1)) 33 t (fvI V 33 t)) 31 t (fvI V 31 t)).1 32 t := by rw [y 32 (by decide) (by decide) (by decide), fv32, cif_n hk]
    rw [← FV_step, e60, uV_self, e32, uV_self]
    exact h1
theorem goV_33 {X : zV} {t : Nat} {v : Int32} : goV (uV X 33 t v) t = uV (goV X t) 33 t v := by
  have ef : feV (uV X 33 t v) t = feV X t := by
    unfold feV tr
    rw [uV_o (show 8 ≠ 33 by decide), uV_o (show 10 ≠ 33 by decide), uV_o (show 39 ≠ 33 by decide), uV_o (show 30 ≠ 33 by decide), uV_o (show 3 ≠ 33 by decide), uV_o (show 9 ≠ 33 by decide)]
  unfold goV
  rw [ef, uV_2]
  refine Prod.ext ?_ rfl
  show (uV (uV X 33 t v) 27 t 0).1 = (uV (uV X 27 t 0) 33 t v).1
  rw [uV_cm (show 33 ≠ 27 by decide)]
theorem k_wu32 (hW : WB V) (hz : 300 ≤ z) {t : Nat} (ht : t < tN V) (h : RC K A c (uV (FV V t t) 33 t (fvI V 33 t)) ms) : ∃ c', f_X6_writeUpDay_32 K z ms (A 4 t) c (A 9 t) = some c' ∧ RC K A c' (FV V (t + 1) (t + 1)) ms ∧ (∀ f, f ≠ 148 → zr c' f = zr c f) := by
  have hX : WB (uV (FV V t t) 33 t (fvI V 33 t)) := by
    have E : ∀ f, (f ≠ 33) → (uV (FV V t t) 33 t (fvI V 33 t)).1 f = (FV V t t).1 f := fun f hf => uV_o hf
    have E2 : ∀ f, f ≠ 200 → (uV (FV V t t) 33 t (fvI V 33 t)).2 f = (FV V t t).2 f := fun _ _ => rfl
    obtain ⟨w1, w2, w3, w4, w5, w6, w7, w8, w9, w10, w11, w12, w13, w18, w20, w22, w23, w24⟩ := WB_FV hW (k := t) (j := t) (by omega) (by omega)
    exact ⟨W1_c (E 35 (by decide)) w1, W2_c (E 35 (by decide)) w2, W3_c (E 7 (by decide)) w3, W4_c (E 7 (by decide)) w4, W5_c (E 7 (by decide)) (E 9 (by decide)) (E 35 (by decide)) w5, W6_c (E 10 (by decide)) (E 35 (by decide)) w6, W7_c (E 1 (by decide)) w7, W8_c (E 2 (by decide)) w8, W9_c (E 6 (by decide)) w9, W10_c (E 5 (by decide)) w10, W11_c (E 1 (by decide)) (E 10 (by decide)) (E 27 (by decide)) (E 28 (by decide)) (E 29 (by decide)) (E 35 (by decide)) w11, W12_c (E 10 (by decide)) (E 27 (by decide)) (E 28 (by decide)) (E 29 (by decide)) (E 35 (by decide)) w12, W13_c (E 21 (by decide)) (E 23 (by decide)) (E 35 (by decide)) w13, W18_c (E 31 (by decide)) (E 32 (by decide)) (E 35 (by decide)) w18, W20_c (E 11 (by decide)) (E 35 (by decide)) w20, W22_c (E 18 (by decide)) (E 35 (by decide)) w22, W23_c (E 12 (by decide)) (E 13 (by decide)) (E 14 (by decide)) (E 16 (by decide)) (E 17 (by decide)) (E 18 (by decide)) (E 19 (by decide)) (E 20 (by decide)) (E 21 (by decide)) (E 22 (by decide)) (E 23 (by decide)) (E 24 (by decide)) (E 25 (by decide)) (E 26 (by decide)) (E 27 (by decide)) (E 28 (by decide)) (E 29 (by decide)) (E 30 (by decide)) (E 31 (by decide)) (E 32 (by decide)) (E 35 (by decide)) (E2 34 (by decide)) w23, W24_c (E 6 (by decide)) (E 7 (by decide)) w24⟩
  have htX : t < tN (uV (FV V t t) 33 t (fvI V 33 t)) := by
    have : tN (uV (FV V t t) 33 t (fvI V 33 t)) = tN (FV V t t) := rfl
    rw [this, FV_N]; exact ht
  have x27 : (uV (FV V t t) 33 t (fvI V 33 t)).1 27 t = V.1 27 t := by rw [uV_o (by decide), FV_t (Nat.le_refl _) (Nat.le_refl _)]
  unfold f_X6_writeUpDay_32
  rw [kn_40 h htX, rt_20_10 h htX, x27]
  by_cases hs : V.1 27 t = 0
  · rw [if_pos hs]
    exact k_wu48 hW ht (by rw [FV_ns (fun y => y hs)]; exact h)
  · rw [if_neg hs]
    obtain ⟨c2, a1, a2, a3⟩ := k_charge (z := z) h hX hz (t := t) htX (by unfold st; rw [x27]; exact hs)
    rw [goV_33, FV_go hs] at a2
    rw [a1, zb2_s]
    obtain ⟨c3, b1, b2, b3⟩ := k_wu48 (z := z) hW ht a2
    exact ⟨c3, b1, b2, fun f hf => (b3 f hf).trans (a3 f hf)⟩
theorem k_writeUp (hW : WB V) (hz : 300 ≤ z) {t : Nat} (ht : t < tN V) (h : RC K A c (FV V t t) ms) : ∃ c', f_X6_writeUpDay K z c ms (A 4 t) = some c' ∧ RC K A c' (FV V (t + 1) (t + 1)) ms ∧ (∀ f, f ≠ 148 → zr c' f = zr c f) := by
  have htX : t < tN (FV V t t) := by rw [FV_N]; exact ht
  have x : ∀ f, (FV V t t).1 f t = V.1 f t := fun f => FV_t (Nat.le_refl _) (Nat.le_refl _) f
  have S22 : (st V t ∨ ¬ V.1 25 t = 0) → ∃ c', f_X6_writeUpDay_22 K z ms (A 4 t) c (A 9 t) = some c' ∧ RC K A c' (FV V (t + 1) (t + 1)) ms ∧ (∀ f, f ≠ 148 → zr c' f = zr c f) := by
    intro hs
    unfold f_X6_writeUpDay_22
    have e33 : V.1 40 0 - 1 = fvI V 33 t := by rw [fv33, cif_p hs]
    rw [zlet, (C10 h).2.2.2.2.1, FV_o 40 (by decide), e33]
    exact k_wu32 hW hz ht (RC_u h (by decide) (by decide) (by decide))
  unfold f_X6_writeUpDay
  rw [kn_85 h htX, kn_40 h htX, rt_20_10 h htX, x, rt_46_9 h htX, x]
  by_cases h1 : V.1 27 t = 0
  · rw [if_pos h1]
    by_cases h2 : V.1 25 t = 0
    · rw [if_pos h2]
      have e33 : fvI V 33 t = (FV V t t).1 33 t := by rw [fv33, x, cif_n (fun y => y.elim (fun y => y h1) (fun y => y h2))]
      exact k_wu32 hW hz ht (by rw [e33, uV_self]; exact h)
    · rw [if_neg h2]; exact S22 (Or.inr h2)
  · rw [if_neg h1]; exact S22 (Or.inl h1)
theorem k_close8 (hW : WB V) (hz : 300 ≤ z) : ∀ (nn t : Nat) (c : zS), RC K A c (FV V t t) ms → t ≤ tN V → tN V - t < nn → ∃ (m : Nat) (c1 : zS), f_X6_close_8 K z ms nn c (nI t) = f_X6_close_8 K z ms (m + 1) c1 (nI (tN V)) ∧ RC K A c1 (FV V (tN V) (tN V)) ms := by
  have hN := WB_2 hW
  intro nn
  induction nn with
  | zero => intro t c _ hk h; omega
  | succ nn ih =>
    intro t c h hk hh
    by_cases h1 : tN V ≤ t
    · have e : t = tN V := by omega
      subst e
      exact ⟨nn, c, rfl, h⟩
    · have ht : t < tN V := by omega
      have htX : t < tN (FV V t t) := by rw [FV_N]; exact ht
      have w35 : (FV V t t).1 35 0 = nI (tN V) := by rw [FV_o 35 (by decide)]; exact WB_1 hW
      obtain ⟨c2, a1, a2, a3⟩ := k_writeUp (z := z) hW hz ht h
      rw [f_X6_close_8, (C10 h).2.1, w35, iLE (by omega) (by omega), if_neg h1, kn_122 h, zx_2 (by omega), cl_ (by omega), kn_145 h htX (by omega), a1, zb_s, zlet, nI_1]
      exact ih (t + 1) c2 a2 (by omega) (by omega)
end WU

/-! the same by the reference -/
def st60 (W : zV) : zV := (fun f x => if f = 60 then 0 else W.1 f x, W.2)
theorem st60_o {W : zV} {f : Nat} (h : f ≠ 60) : (st60 W).1 f = W.1 f := by funext x; exact if_neg h
theorem st60_u {W : zV} {f t : Nat} {v : Int32} (h : f ≠ 60) : st60 (uV W f t v) = uV (st60 W) f t v := by
  refine zV_ext (fun g x => ?_) (fun _ _ => rfl)
  show (if g = 60 then (0 : Int32) else if g = f ∧ x = t then v else W.1 g x) = if g = f ∧ x = t then v else if g = 60 then 0 else W.1 g x
  by_cases h1 : g = 60
  · rw [if_pos h1, if_neg (fun y => h (y.1.symm.trans h1)), if_pos h1]
  · rw [if_neg h1, if_neg h1]
theorem st60_60 {W : zV} {t : Nat} {v : Int32} : st60 (uV W 60 t v) = st60 W := by
  refine zV_ext (fun g x => ?_) (fun _ _ => rfl)
  show (if g = 60 then (0 : Int32) else if g = 60 ∧ x = t then v else W.1 g x) = if g = 60 then 0 else W.1 g x
  by_cases h1 : g = 60
  · rw [if_pos h1, if_pos h1]
  · rw [if_neg h1, if_neg h1, if_neg (fun y => h1 y.1)]
theorem WB_60 {W : zV} (hW : WB W) : WB (st60 W) := by
  have E : ∀ f, (f ≠ 60) → (st60 W).1 f = W.1 f := fun f hf => st60_o hf
  have E2 : ∀ f, f ≠ 200 → (st60 W).2 f = W.2 f := fun _ _ => rfl
  obtain ⟨w1, w2, w3, w4, w5, w6, w7, w8, w9, w10, w11, w12, w13, w18, w20, w22, w23, w24⟩ := hW
  exact ⟨W1_c (E 35 (by decide)) w1, W2_c (E 35 (by decide)) w2, W3_c (E 7 (by decide)) w3, W4_c (E 7 (by decide)) w4, W5_c (E 7 (by decide)) (E 9 (by decide)) (E 35 (by decide)) w5, W6_c (E 10 (by decide)) (E 35 (by decide)) w6, W7_c (E 1 (by decide)) w7, W8_c (E 2 (by decide)) w8, W9_c (E 6 (by decide)) w9, W10_c (E 5 (by decide)) w10, W11_c (E 1 (by decide)) (E 10 (by decide)) (E 27 (by decide)) (E 28 (by decide)) (E 29 (by decide)) (E 35 (by decide)) w11, W12_c (E 10 (by decide)) (E 27 (by decide)) (E 28 (by decide)) (E 29 (by decide)) (E 35 (by decide)) w12, W13_c (E 21 (by decide)) (E 23 (by decide)) (E 35 (by decide)) w13, W18_c (E 31 (by decide)) (E 32 (by decide)) (E 35 (by decide)) w18, W20_c (E 11 (by decide)) (E 35 (by decide)) w20, W22_c (E 18 (by decide)) (E 35 (by decide)) w22, W23_c (E 12 (by decide)) (E 13 (by decide)) (E 14 (by decide)) (E 16 (by decide)) (E 17 (by decide)) (E 18 (by decide)) (E 19 (by decide)) (E 20 (by decide)) (E 21 (by decide)) (E 22 (by decide)) (E 23 (by decide)) (E 24 (by decide)) (E 25 (by decide)) (E 26 (by decide)) (E 27 (by decide)) (E 28 (by decide)) (E 29 (by decide)) (E 30 (by decide)) (E 31 (by decide)) (E 32 (by decide)) (E 35 (by decide)) (E2 34 (by decide)) w23, W24_c (E 6 (by decide)) (E 7 (by decide)) w24⟩
noncomputable def los (V : zV) (t : Nat) : Prop := kst V t ∧ aw V t ∧ ¬ bcv (fvI V 32 t) ≤ 2
section MC
variable {K : Nat → Nat} {ra : Nat → Nat} {r : zS} {V : zV} {mo z : Nat}
theorem m_close30 (hW : WB V) (h60 : ∀ x, V.1 60 x = 0) : ∀ (nn j : Nat) (r : zS), MS K ra mo r → vr ra mo r = FV V 0 j → j ≤ tN V → tN V - j < nn → ∃ (m : Nat) (r1 : zS), f_X7_close_30 K z mo nn r (nI j) = f_X7_close_30 K z mo (m + 1) r1 (nI (tN V)) ∧ MS K ra mo r1 ∧ vr ra mo r1 = FV V 0 (tN V) ∧ zi r1 0 mo 0 = zi r 0 mo 0 := by
  have hN := WB_2 hW
  intro nn
  induction nn with
  | zero => intro j r _ _ hk h; omega
  | succ nn ih =>
    intro j r hM hV hk hh
    by_cases h1 : tN V ≤ j
    · have e : j = tN V := by omega
      subst e
      exact ⟨nn, r, rfl, hM, hV, rfl⟩
    · have hj : j < tN V := by omega
      have w35 : (FV V 0 j).1 35 0 = nI (tN V) := by rw [FV_o 35 (by decide)]; exact WB_1 hW
      have r27 : zi r 127 (ra 27) j = V.1 27 j := by rw [rd_27 (ra := ra) (mo := mo), hV, FV_t (Nat.zero_le _) (Nat.le_refl _)]
      rw [f_X7_close_30, rd_35 (ra := ra) (mo := mo), hV, w35, iLE (by omega) (by omega), if_neg h1, zq_27 hM, zx_2 (by omega), cl_ (by omega), r27]
      by_cases h2 : V.1 27 j = 0
      · rw [if_pos h2, zlet, nI_1]
        exact ih (j + 1) r hM (by rw [hV, FV_ns (fun y => y h2)]) (by omega) (by omega)
      · rw [if_neg h2]
        obtain ⟨r2, b1, b2, b3, b4⟩ := m_goes (z := z) hM hV (WB_FV hW (Nat.zero_le _) (by omega)) (t := j) (by rw [FV_N]; exact hj)
        rw [b1, zb2_s, zlet, nI_1]
        rw [FV_go h2] at b3
        obtain ⟨m, r3, g1, g2, g3, g4⟩ := ih (j + 1) r2 b2 b3 (by omega) (by omega)
        exact ⟨m, r3, g1, g2, g3, by rw [g4, b4]⟩
theorem m_close206 (hM : MS K ra mo r) (hz : 300 ≤ z) {t : Nat} (ht : t < 200) {v3 : Int32} {X : zV} (hV : vr ra mo r = X) {m : Nat} (hm : m < 256) (hm2 : X.1 32 t = nI m) (rec61 : zS → Int32 → Option (Int32 × zS)) : f_X7_close_206 K z mo rec61 r (nI t) v3 = rec61 (zui r 150 (ra 50) t (oi (¬ v3 = 0 ∧ ¬ bcv (X.1 32 t) ≤ 2))) (nI (t + 1)) := by
  unfold f_X7_close_206
  rw [zq_50 hM]
  by_cases h : v3 = 0
  · rw [if_pos h, zx_2 ht, zlet, zlet, nI_1, cl_ (by omega), oi_n (fun x => x.1 h)]
  · rw [if_neg h, zq_32 hM, zx_2 ht, cl_ (by omega), rd_32 (ra := ra) (mo := mo), hV, m_bitsN hz hm hm2, zb_s]
    by_cases h2 : bcv (X.1 32 t) ≤ 2
    · rw [if_pos h2, zx_2 ht, zlet, zlet, nI_1, oi_n (fun x => x.2 h2)]
    · rw [if_neg h2, zx_2 ht, zlet, zlet, nI_1, oi_p ⟨h, h2⟩]
theorem m_close117 (hM : MS K ra mo r) (hW : WB V) (hz : 300 ≤ z) {t N : Nat} (ht : t < tN V) (hN : N = tN V) (hV : vr ra mo r = uV (uV (st60 (FV V t N)) 33 t (fvI V 33 t)) 31 t (fvI V 31 t)) (rec61 : zS → Int32 → Option (Int32 × zS)) : ∃ r1, (zn K (zr r 12 mo 0) 112 fun a26 => zx (nI t) 200 <| (if (zi r 112 a26 (Int32.toNatClampNeg (nI t))) = 0 then f_X7_close_144 K z mo rec61 r (nI t) else zb (f_X7_couldStand K z r mo (nI t)) fun x49 => (if x49 = 0 then f_X7_close_144 K z mo rec61 r (nI t) else f_X7_close_145 K z mo rec61 r (nI t) 1))) = rec61 r1 (nI (t + 1)) ∧ MS K ra mo r1 ∧ vr ra mo r1 = st60 (FV V (t + 1) N) ∧ zi r1 0 mo 0 = zi r 0 mo 0 ∧ zi r1 150 (ra 50) t = oi (los V t) ∧ ∀ i, i ≠ t → zi r1 150 (ra 50) i = zi r 150 (ra 50) i := by
  have ht2 : t < 200 := by have := WB_2 hW; omega
  have ht8 : t < 8000 := by omega
  subst hN
  have E0 : ∀ f, f ≠ 60 → f ≠ 33 → f ≠ 31 → f ≠ 27 → (uV (uV (st60 (FV V t (tN V))) 33 t (fvI V 33 t)) 31 t (fvI V 31 t)).1 f t = V.1 f t := fun f a b d e => by rw [uV_o d, uV_o b, st60_o a, FV_n (Nat.le_refl _) f e]
  have hX : WB (uV (uV (st60 (FV V t (tN V))) 33 t (fvI V 33 t)) 31 t (fvI V 31 t)) := by
    have E : ∀ f, (f ≠ 33 ∧ f ≠ 31) → (uV (uV (st60 (FV V t (tN V))) 33 t (fvI V 33 t)) 31 t (fvI V 31 t)).1 f = (st60 (FV V t (tN V))).1 f := fun f hf => by rw [uV_o hf.2, uV_o hf.1]
    have E2 : ∀ f, f ≠ 200 → (uV (uV (st60 (FV V t (tN V))) 33 t (fvI V 33 t)) 31 t (fvI V 31 t)).2 f = (st60 (FV V t (tN V))).2 f := fun _ _ => rfl
    obtain ⟨w1, w2, w3, w4, w5, w6, w7, w8, w9, w10, w11, w12, w13, w18, w20, w22, w23, w24⟩ := WB_60 (WB_FV hW (k := t) (j := tN V) (by omega) (Nat.le_refl _))
    refine ⟨W1_c (E 35 (by decide)) w1, W2_c (E 35 (by decide)) w2, W3_c (E 7 (by decide)) w3, W4_c (E 7 (by decide)) w4, W5_c (E 7 (by decide)) (E 9 (by decide)) (E 35 (by decide)) w5, W6_c (E 10 (by decide)) (E 35 (by decide)) w6, W7_c (E 1 (by decide)) w7, W8_c (E 2 (by decide)) w8, W9_c (E 6 (by decide)) w9, W10_c (E 5 (by decide)) w10, W11_c (E 1 (by decide)) (E 10 (by decide)) (E 27 (by decide)) (E 28 (by decide)) (E 29 (by decide)) (E 35 (by decide)) w11, W12_c (E 10 (by decide)) (E 27 (by decide)) (E 28 (by decide)) (E 29 (by decide)) (E 35 (by decide)) w12, W13_c (E 21 (by decide)) (E 23 (by decide)) (E 35 (by decide)) w13, ?_, W20_c (E 11 (by decide)) (E 35 (by decide)) w20, W22_c (E 18 (by decide)) (E 35 (by decide)) w22, ?_, W24_c (E 6 (by decide)) (E 7 (by decide)) w24⟩
    · intro a ha
      have w := w18 a ha
      refine ⟨?_, by rw [E 32 (by decide)]; exact w.2⟩
      by_cases e : a = t
      · rw [e, uV_s, fv31]; exact sh_r _ _
      · rw [uV_t e, uV_o (by decide)]; exact w.1
    · intro a ha h2
      have e1 : tN (uV (uV (st60 (FV V t (tN V))) 33 t (fvI V 33 t)) 31 t (fvI V 31 t)) = tN (FV V t (tN V)) := rfl
      have w := w23 a ha h2
      rw [e1, FV_N] at ha
      have hne : a ≠ t := by omega
      simp only [uV_n hne, E 16 (by decide), E 17 (by decide)]
      exact w
  have htX : t < tN (uV (uV (st60 (FV V t (tN V))) 33 t (fvI V 33 t)) 31 t (fvI V 31 t)) := by
    have : tN (uV (uV (st60 (FV V t (tN V))) 33 t (fvI V 33 t)) 31 t (fvI V 31 t)) = tN (FV V t (tN V)) := rfl
    rw [this, FV_N]; exact ht
  have ecs : cs (uV (uV (st60 (FV V t (tN V))) 33 t (fvI V 33 t)) 31 t (fvI V 31 t)) t = cs V t := cs_e (fun f hf => by rw [uV_o (by omega), uV_o (by omega), st60_o (by omega), FV_o f (by omega)])
  have NEXT : st60 (FV V (t + 1) (tN V)) = uV (uV (uV (st60 (FV V t (tN V))) 33 t (fvI V 33 t)) 31 t (fvI V 31 t)) 32 t (fvI V 32 t) := by
    rw [← FV_step, st60_u (by decide), st60_60, st60_u (by decide), st60_u (by decide)]
  have r12 : zi r 112 (ra 12) t = V.1 12 t := by rw [rd_12 (ra := ra) (mo := mo), hV]; exact E0 12 (by decide) (by decide) (by decide) (by decide)
  have r21 : zi r 121 (ra 21) t = V.1 21 t := by rw [rd_21 (ra := ra) (mo := mo), hV]; exact E0 21 (by decide) (by decide) (by decide) (by decide)
  have r22 : zi r 122 (ra 22) t = V.1 22 t := by rw [rd_22 (ra := ra) (mo := mo), hV]; exact E0 22 (by decide) (by decide) (by decide) (by decide)
  have r32 : zi r 132 (ra 32) t = V.1 32 t := by rw [rd_32 (ra := ra) (mo := mo), hV]; exact E0 32 (by decide) (by decide) (by decide) (by decide)
  have x32 := E0 32 (by decide) (by decide) (by decide) (by decide)
  -- nothing is written
  have NOT : ¬ kst V t → ∃ r1, f_X7_close_144 K z mo rec61 r (nI t) = rec61 r1 (nI (t + 1)) ∧ MS K ra mo r1 ∧ vr ra mo r1 = st60 (FV V (t + 1) (tN V)) ∧ zi r1 0 mo 0 = zi r 0 mo 0 ∧ zi r1 150 (ra 50) t = oi (los V t) ∧ ∀ i, i ≠ t → zi r1 150 (ra 50) i = zi r 150 (ra 50) i := by
    intro hk
    obtain ⟨m, hm, em⟩ := (WB_18 hX htX).2
    refine ⟨zui r 150 (ra 50) t (oi (¬ (0 : Int32) = 0 ∧ ¬ bcv ((uV (uV (st60 (FV V t (tN V))) 33 t (fvI V 33 t)) 31 t (fvI V 31 t)).1 32 t) ≤ 2)), ?_, hM, ?_, by rw [zi_o (by decide)], ?_, fun i hi => ?_⟩
    · rw [f_X7_close_144, f_X7_close_145, if_pos rfl, f_X7_close_172, f_X7_close_173, if_pos rfl]
      exact m_close206 hM hz ht2 hV hm em rec61
    · rw [vw_50, hV, NEXT]
      have e32 : fvI V 32 t = (uV (uV (st60 (FV V t (tN V))) 33 t (fvI V 33 t)) 31 t (fvI V 31 t)).1 32 t := by rw [x32, fv32, cif_n hk]
      rw [e32, uV_self]
    · rw [zi_zui, if_pos ⟨rfl, rfl, rfl⟩, oi_n (fun x => x.1 rfl), oi_n (fun x => hk x.1)]
    · rw [zi_zui, if_neg (fun x => hi x.2.2)]
  -- the day counts
  have CNT : kst V t → ∀ P : Prop, (P ↔ aw V t) → ∃ r1, f_X7_close_173 K z mo rec61 r (nI t) 1 (oi P) = rec61 r1 (nI (t + 1)) ∧ MS K ra mo r1 ∧ vr ra mo r1 = st60 (FV V (t + 1) (tN V)) ∧ zi r1 0 mo 0 = zi r 0 mo 0 ∧ zi r1 150 (ra 50) t = oi (los V t) ∧ ∀ i, i ≠ t → zi r1 150 (ra 50) i = zi r 150 (ra 50) i := by
    intro hk P hP
    have eP : oi (aw V t) = oi P := oi_c hP.symm
    have e32 : fvI V 32 t = sh (V.1 32 t) (oi P) := by rw [fv32, cif_p hk, eP]
    have hM2 : MS K ra mo (zui r 132 (ra 32) t (fvI V 32 t)) := hM
    have hV2 : vr ra mo (zui r 132 (ra 32) t (fvI V 32 t)) = st60 (FV V (t + 1) (tN V)) := by rw [vw_32, hV, NEXT]
    have x32b : (st60 (FV V (t + 1) (tN V))).1 32 t = fvI V 32 t := by rw [NEXT, uV_s]
    obtain ⟨m, hm, em⟩ : ∃ m, m < 256 ∧ (st60 (FV V (t + 1) (tN V))).1 32 t = nI m := by rw [x32b, e32]; exact sh_r _ _
    have M := m_close206 (z := z) hM2 hz ht2 (v3 := oi P) hV2 hm em rec61
    have U : f_X7_close_173 K z mo rec61 r (nI t) 1 (oi P) = f_X7_close_206 K z mo rec61 (zui r 132 (ra 32) t (fvI V 32 t)) (nI t) (oi P) := by
      rw [f_X7_close_173, if_neg (by decide), zq_32 hM, zx_2 ht2, cl_ ht8, r32, e32]
      by_cases h : P
      · rw [oi_p h, if_neg (by decide), f_X7_close_200, zx_2 ht2, zlet, cl_ ht8]; rfl
      · rw [oi_n h, if_pos rfl, f_X7_close_200, zx_2 ht2, zlet, cl_ ht8]; rfl
    refine ⟨_, U.trans M, hM2, by rw [vw_50]; exact hV2, by rw [zi_o (by decide), zi_o (by decide)], ?_, fun i hi => ?_⟩
    · rw [zi_zui, if_pos ⟨rfl, rfl, rfl⟩, x32b]
      refine oi_c ⟨fun y => ⟨hk, hP.mp (Classical.byContradiction fun w => y.1 (oi_n w)), y.2⟩, fun y => ⟨?_, y.2.2⟩⟩
      rw [oi_p (hP.mpr y.2.1)]; decide
    · rw [zi_zui, if_neg (fun x => hi x.2.2), zi_o (by decide)]
  rw [zq_12 hM, zx_2 ht2, cl_ ht8, r12]
  by_cases d1 : V.1 12 t = 0
  · rw [if_pos d1]; exact NOT (fun x => x.1 d1)
  · rw [if_neg d1, m_couldStand hM hV hX htX, ecs, zb_s]
    by_cases d2 : cs V t
    · rw [oi_p d2, if_neg (by decide), f_X7_close_145, if_neg (by decide), zq_21 hM, zx_2 ht2, cl_ ht8, r21]
      have hk : kst V t := ⟨d1, d2⟩
      by_cases d3 : V.1 21 t = 0
      · rw [if_pos d3, zq_22 hM, zx_2 ht2, r22]
        by_cases d4 : V.1 22 t = 0
        · rw [if_pos d4]
          have y := CNT hk True ⟨fun _ => ⟨d3, d4⟩, fun _ => trivial⟩
          rw [oi_p trivial] at y; exact y
        · rw [if_neg d4, f_X7_close_172]
          have y := CNT hk False ⟨fun x => x.elim, fun x => d4 x.2⟩
          rw [oi_n (fun x => x)] at y; exact y
      · rw [if_neg d3, f_X7_close_172]
        have y := CNT hk False ⟨fun x => x.elim, fun x => d3 x.1⟩
        rw [oi_n (fun x => x)] at y; exact y
    · rw [oi_n d2, if_pos rfl]; exact NOT (fun x => d2 x.2)
theorem m_close61 (hW : WB V) (h17 : W17 V) (hz : 300 ≤ z) {N : Nat} (hN : N = tN V) : ∀ (nn t : Nat) (r : zS), MS K ra mo r → vr ra mo r = st60 (FV V t N) → (∀ i, i < t → zi r 150 (ra 50) i = oi (los V i)) → t ≤ N → N - t < nn → ∃ (m : Nat) (r1 : zS), f_X7_close_61 K z mo nn r (nI t) = f_X7_close_61 K z mo (m + 1) r1 (nI N) ∧ MS K ra mo r1 ∧ vr ra mo r1 = st60 (FV V N N) ∧ zi r1 0 mo 0 = zi r 0 mo 0 ∧ ∀ i, i < N → zi r1 150 (ra 50) i = oi (los V i) := by
  have hN2 := WB_2 hW
  intro nn
  induction nn with
  | zero => intro t r _ _ _ hk h; omega
  | succ nn ih =>
    intro t r hM hV h150 hk hh
    by_cases h1 : N ≤ t
    · have e : t = N := by omega
      subst e
      exact ⟨nn, r, rfl, hM, hV, rfl, h150⟩
    · have ht : t < tN V := by omega
      have ht2 : t < 200 := by omega
      have ht8 : t < 8000 := by omega
      have w35 : (st60 (FV V t N)).1 35 0 = nI (tN V) := by rw [st60_o (by decide), FV_o 35 (by decide)]; exact WB_1 hW
      have w40 : zi r 40 mo 0 = V.1 40 0 := by rw [rd_40 (ra := ra) (mo := mo), hV, st60_o (by decide), FV_o 40 (by decide)]
      have r26 : zi r 126 (ra 26) t = V.1 26 t := by rw [rd_26 (ra := ra) (mo := mo), hV, st60_o (by decide), FV_o 26 (by decide)]
      -- from the row of those there on
      have S90 : ∀ r2, MS K ra mo r2 → vr ra mo r2 = uV (st60 (FV V t N)) 33 t (fvI V 33 t) → zi r2 0 mo 0 = zi r 0 mo 0 → (∀ i, zi r2 150 (ra 50) i = zi r 150 (ra 50) i) → ∃ (m : Nat) (r1 : zS), f_X7_close_90 K z mo (f_X7_close_61 K z mo nn) r2 (nI t) = f_X7_close_61 K z mo (m + 1) r1 (nI N) ∧ MS K ra mo r1 ∧ vr ra mo r1 = st60 (FV V N N) ∧ zi r1 0 mo 0 = zi r 0 mo 0 ∧ ∀ i, i < N → zi r1 150 (ra 50) i = oi (los V i) := by
        intro r2 hM2 hV2 hz2 h2
        have y31 : zi r2 131 (ra 31) t = V.1 31 t := by rw [rd_31 (ra := ra) (mo := mo), hV2, uV_o (by decide), st60_o (by decide), FV_n (Nat.le_refl _) 31 (by decide)]
        have y21 : zi r2 121 (ra 21) t = V.1 21 t := by rw [rd_21 (ra := ra) (mo := mo), hV2, uV_o (by decide), st60_o (by decide), FV_n (Nat.le_refl _) 21 (by decide)]
        have hM3 : MS K ra mo (zui r2 131 (ra 31) t (fvI V 31 t)) := hM2
        have hV3 : vr ra mo (zui r2 131 (ra 31) t (fvI V 31 t)) = uV (uV (st60 (FV V t N)) 33 t (fvI V 33 t)) 31 t (fvI V 31 t) := by rw [vw_31, hV2]
        obtain ⟨r4, g1, g2, g3, g4, g5, g6⟩ := m_close117 (z := z) hM3 hW hz ht hN hV3 (f_X7_close_61 K z mo nn)
        obtain ⟨m, r5, i1, i2, i3, i4, i5⟩ := ih (t + 1) r4 g2 g3 (fun i hi => by
          by_cases e : i = t
          · rw [e]; exact g5
          · rw [g6 i e, zi_o (by decide), h2]; exact h150 i (by omega)) (by omega) (by omega)
        refine ⟨m, r5, ?_, i2, i3, by rw [i4, g4, zi_o (by decide), hz2], i5⟩
        rw [← i1, ← g1, f_X7_close_90, zq_31 hM2, zx_2 ht2, zq_21 hM2, zx_2 ht2, cl_ ht8, y21, y31]
        by_cases d : V.1 21 t = 0
        · have e31 : fvI V 31 t = ((V.1 31 t <<< ((1 : Int32) &&& 31)) ||| 0) &&& 255 := by rw [fv31, if_pos d]; rfl
          rw [if_pos d, f_X7_close_117, zx_2 ht2, zlet, cl_ ht8, ← e31]
        · have e31 : fvI V 31 t = ((V.1 31 t <<< ((1 : Int32) &&& 31)) ||| 1) &&& 255 := by rw [fv31, if_neg d]; rfl
          rw [if_neg d, f_X7_close_117, zx_2 ht2, zlet, cl_ ht8, ← e31]
      rw [f_X7_close_61, rd_35 (ra := ra) (mo := mo), hV, w35, iLE (by omega) (by omega), if_neg (show ¬ tN V ≤ t by omega), zq_26 hM, zx_2 ht2, cl_ ht8, r26]
      by_cases d : V.1 26 t = 0
      · rw [if_pos d]
        have e33 : fvI V 33 t = (st60 (FV V t N)).1 33 t := by rw [fv33, cif_n (fun y => (h17 t ht).mpr y d), st60_o (by decide), FV_n (Nat.le_refl _) 33 (by decide)]
        exact S90 r hM (by rw [e33, uV_self, hV]) rfl (fun _ => rfl)
      · rw [if_neg d, zq_33 hM, zx_2 ht2, zlet, w40]
        have e33 : V.1 40 0 - 1 = fvI V 33 t := by rw [fv33, cif_p ((h17 t ht).mp d)]
        rw [e33]
        exact S90 (zui r 133 (ra 33) t (fvI V 33 t)) (by exact hM) (by rw [vw_33, hV]) (by rw [zi_o (by decide)]) (fun i => by rw [zi_o (by decide)])
end MC

