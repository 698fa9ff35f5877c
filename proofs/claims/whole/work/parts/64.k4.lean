section KD
variable {K : Nat → Nat} {A : Nat → Nat → Nat} {c : zS} {V : zV} {ms z : Nat}
theorem RC_takeDown (h : RC K A c V ms) (hW : WB V) {t : Nat} (ht : t < tN V) (hs : st V t) (w : Int32) (hw : w = if V.1 8 t = 4 then 1 else 0) : RC K A (zui (zui (zui (zui (zsh c (A 2 (sr V t)) (sp V t) (sp V t + fN V t) none) 20 (A 10 t) 0 0) 65 (A 3 (tr V t)) 0 (zi c 65 (A 3 (tr V t)) 0 - 1)) 132 ms 0 (zi c 132 ms 0 - 1)) 133 ms 0 (zi c 133 ms 0 - w)) (uV V 27 t 0) ms := by
  have E : ∀ k, (k ≠ 27) → (uV V 27 t 0).1 k = V.1 k := fun k h => uV_o h
  have E2 : ∀ k, k ≠ 200 → (uV V 27 t 0).2 k = V.2 k := fun k _ => rfl
  have so : ∀ o, o ≠ t → (st (uV V 27 t 0) o ↔ st V o) := fun o ho => by unfold st; rw [uV_t ho]
  have st0 : ¬ st (uV V 27 t 0) t := by unfold st; rw [uV_s]; exact fun x => x rfl
  generalize hc : zui (zui (zui (zui (zsh c (A 2 (sr V t)) (sp V t) (sp V t + fN V t) none) 20 (A 10 t) 0 0) 65 (A 3 (tr V t)) 0 (zi c 65 (A 3 (tr V t)) 0 - 1)) 132 ms 0 (zi c 132 ms 0 - 1)) 133 ms 0 (zi c 133 ms 0 - w) = c'
  have Ez : ∀ k, (k ≠ 20 ∧ k ≠ 65 ∧ k ≠ 132 ∧ k ≠ 133) → zi c' k = zi c k := fun k h => by
    rw [← hc, zi_o h.2.2.2, zi_o h.2.2.1, zi_o h.2.1, zi_o h.1]; rfl
  have El : ∀ k, k ≠ 1000 → zl c' k = zl c k := fun k _ => by rw [← hc]; rfl
  have Er : ∀ k, k ≠ 148 → zr c' k = zr c k := fun k h => by rw [← hc]; exact zr_zo h
  refine ⟨h.1, R1_c (E 7 (by decide)) (E 35 (by decide)) (C1 h), R2_c (Er 0 (by decide)) (Er 1 (by decide)) (Er 120 (by decide)) (Er 121 (by decide)) (Er 122 (by decide)) (Er 123 (by decide)) (Er 124 (by decide)) (Er 143 (by decide)) (C2 h), R3_c (Er 144 (by decide)) (Er 145 (by decide)) (E 7 (by decide)) (E 35 (by decide)) (C3 h), R4_c (Er 40 (by decide)) (Er 81 (by decide)) (Er 83 (by decide)) (Er 84 (by decide)) (Er 85 (by decide)) (Er 100 (by decide)) (Er 101 (by decide)) (E 9 (by decide)) (E 35 (by decide)) (C4 h), ?_, R6_c (Ez 141 (by decide)) (Ez 142 (by decide)) (E 16 (by decide)) (E 17 (by decide)) (E 35 (by decide)) (C6 h), R7_c (Ez 2 (by decide)) (Ez 140 (by decide)) (E 1 (by decide)) (E 2 (by decide)) (C7 h), R8_c (Ez 60 (by decide)) (Ez 61 (by decide)) (Ez 62 (by decide)) (Ez 63 (by decide)) (Ez 64 (by decide)) (E 3 (by decide)) (E 4 (by decide)) (E 5 (by decide)) (E 6 (by decide)) (E 7 (by decide)) (C8 h), R9_c (Ez 43 (by decide)) (Ez 80 (by decide)) (El 93 (by decide)) (E 21 (by decide)) (E 22 (by decide)) (E 35 (by decide)) (E2 34 (by decide)) (C9 h), R10_c (Ez 125 (by decide)) (Ez 126 (by decide)) (Ez 127 (by decide)) (Ez 128 (by decide)) (Ez 129 (by decide)) (Ez 130 (by decide)) (Ez 131 (by decide)) (El 134 (by decide)) (El 135 (by decide)) (El 136 (by decide)) (El 137 (by decide)) (E 7 (by decide)) (E 35 (by decide)) (E 36 (by decide)) (E 37 (by decide)) (E 38 (by decide)) (E 39 (by decide)) (E 40 (by decide)) (E 41 (by decide)) (E 42 (by decide)) (E2 43 (by decide)) (E2 44 (by decide)) (C10 h), ?_, ?_, ?_, R14_c (Er 146 (by decide)) (E 11 (by decide)) (E 35 (by decide)) (C14 h), R15_c (Ez 47 (by decide)) (E 35 (by decide)) (E 60 (by decide)) (C15 h)⟩
  · have h5 : R5 A (zsh c (A 2 (sr V t)) (sp V t) (sp V t + fN V t) none) V := fun q hq j hj => C5 h q hq j hj
    have h6 : R5 A (zui (zsh c (A 2 (sr V t)) (sp V t) (sp V t + fN V t) none) 20 (A 10 t) 0 0) (uV V 27 t 0) := R5_u1 h.1 (by decide) (by decide) h5
    have Ez : ∀ k, (k ≠ 65 ∧ k ≠ 132 ∧ k ≠ 133) → zi c' k = zi (zui (zsh c (A 2 (sr V t)) (sp V t) (sp V t + fN V t) none) 20 (A 10 t) 0 0) k := fun k h => by
      rw [← hc, zi_o h.2.2, zi_o h.2.1, zi_o h.1]
    have E : ∀ k, k ≠ 200 → (uV V 27 t 0).1 k = (uV V 27 t 0).1 k := fun k _ => rfl
    exact R5_c (Ez 20 (by decide)) (Ez 21 (by decide)) (Ez 22 (by decide)) (Ez 41 (by decide)) (Ez 42 (by decide)) (Ez 44 (by decide)) (Ez 45 (by decide)) (Ez 46 (by decide)) (Ez 82 (by decide)) (Ez 86 (by decide)) (Ez 87 (by decide)) (Ez 88 (by decide)) (Ez 89 (by decide)) (Ez 90 (by decide)) (Ez 91 (by decide)) (Ez 92 (by decide)) (Ez 102 (by decide)) (Ez 103 (by decide)) (E 8 (by decide)) (E 10 (by decide)) (E 11 (by decide)) (E 12 (by decide)) (E 13 (by decide)) (E 14 (by decide)) (E 15 (by decide)) (E 18 (by decide)) (E 19 (by decide)) (E 20 (by decide)) (E 21 (by decide)) (E 23 (by decide)) (E 24 (by decide)) (E 25 (by decide)) (E 27 (by decide)) (E 28 (by decide)) (E 29 (by decide)) (E 30 (by decide)) (E 31 (by decide)) (E 32 (by decide)) (E 33 (by decide)) (E 35 (by decide)) h6
  · intro j hj
    have hj2 : j < rN V := hj
    have e : zi c' 65 (A 3 j) 0 = if j = tr V t then zi c 65 (A 3 (tr V t)) 0 - 1 else zi c 65 (A 3 j) 0 := by
      rw [← hc, zi_o (by decide), zi_o (by decide), zi_zui]
      by_cases e : j = tr V t
      · rw [if_pos ⟨rfl, by rw [e], rfl⟩, if_pos e]
      · rw [if_neg (fun x => e (h.1 _ _ _ _ x.2.1).2), if_neg e, zi_o (by decide)]; rfl
    have h11 := C11 h j hj2
    rw [e]
    show _ = nI (cn (fun o => st (uV V 27 t 0) o ∧ tr V o = j) (tN V))
    by_cases e : j = tr V t
    · subst e
      rw [if_pos rfl, h11, cn_off (P := fun o => st V o ∧ tr V o = tr V t) (Q := fun o => st (uV V 27 t 0) o ∧ tr V o = tr V t) (tN V) ht ⟨hs, rfl⟩ (fun x => st0 x.1) (fun o ho => by rw [so o ho]), nI_pred]
    · rw [if_neg e, h11, cn_c (P := fun o => st V o ∧ tr V o = j) (Q := fun o => st (uV V 27 t 0) o ∧ tr V o = j) (tN V) (fun o _ => ⟨fun x => ⟨(so o (fun y => e (by rw [← x.2, y]))).mpr x.1, x.2⟩, fun x => ⟨(so o (fun y => e (by rw [← x.2, y]))).mp x.1, x.2⟩⟩)]
  · have e1 : zi c' 132 ms 0 = zi c 132 ms 0 - 1 := by rw [← hc, zi_o (by decide), zi_zui, if_pos ⟨rfl, rfl, rfl⟩]
    have e2 : zi c' 133 ms 0 = zi c 133 ms 0 - w := by rw [← hc, zi_zui, if_pos ⟨rfl, rfl, rfl⟩]
    refine ⟨?_, ?_⟩
    · rw [e1, (C12 h).1]
      show _ = nI (cn (fun o => st (uV V 27 t 0) o) (tN V))
      rw [cn_off (P := fun o => st V o) (Q := fun o => st (uV V 27 t 0) o) (tN V) ht hs st0 (fun o ho => (so o ho).symm), nI_pred]
    · rw [e2, (C12 h).2, hw]
      show _ = nI (cn (fun o => st (uV V 27 t 0) o ∧ V.1 8 o = 4) (tN V))
      by_cases h4 : V.1 8 t = 4
      · rw [if_pos h4, cn_off (P := fun o => st V o ∧ V.1 8 o = 4) (Q := fun o => st (uV V 27 t 0) o ∧ V.1 8 o = 4) (tN V) ht ⟨hs, h4⟩ (fun x => st0 x.1) (fun o ho => by rw [so o ho]), nI_pred]
      · rw [if_neg h4, Int32.sub_zero, cn_c (P := fun o => st V o ∧ V.1 8 o = 4) (Q := fun o => st (uV V 27 t 0) o ∧ V.1 8 o = 4) (tN V) (fun o _ => ⟨fun x => ⟨(so o (fun y => h4 (by rw [← y]; exact x.2))).mpr x.1, x.2⟩, fun x => ⟨(so o (fun y => h4 (by rw [← y]; exact x.2))).mp x.1, x.2⟩⟩)]
  · intro i' q hi' hq
    have e : zr c' 148 (A 2 i') q = if i' = sr V t ∧ sp V t ≤ q ∧ q < sp V t + fN V t then none else zr c 148 (A 2 i') q := by
      rw [← hc]
      show zr (zsh c (A 2 (sr V t)) (sp V t) (sp V t + fN V t) none) 148 (A 2 i') q = _
      rw [zr_zsh]
      by_cases e : i' = sr V t ∧ sp V t ≤ q ∧ q < sp V t + fN V t
      · rw [if_pos ⟨rfl, by rw [e.1], e.2⟩, if_pos e]
      · rw [if_neg (fun x => e ⟨(h.1 _ _ _ _ x.2.1).2, x.2.2⟩), if_neg e]
    rw [e]
    have covt : ¬ cov (uV V 27 t 0) t i' q := fun x => st0 x.1
    have covo : ∀ o, o ≠ t → (cov (uV V 27 t 0) o i' q ↔ cov V o i' q) := fun o ho => by
      unfold cov
      rw [so o ho]; exact Iff.rfl
    by_cases e : i' = sr V t ∧ sp V t ≤ q ∧ q < sp V t + fN V t
    · right
      refine ⟨fun o ho hc1 => ?_, by rw [if_pos e]⟩
      by_cases x : o = t
      · subst x; exact covt hc1
      · exact x (cov_u hW ho ht ((covo o x).mp hc1) ⟨hs, e.1.symm, e.2⟩)
    · rw [if_neg e]
      rcases C13 h i' q hi' hq with ⟨o, ho, hc1, hc2⟩ | ⟨hn, hc2⟩
      · left
        exact ⟨o, ho, (covo o (fun x => e (by subst x; exact ⟨hc1.2.1.symm, hc1.2.2⟩))).mpr hc1, hc2⟩
      · right
        refine ⟨fun o ho hc1 => ?_, hc2⟩
        by_cases x : o = t
        · subst x; exact covt hc1
        · exact hn o ho ((covo o x).mp hc1)
theorem k_takeDown (h : RC K A c V ms) (hW : WB V) (hz : 300 ≤ z) {t : Nat} (ht : t < tN V) (hs : st V t) : ∃ c', f_X6_takeDown K z c ms (A 4 t) = some c' ∧ RC K A c' (uV V 27 t 0) ms ∧ (∀ f, f ≠ 148 → zr c' f = zr c f) := by
  obtain ⟨s1, hi, s3, hp⟩ := WB_11 hW ht hs
  have hpl := (WB_7 hW hi).2
  obtain ⟨e10, f1, f2⟩ := WB_6 hW ht
  have key := fun w hw => RC_takeDown h hW ht hs w hw
  unfold f_X6_takeDown f_X1_remove
  rw [kn_85 h ht, kn_40 h ht, rt_21_10 h ht, rt_22_10 h ht, s1, s3, k_row h hi, zb_s, zo_s ((C1 h).1 _ hi).1, rt_82_4 h ht, e10, k_setH h hW hz hi hp (Or.inl rfl), zb_s, zr_zo (by decide), kn_85 h ht, zr_zo (by decide), kn_40 h ht]
  simp only [zlet, zb_s, zr_zui, zr_zo (show 81 ≠ 148 by decide), kn_81 h hW ht, k_oneIf]
  have a65 : zi (zui (zsh c (A 2 (sr V t)) (sp V t) (sp V t + fN V t) none) 20 (A 10 t) 0 0) 65 (A 3 (tr V t)) 0 = zi c 65 (A 3 (tr V t)) 0 := by rw [zi_o (by decide)]; rfl
  rw [a65]
  have a132 : zi (zui (zui (zsh c (A 2 (sr V t)) (sp V t) (sp V t + fN V t) none) 20 (A 10 t) 0 0) 65 (A 3 (tr V t)) 0 (zi c 65 (A 3 (tr V t)) 0 - 1)) 132 ms 0 = zi c 132 ms 0 := by rw [zi_o (by decide), zi_o (by decide)]; rfl
  rw [a132]
  have a86 : ∀ f a, f ≠ 20 → f ≠ 65 → f ≠ 132 → zi (zui (zui (zui (zsh c (A 2 (sr V t)) (sp V t) (sp V t + fN V t) none) 20 (A 10 t) 0 0) 65 (A 3 (tr V t)) 0 (zi c 65 (A 3 (tr V t)) 0 - 1)) 132 ms 0 (zi c 132 ms 0 - 1)) f a 0 = zi c f a 0 := fun f a h1 h4 h5 => by rw [zi_o h5, zi_o h4, zi_o h1]; rfl
  rw [a86 86 _ (by decide) (by decide) (by decide), a86 133 _ (by decide) (by decide) (by decide), rt_86_4 h ht]
  by_cases h4 : V.1 8 t = 4
  · rw [if_pos h4, if_neg (show ¬ (1 : Int32) = 0 by decide)]
    exact ⟨_, rfl, key 1 (by rw [if_pos h4]), fun f hf => zr_zo hf⟩
  · rw [if_neg h4]
    exact ⟨_, rfl, key 0 (by rw [if_neg h4]), fun f hf => zr_zo hf⟩
/-- a row of the table alone, on both sides -/
theorem RC_u (h : RC K A c V ms) {f k m t : Nat} {v : Int32} (hq : (f, k, m) ∈ tbl) (hm : m ≠ 26 ∧ m ≠ 35 ∧ m ≠ 7) (hf : m ∈ [20, 15, 31, 32, 33, 12, 13, 14, 19, 30, 24, 23, 18, 25]) : RC K A (zui c f (A k t) 0 v) (uV V m t v) ms := by
  have hf2 : f ∈ [89, 88, 90, 91, 92, 20, 21, 22, 103, 41, 45, 44, 102, 46] := by
    revert hq hf
    generalize f = f'
    intro hq hf
    simp only [tbl, List.mem_cons, List.not_mem_nil, or_false, Prod.mk.injEq] at hq hf ⊢
    omega
  have Ez : ∀ g, (g ≠ 89 ∧ g ≠ 88 ∧ g ≠ 90 ∧ g ≠ 91 ∧ g ≠ 92 ∧ g ≠ 20 ∧ g ≠ 21 ∧ g ≠ 22 ∧ g ≠ 103 ∧ g ≠ 41 ∧ g ≠ 45 ∧ g ≠ 44 ∧ g ≠ 102 ∧ g ≠ 46) → zi (zui c f (A k t) 0 v) g = zi c g := fun g hg => zi_o (fun e => by
    subst e
    simp only [List.mem_cons, List.not_mem_nil, or_false] at hf2
    omega)
  have El : ∀ g, g ≠ 1000 → zl (zui c f (A k t) 0 v) g = zl c g := fun _ _ => rfl
  have Er : ∀ g, g ≠ 1000 → zr (zui c f (A k t) 0 v) g = zr c g := fun _ _ => rfl
  have E : ∀ g, (g ≠ 20 ∧ g ≠ 15 ∧ g ≠ 31 ∧ g ≠ 32 ∧ g ≠ 33 ∧ g ≠ 12 ∧ g ≠ 13 ∧ g ≠ 14 ∧ g ≠ 19 ∧ g ≠ 30 ∧ g ≠ 24 ∧ g ≠ 23 ∧ g ≠ 18 ∧ g ≠ 25) → (uV V m t v).1 g = V.1 g := fun g hg => uV_o (fun e => by
    subst e
    simp only [List.mem_cons, List.not_mem_nil, or_false] at hf
    omega)
  have E2 : ∀ g, g ≠ 200 → (uV V m t v).2 g = V.2 g := fun _ _ => rfl
  exact ⟨h.1, R1_c (E 7 (by decide)) (E 35 (by decide)) (C1 h), R2_c (Er 0 (by decide)) (Er 1 (by decide)) (Er 120 (by decide)) (Er 121 (by decide)) (Er 122 (by decide)) (Er 123 (by decide)) (Er 124 (by decide)) (Er 143 (by decide)) (C2 h), R3_c (Er 144 (by decide)) (Er 145 (by decide)) (E 7 (by decide)) (E 35 (by decide)) (C3 h), R4_c (Er 40 (by decide)) (Er 81 (by decide)) (Er 83 (by decide)) (Er 84 (by decide)) (Er 85 (by decide)) (Er 100 (by decide)) (Er 101 (by decide)) (E 9 (by decide)) (E 35 (by decide)) (C4 h), R5_u1 h.1 hq hm.2.1 (C5 h), R6_c (Ez 141 (by decide)) (Ez 142 (by decide)) (E 16 (by decide)) (E 17 (by decide)) (E 35 (by decide)) (C6 h), R7_c (Ez 2 (by decide)) (Ez 140 (by decide)) (E 1 (by decide)) (E 2 (by decide)) (C7 h), R8_c (Ez 60 (by decide)) (Ez 61 (by decide)) (Ez 62 (by decide)) (Ez 63 (by decide)) (Ez 64 (by decide)) (E 3 (by decide)) (E 4 (by decide)) (E 5 (by decide)) (E 6 (by decide)) (E 7 (by decide)) (C8 h), R9_c (Ez 43 (by decide)) (Ez 80 (by decide)) (El 93 (by decide)) (E 21 (by decide)) (E 22 (by decide)) (E 35 (by decide)) (E2 34 (by decide)) (C9 h), R10_c (Ez 125 (by decide)) (Ez 126 (by decide)) (Ez 127 (by decide)) (Ez 128 (by decide)) (Ez 129 (by decide)) (Ez 130 (by decide)) (Ez 131 (by decide)) (El 134 (by decide)) (El 135 (by decide)) (El 136 (by decide)) (El 137 (by decide)) (E 7 (by decide)) (E 35 (by decide)) (E 36 (by decide)) (E 37 (by decide)) (E 38 (by decide)) (E 39 (by decide)) (E 40 (by decide)) (E 41 (by decide)) (E 42 (by decide)) (E2 43 (by decide)) (E2 44 (by decide)) (C10 h), R11_c (Ez 65 (by decide)) (E 7 (by decide)) (E 9 (by decide)) (E 27 (by decide)) (E 35 (by decide)) (C11 h), R12_c (Ez 132 (by decide)) (Ez 133 (by decide)) (E 8 (by decide)) (E 27 (by decide)) (E 35 (by decide)) (C12 h), R13_c (Er 148 (by decide)) (E 10 (by decide)) (E 27 (by decide)) (E 28 (by decide)) (E 29 (by decide)) (E 35 (by decide)) (C13 h), R14_c (Er 146 (by decide)) (E 11 (by decide)) (E 35 (by decide)) (C14 h), R15_c (Ez 47 (by decide)) (E 35 (by decide)) (E 60 (by decide)) (C15 h)⟩
/-- a stall that comes: on the class's side -/
theorem cmV_su (V : zV) (t : Nat) (ρ π : Int32) (k : Nat) (hk : k ≠ 26) : (cmV V t ρ π).1 k = (suV (uV V 30 t (V.1 39 0)) t ρ π).1 k := by
  funext x
  unfold cmV suV
  rw [uV_1, uV_1, uV_1, uV_1, uV_1, uV_1, uV_1, uV_1, uV_1]
  by_cases h30 : k = 30
  · subst h30
    simp
  · by_cases h29 : k = 29
    · subst h29; simp
    · by_cases h28 : k = 28
      · subst h28; simp
      · by_cases h27 : k = 27
        · subst h27; simp
        · simp [h30, h29, h28, h27, hk]
theorem k_opens (h : RC K A c V ms) (hW : WB V) (hz : 300 ≤ z) {t i p : Nat} (ht : t < tN V) (hs : ¬ st V t) (hi : i < 40) (hp : p + fN V t ≤ pl V i) (hm : ¬ ∃ o, oth V t o ∧ meet V t o i p) : ∃ c', f_X6_open K z c ms (A 4 t) (nI i) (nI p) = some c' ∧ RC K A c' (cmV V t (nI i) (nI p)) ms ∧ (∀ f, f ≠ 148 → zr c' f = zr c f) := by
  have h1 : RC K A (zui c 41 (A 9 t) 0 (V.1 39 0)) (uV V 30 t (V.1 39 0)) ms := RC_u h (by decide) (by decide) (by decide)
  have E : ∀ k, (k ≠ 30) → (uV V 30 t (V.1 39 0)).1 k = V.1 k := fun k h => uV_o h
  have E2 : ∀ k, k ≠ 200 → (uV V 30 t (V.1 39 0)).2 k = V.2 k := fun k _ => rfl
  have hW1 : WB (uV V 30 t (V.1 39 0)) := by
    obtain ⟨w1, w2, w3, w4, w5, w6, w7, w8, w9, w10, w11, w12, w13, w18, w20, w22, w23, w24⟩ := id hW
    refine ⟨W1_c (E 35 (by decide)) w1, W2_c (E 35 (by decide)) w2, W3_c (E 7 (by decide)) w3, W4_c (E 7 (by decide)) w4, W5_c (E 7 (by decide)) (E 9 (by decide)) (E 35 (by decide)) w5, W6_c (E 10 (by decide)) (E 35 (by decide)) w6, W7_c (E 1 (by decide)) w7, W8_c (E 2 (by decide)) w8, W9_c (E 6 (by decide)) w9, W10_c (E 5 (by decide)) w10, W11_c (E 1 (by decide)) (E 10 (by decide)) (E 27 (by decide)) (E 28 (by decide)) (E 29 (by decide)) (E 35 (by decide)) w11, W12_c (E 10 (by decide)) (E 27 (by decide)) (E 28 (by decide)) (E 29 (by decide)) (E 35 (by decide)) w12, W13_c (E 21 (by decide)) (E 23 (by decide)) (E 35 (by decide)) w13, W18_c (E 31 (by decide)) (E 32 (by decide)) (E 35 (by decide)) w18, W20_c (E 11 (by decide)) (E 35 (by decide)) w20, W22_c (E 18 (by decide)) (E 35 (by decide)) w22, ?_, W24_c (E 6 (by decide)) (E 7 (by decide)) w24⟩
    intro a ha h2
    have hne : a ≠ t := by have : tN V ≤ a := ha; omega
    have h := w23 a ha h2
    rw [uV_t hne]
    exact h
  obtain ⟨c', a, b, d⟩ := k_setUp h1 hW1 hz (t := t) (i := i) (p := p) ht hs hi hp hm
  refine ⟨c', ?_, RC_V b (fun k hk => cmV_su V t _ _ k hk) rfl, d⟩
  unfold f_X6_open
  rw [kn_85 h ht, zlet, (C10 h).2.2.2.2.2.2.1, a, zb_s]
theorem k_fee (h : RC K A c V ms) (hW : WB V) {t : Nat} (ht : t < tN V) : f_X6_feeOf K z c ms (A 4 t) = some (feV V t) := by
  obtain ⟨t1, t2⟩ := WB_5 hW ht
  unfold f_X6_feeOf feV
  rw [rt_86_4 h ht]
  by_cases h1 : V.1 8 t = 4
  · rw [if_pos h1, if_pos h1]
  · rw [if_neg h1, if_neg h1]
    simp only [zlet, kn_85 h ht, kn_81 h hW ht, rt_82_4 h ht, rt_41_9 h ht, (C10 h).2.2.2.2.2.2.1, (C8 h _ t2).2.1]
    by_cases h2 : 1 ≤ V.1 39 0 - V.1 30 t
    · rw [if_pos h2, if_neg (Int32.not_lt.mpr h2)]
    · rw [if_neg h2, if_pos (Int32.not_le.mp h2)]
theorem RC_fee (h : RC K A c V ms) {t : Nat} (ht : t < tN V) (w : Int64) : RC K A (zul (zul c 93 (A 4 t) 0 (V.2 34 t + w)) 134 ms 0 (V.2 43 0 + w)) (uL (uL V 34 t (V.2 34 t + w)) 43 0 (V.2 43 0 + w)) ms := by
  have Ez : ∀ g, g ≠ 1000 → zi (zul (zul c 93 (A 4 t) 0 (V.2 34 t + w)) 134 ms 0 (V.2 43 0 + w)) g = zi c g := fun _ _ => rfl
  have Er : ∀ g, g ≠ 1000 → zr (zul (zul c 93 (A 4 t) 0 (V.2 34 t + w)) 134 ms 0 (V.2 43 0 + w)) g = zr c g := fun _ _ => rfl
  have E : ∀ g, g ≠ 200 → (uL (uL V 34 t (V.2 34 t + w)) 43 0 (V.2 43 0 + w)).1 g = V.1 g := fun _ _ => rfl
  refine ⟨h.1, R1_c (E 7 (by decide)) (E 35 (by decide)) (C1 h), R2_c (Er 0 (by decide)) (Er 1 (by decide)) (Er 120 (by decide)) (Er 121 (by decide)) (Er 122 (by decide)) (Er 123 (by decide)) (Er 124 (by decide)) (Er 143 (by decide)) (C2 h), R3_c (Er 144 (by decide)) (Er 145 (by decide)) (E 7 (by decide)) (E 35 (by decide)) (C3 h), R4_c (Er 40 (by decide)) (Er 81 (by decide)) (Er 83 (by decide)) (Er 84 (by decide)) (Er 85 (by decide)) (Er 100 (by decide)) (Er 101 (by decide)) (E 9 (by decide)) (E 35 (by decide)) (C4 h), R5_c (Ez 20 (by decide)) (Ez 21 (by decide)) (Ez 22 (by decide)) (Ez 41 (by decide)) (Ez 42 (by decide)) (Ez 44 (by decide)) (Ez 45 (by decide)) (Ez 46 (by decide)) (Ez 82 (by decide)) (Ez 86 (by decide)) (Ez 87 (by decide)) (Ez 88 (by decide)) (Ez 89 (by decide)) (Ez 90 (by decide)) (Ez 91 (by decide)) (Ez 92 (by decide)) (Ez 102 (by decide)) (Ez 103 (by decide)) (E 8 (by decide)) (E 10 (by decide)) (E 11 (by decide)) (E 12 (by decide)) (E 13 (by decide)) (E 14 (by decide)) (E 15 (by decide)) (E 18 (by decide)) (E 19 (by decide)) (E 20 (by decide)) (E 21 (by decide)) (E 23 (by decide)) (E 24 (by decide)) (E 25 (by decide)) (E 27 (by decide)) (E 28 (by decide)) (E 29 (by decide)) (E 30 (by decide)) (E 31 (by decide)) (E 32 (by decide)) (E 33 (by decide)) (E 35 (by decide)) (C5 h), R6_c (Ez 141 (by decide)) (Ez 142 (by decide)) (E 16 (by decide)) (E 17 (by decide)) (E 35 (by decide)) (C6 h), R7_c (Ez 2 (by decide)) (Ez 140 (by decide)) (E 1 (by decide)) (E 2 (by decide)) (C7 h), R8_c (Ez 60 (by decide)) (Ez 61 (by decide)) (Ez 62 (by decide)) (Ez 63 (by decide)) (Ez 64 (by decide)) (E 3 (by decide)) (E 4 (by decide)) (E 5 (by decide)) (E 6 (by decide)) (E 7 (by decide)) (C8 h), ?_, ?_, R11_c (Ez 65 (by decide)) (E 7 (by decide)) (E 9 (by decide)) (E 27 (by decide)) (E 35 (by decide)) (C11 h), R12_c (Ez 132 (by decide)) (Ez 133 (by decide)) (E 8 (by decide)) (E 27 (by decide)) (E 35 (by decide)) (C12 h), R13_c (Er 148 (by decide)) (E 10 (by decide)) (E 27 (by decide)) (E 28 (by decide)) (E 29 (by decide)) (E 35 (by decide)) (C13 h), R14_c (Er 146 (by decide)) (E 11 (by decide)) (E 35 (by decide)) (C14 h), R15_c (Ez 47 (by decide)) (E 35 (by decide)) (E 60 (by decide)) (C15 h)⟩
  · intro j hj
    obtain ⟨a, b, d⟩ := C9 h j hj
    refine ⟨a, b, ?_⟩
    rw [zl_zul, if_neg (show ¬ (93 = 134 ∧ A 4 j = ms ∧ 0 = 0) from fun x => absurd x.1 (by decide)), uL_2, if_neg (show ¬ (34 = 43 ∧ j = 0) from fun x => absurd x.1 (by decide)), zl_zul, uL_2]
    by_cases e : j = t
    · rw [if_pos (show 93 = 93 ∧ A 4 j = A 4 t ∧ 0 = 0 from ⟨rfl, by rw [e], rfl⟩), if_pos (show 34 = 34 ∧ j = t from ⟨rfl, e⟩)]
    · rw [if_neg (show ¬ (93 = 93 ∧ A 4 j = A 4 t ∧ 0 = 0) from fun x => e (h.1 _ _ _ _ x.2.1).2), if_neg (show ¬ (34 = 34 ∧ j = t) from fun x => e x.2)]; exact d
  · obtain ⟨a1, a2, a3, a4, a5, a6, a7, a8, a9, a10, a11⟩ := C10 h
    refine ⟨a1, a2, a3, a4, a5, a6, a7, ?_, ?_, ?_, ?_⟩
    · rw [zl_zul, if_pos ⟨rfl, rfl, rfl⟩, uL_2, if_pos ⟨rfl, rfl⟩]
    · rw [zl_zul, if_neg (fun x => absurd x.1 (by decide)), zl_zul, if_neg (fun x => absurd x.1 (by decide)), uL_2, if_neg (fun x => absurd x.1 (by decide)), uL_2, if_neg (fun x => absurd x.1 (by decide))]; exact a9
    · rw [zl_zul, if_neg (fun x => absurd x.1 (by decide)), zl_zul, if_neg (fun x => absurd x.1 (by decide))]; exact a10
    · rw [zl_zul, if_neg (fun x => absurd x.1 (by decide)), zl_zul, if_neg (fun x => absurd x.1 (by decide))]; exact a11
theorem feW (hW : WB V) {t : Nat} (ht : t < tN V) (w : Int64) : WB (uL (uL V 34 t (V.2 34 t + w)) 43 0 (V.2 43 0 + w)) := by
  obtain ⟨w1, w2, w3, w4, w5, w6, w7, w8, w9, w10, w11, w12, w13, w18, w20, w22, w23, w24⟩ := id hW
  refine ⟨w1, w2, w3, w4, w5, w6, w7, w8, w9, w10, w11, w12, w13, w18, w20, w22, ?_, w24⟩
  intro a ha h2
  have hne : a ≠ t := by have : tN V ≤ a := ha; omega
  have h := w23 a ha h2
  rw [uL_2, if_neg (fun x => absurd x.1 (by decide)), uL_2, if_neg (fun x => hne x.2)]
  exact h
theorem k_charge (h : RC K A c V ms) (hW : WB V) (hz : 300 ≤ z) {t : Nat} (ht : t < tN V) (hs : st V t) : ∃ c', f_X6_chargeAndTakeDown K z c ms (A 4 t) = some (feV V t, c') ∧ RC K A c' (goV V t) ms ∧ (∀ f, f ≠ 148 → zr c' f = zr c f) := by
  unfold f_X6_chargeAndTakeDown
  rw [k_fee h hW ht, zb_s, zlet, zlet, (C9 h t ht).2.2, zl_zul, if_neg (fun x => absurd x.1 (by decide)), (C10 h).2.2.2.2.2.2.2.1]
  obtain ⟨c', a, b, d⟩ := k_takeDown (z := z) (RC_fee h ht (Int32.toInt64 (feV V t))) (feW hW ht _) hz (t := t) ht hs
  rw [a, zb_s]
  exact ⟨c', rfl, b, d⟩
theorem goW (hW : WB V) {t : Nat} (ht : t < tN V) : WB (goV V t) := tdV_W (feW hW ht (Int32.toInt64 (feV V t))) (t := t) ht
end KD
