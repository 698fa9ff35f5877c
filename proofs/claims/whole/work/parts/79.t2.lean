/-! the start: nothing is there -/
def zs0 : zS := (fun _ _ _ => 0, fun _ _ _ => 0, fun _ _ _ => none)
def V0 : zV := (fun _ _ => 0, fun _ _ => 0)
def A00 (k j : Nat) : Nat := (k + j) * (k + j) + k
theorem A00_i : Ai A00 := by
  have key : ∀ k j k' j', k + j < k' + j' → A00 k j < A00 k' j' := fun k j k' j' h => by
    unfold A00
    have h1 : (k + j + 1) * (k + j + 1) ≤ (k' + j') * (k' + j') := Nat.mul_le_mul h h
    rw [Nat.add_mul, Nat.mul_add] at h1
    omega
  intro k j k' j' h
  rcases Nat.lt_trichotomy (k + j) (k' + j') with x | x | x
  · have := key k j k' j' x; omega
  · unfold A00 at h
    rw [x] at h
    omega
  · have := key k' j' k j x; omega
theorem WV_0 : WV 0 V0 := by
  have eN : tN V0 = 0 := rfl
  have eR : rN V0 = 0 := rfl
  refine ⟨⟨?_, ?_, ?_, ?_, ?_, ?_, ?_, ?_, ?_, ?_, ?_, ?_, ?_, ?_, ?_, ?_, ?_, ?_⟩, ?_, ?_, ?_, ?_, ?_, ?_⟩
  · exact rfl
  · exact Nat.zero_le _
  · exact rfl
  · exact Nat.zero_le _
  · exact fun t ht => absurd ht (Nat.not_lt_zero t)
  · exact fun t ht => absurd ht (Nat.not_lt_zero t)
  · exact fun i _ => ⟨rfl, Nat.zero_le _⟩
  · exact fun q _ => ⟨0, by decide, rfl⟩
  · exact fun q _ => Or.inl rfl
  · exact fun q _ => Or.inl rfl
  · exact fun t ht => absurd ht (Nat.not_lt_zero t)
  · exact fun a b ha => absurd ha (Nat.not_lt_zero a)
  · exact fun t ht => absurd ht (Nat.not_lt_zero t)
  · exact fun t ht => absurd ht (Nat.not_lt_zero t)
  · exact fun a b ha => absurd ha (Nat.not_lt_zero a)
  · exact fun t ht => absurd ht (Nat.not_lt_zero t)
  · exact fun t _ _ => ⟨rfl, rfl, rfl, rfl, rfl, rfl, rfl, rfl, rfl, rfl, rfl, rfl, rfl, rfl, rfl, rfl, rfl, rfl, rfl, fun _ _ => ⟨rfl, rfl⟩⟩
  · exact fun j k _ _ => ⟨rfl, fun _ => ⟨rfl, rfl⟩⟩
  · exact ⟨0, by decide, rfl⟩
  · exact fun _ t _ => ⟨rfl, rfl, rfl, rfl, rfl, rfl, rfl⟩
  · exact fun _ t _ => ⟨rfl, rfl, rfl⟩
  · exact fun t ht => absurd ht (Nat.not_lt_zero t)
  · exact ⟨0, Nat.le_refl _, rfl, fun t ht => absurd ht (Nat.not_lt_zero t)⟩
  · exact ⟨0, 0, Nat.le_refl _, Nat.le_refl _, rfl, rfl⟩
theorem up_ge {K : Nat → Nat} {q l x : Nat} (hl : l < 255) (h : 255 ≤ va_up K q l x) : x ≠ q ∧ 255 ≤ K x := up_ne hl h
/-- the model's arrays -/
theorem mk_all {th : Nat} : ∀ (fs : List Nat) (K : Nat → Nat) (L : List Nat) (r : zS) (K9 : Nat → Nat) (L9 : List Nat) (r9 : zS), g_mk th fs K L r K9 L9 r9 → fs.Nodup → (∀ f, f ∈ fs → f < 100) → K th < 255 → ∃ ra : Nat → Nat, (∀ f, f ∈ fs → zr r9 f th 0 = some (ra f) ∧ K9 (ra f) = 100 + f) ∧ (∀ f, f ∉ fs → zr r9 f th 0 = zr r f th 0) ∧ ((∀ f a j, zi r f a j = 0) → ∀ f a j, zi r9 f a j = 0) ∧ ((∀ f a j, zl r f a j = 0) → ∀ f a j, zl r9 f a j = 0) ∧ ∀ a, K a < 255 → K9 a = K a := by
  intro fs
  induction fs with
  | nil =>
    intro K L r K9 L9 r9 h _ _ _
    obtain ⟨rfl, rfl, rfl⟩ := h
    exact ⟨fun _ => 0, fun f hf => absurd hf List.not_mem_nil, fun _ _ => rfl, fun h => h, fun h => h, fun _ _ => rfl⟩
  | cons f fs ih =>
    intro K L r K9 L9 r9 h hnd hlt hth
    obtain ⟨q, hq, h⟩ := h
    have hf := hlt f List.mem_cons_self
    have ht : th ≠ q := ne_new hq hth
    obtain ⟨hn1, hn2⟩ := List.nodup_cons.mp hnd
    have e1 : va_up K q (100 + f) th = K th := up_o ht
    obtain ⟨ra, a1, a2, a3, a4, a5⟩ := ih (va_up K q (100 + f)) (L ++ [q]) (zur (znw r q) f th 0 (some q)) K9 L9 r9 h hn2 (fun g hg => hlt g (List.mem_cons_of_mem _ hg)) (by rw [e1]; exact hth)
    refine ⟨fun g => if g = f then q else ra g, fun g hg => ?_, fun g hg => ?_, fun hz => a3 (fun f' a j => ?_), fun hz => a4 (fun f' a j => ?_), fun a ha => ?_⟩
    · show zr r9 g th 0 = some (if g = f then q else ra g) ∧ K9 (if g = f then q else ra g) = 100 + g
      by_cases e : g = f
      · subst e
        rw [if_pos rfl, a2 g hn1, zr_zur, if_pos ⟨rfl, rfl, rfl⟩, a5 q (by rw [up_s]; omega), up_s]
        exact ⟨rfl, rfl⟩
      · rw [if_neg e]
        exact a1 g (by rcases List.mem_cons.mp hg with x | x; exact absurd x e; exact x)
    · have e : g ≠ f := fun e => hg (by rw [e]; exact List.mem_cons_self)
      rw [a2 g (fun x => hg (List.mem_cons_of_mem _ x)), zr_zur, if_neg (fun x => e x.1), zr_znw, if_neg ht]
    · show zi (znw r q) f' a j = 0
      rw [zi_znw]; split
      · rfl
      · exact hz _ _ _
    · show zl (znw r q) f' a j = 0
      rw [zl_znw]; split
      · rfl
      · exact hz _ _ _
    · have ha2 : a ≠ q := ne_new hq ha
      rw [a5 a (by rw [up_o ha2]; exact ha), up_o ha2]
theorem fs_arr : ∀ k, k < 100 → arr k = true → k ∈ [1, 2, 3, 4, 5, 6, 8, 9, 10, 11, 12, 13, 14, 15, 16, 17, 18, 19, 20, 21, 22, 23, 24, 25, 26, 27, 28, 29, 30, 31, 32, 33, 34, 45, 46, 47, 49, 50] := by decide +kernel
/-- the class's rows -/
theorem rows_A {aR : Nat} : ∀ (n : Nat) (K : Nat → Nat) (L : List Nat) (c : zS) (K9 : Nat → Nat) (L9 : List Nat) (c9 : zS), g_X6_rows aR n K L c K9 L9 c9 → K aR < 255 → ∀ A : Nat → Nat → Nat, Ai A → (∀ k, 11 ≤ k → k ≤ 15 → K (A k 0) < 255) → ∃ A' : Nat → Nat → Nat, Ai A' ∧ (∀ k, 11 ≤ k → k ≤ 15 → A' k 0 = A k 0) ∧ (∀ i, i < n → K9 (A' 0 i) = 0 ∧ K9 (A' 1 i) = 8 ∧ K9 (A' 2 i) = 16 ∧ zr c9 143 aR i = some (A' 0 i) ∧ zr c9 0 (A' 0 i) 0 = some (A' 1 i) ∧ zr c9 1 (A' 0 i) 0 = some (A' 2 i)) ∧ (∀ a, K a < 255 → K9 a = K a) ∧ (∀ a, K a < 255 → ∀ f j, f ≠ 143 → zr c9 f a j = zr c f a j) ∧ (∀ f, f ≠ 0 → f ≠ 1 → f ≠ 143 → (∀ a j, zr c f a j = none) → ∀ a j, zr c9 f a j = none) ∧ ((∀ f a j, zi c f a j = 0) → ∀ f a j, zi c9 f a j = 0) ∧ ((∀ f a j, zl c f a j = 0) → ∀ f a j, zl c9 f a j = 0) := by
  intro n
  induction n with
  | zero =>
    intro K L c K9 L9 c9 h hR A hA hk
    obtain ⟨rfl, rfl, rfl⟩ := h
    exact ⟨A, hA, fun _ _ _ => rfl, fun i hi => absurd hi (Nat.not_lt_zero i), fun _ _ => rfl, fun _ _ _ _ _ => rfl, fun _ _ _ _ h => h, fun h => h, fun h => h⟩
  | succ n ih =>
    intro K L c K9 L9 c9 h hR A hA hk
    obtain ⟨K1, L1, c1, h1, q, hq, c2, ⟨u1, hu1, u2, hu2, rfl, rfl, rfl⟩, rfl⟩ := h
    obtain ⟨A1, b1, b2, b3, b4, b5, b6, b7, b8⟩ := ih K L c K1 L1 c1 h1 hR A hA hk
    obtain ⟨d1, hu1⟩ := up_ne (by decide) hu1
    obtain ⟨d2, hu2⟩ := up_ne (by decide) hu2
    obtain ⟨d3, hu2⟩ := up_ne (by decide) hu2
    have oK : ∀ a, K1 a < 255 → a ≠ q ∧ a ≠ u1 ∧ a ≠ u2 := fun a ha => ⟨ne_new hq ha, ne_new hu1 ha, ne_new hu2 ha⟩
    have old : ∀ a, K a < 255 → K1 a < 255 := fun a ha => by rw [b4 a ha]; exact ha
    obtain ⟨A2, hA2, g2, e2⟩ := A_ext b1 0 n q
    obtain ⟨A3, hA3, g3, e3⟩ := A_ext hA2 1 n u1
    obtain ⟨A4, hA4, g4, e4⟩ := A_ext hA3 2 n u2
    have g23 : A3 0 n = q := by rw [e3 0 n (by rw [g2]; exact d1.symm) (Or.inl (by decide))]; exact g2
    have g24 : A4 0 n = q := by rw [e4 0 n (by rw [g23]; exact d3.symm) (Or.inl (by decide))]; exact g23
    have g34 : A4 1 n = u1 := by rw [e4 1 n (by rw [g3]; exact d2.symm) (Or.inl (by decide))]; exact g3
    have P : ∀ k j, K1 (A1 k j) < 255 → ¬ (k ≤ 2 ∧ j = n) → A4 k j = A1 k j := fun k j hkj hn => by
      obtain ⟨o1, o2, o3⟩ := oK _ hkj
      have f2 : A2 k j = A1 k j := e2 k j o1 (by omega)
      have f3 : A3 k j = A1 k j := by rw [e3 k j (by rw [f2]; exact o2) (by omega)]; exact f2
      rw [e4 k j (by rw [f3]; exact o3) (by omega)]; exact f3
    have KO : ∀ a, K1 a < 255 → va_up (va_up (va_up K1 q 0) u1 8) u2 16 a = K1 a := fun a ha => by
      obtain ⟨o1, o2, o3⟩ := oK a ha
      rw [up_o o3, up_o o2, up_o o1]
    have RO : ∀ a, K1 a < 255 → ∀ f j, (f ≠ 143 ∨ a ≠ aR ∨ j ≠ n) → zr (zur (zur (znw (zur (znw (znw c1 q) u1) 0 q 0 (some u1)) u2) 1 q 0 (some u2)) 143 aR n (some q)) f a j = zr c1 f a j := fun a ha f j hf => by
      obtain ⟨o1, o2, o3⟩ := oK a ha
      rw [zr_zur, if_neg (fun y => by omega), zr_zur, if_neg (fun y => o1 y.2.1), zr_znw, if_neg o3, zr_zur, if_neg (fun y => o1 y.2.1), zr_znw, if_neg o2, zr_znw, if_neg o1]
    have hR1 : K1 aR < 255 := old aR hR
    obtain ⟨oR1, oR2, oR3⟩ := oK aR hR1
    refine ⟨A4, hA4, fun k hk2 hk3 => ?_, fun i hi => ?_, fun a ha => by rw [KO a (old a ha), b4 a ha], fun a ha f j hf => by rw [RO a (old a ha) f j (Or.inl hf), b5 a ha f j hf], fun f f0 f1 f2 hz a j => ?_, fun hz f a j => ?_, fun hz f a j => ?_⟩
    · rw [P k 0 (by rw [b2 k hk2 hk3]; exact old _ (hk k hk2 hk3)) (by omega), b2 k hk2 hk3]
    · by_cases e : i = n
      · subst e
        rw [g24, g34, g4]
        refine ⟨by rw [up_o d3.symm, up_o d1.symm, up_s], by rw [up_o d2.symm, up_s], by rw [up_s], by rw [zr_zur, if_pos ⟨rfl, rfl, rfl⟩], ?_, ?_⟩
        · rw [zr_zur, if_neg (fun y => absurd y.1 (by decide)), zr_zur, if_neg (fun y => absurd y.1 (by decide)), zr_znw, if_neg d3.symm, zr_zur, if_pos ⟨rfl, rfl, rfl⟩]
        · rw [zr_zur, if_neg (fun y => absurd y.1 (by decide)), zr_zur, if_pos ⟨rfl, rfl, rfl⟩]
      · obtain ⟨x1, x2, x3, x4, x5, x6⟩ := b3 i (by omega)
        have k0 : K1 (A1 0 i) < 255 := by rw [x1]; decide
        have k1 : K1 (A1 1 i) < 255 := by rw [x2]; decide
        have k2 : K1 (A1 2 i) < 255 := by rw [x3]; decide
        rw [P 0 i k0 (by omega), P 1 i k1 (by omega), P 2 i k2 (by omega), KO _ k0, KO _ k1, KO _ k2, RO aR hR1 143 i (Or.inr (Or.inr e)), RO _ k0 0 0 (Or.inl (by decide)), RO _ k0 1 0 (Or.inl (by decide))]
        exact ⟨x1, x2, x3, x4, x5, x6⟩
    · rw [zr_zur, if_neg (fun y => f2 y.1), zr_zur, if_neg (fun y => f1 y.1), zr_znw]
      split
      · rfl
      · rw [zr_zur, if_neg (fun y => f0 y.1), zr_znw]
        split
        · rfl
        · rw [zr_znw]
          split
          · rfl
          · exact b6 f f0 f1 f2 hz a j
    · show zi (znw (znw (znw c1 q) u1) u2) f a j = 0
      rw [zi_znw, zi_znw, zi_znw]
      repeat' split
      all_goals first | rfl | exact b7 hz f a j
    · show zl (znw (znw (znw c1 q) u1) u2) f a j = 0
      rw [zl_znw, zl_znw, zl_znw]
      repeat' split
      all_goals first | rfl | exact b8 hz f a j
theorem RC_0 {K : Nat → Nat} {A : Nat → Nat → Nat} {c : zS} {ms : Nat} (hA : Ai A) (hz : ∀ f a j, zi c f a j = 0) (hl : ∀ f a j, zl c f a j = 0) (h1 : ∀ i, i < 40 → K (A 0 i) = 0 ∧ K (A 1 i) = 8 ∧ K (A 2 i) = 16 ∧ zr c 143 (A 11 0) i = some (A 0 i) ∧ zr c 0 (A 0 i) 0 = some (A 1 i) ∧ zr c 1 (A 0 i) 0 = some (A 2 i)) (h2 : K (A 11 0) = 11 ∧ K (A 12 0) = 12 ∧ K (A 13 0) = 13 ∧ K (A 14 0) = 14 ∧ K (A 15 0) = 15) (h3 : zr c 120 ms 0 = some (A 11 0) ∧ zr c 121 ms 0 = some (A 12 0) ∧ zr c 122 ms 0 = some (A 13 0) ∧ zr c 123 ms 0 = some (A 14 0) ∧ zr c 124 ms 0 = some (A 15 0)) (h4 : (∀ a j, zr c 144 a j = none) ∧ (∀ a j, zr c 145 a j = none) ∧ (∀ a j, zr c 148 a j = none)) : RC K A c V0 ms := by
  have eN : tN V0 = 0 := rfl
  have eR : rN V0 = 0 := rfl
  have cn0 : ∀ P : Nat → Prop, nI (cn P (tN V0)) = 0 := fun P => rfl
  refine ⟨hA, ⟨fun i hi => ⟨(h1 i hi).1, (h1 i hi).2.1, (h1 i hi).2.2.1⟩, fun j hj => absurd hj (Nat.not_lt_zero j), fun j hj => absurd hj (Nat.not_lt_zero j), h2⟩, ⟨h3.1, h3.2.1, h3.2.2.1, h3.2.2.2.1, h3.2.2.2.2, fun i hi => (h1 i hi).2.2.2⟩, ⟨fun j _ => ?_, fun j _ => ?_⟩, fun j hj => absurd hj (Nat.not_lt_zero j), fun _ _ j hj => absurd hj (Nat.not_lt_zero j), fun j hj => absurd hj (Nat.not_lt_zero j), fun i _ => ⟨hz _ _ _, fun p _ => hz _ _ _⟩, fun j hj => absurd hj (Nat.not_lt_zero j), fun j hj => absurd hj (Nat.not_lt_zero j), ⟨hz _ _ _, hz _ _ _, hz _ _ _, hz _ _ _, hz _ _ _, hz _ _ _, hz _ _ _, hl _ _ _, hl _ _ _, (hl _ _ _).trans rfl, (hl _ _ _).trans rfl⟩, fun j hj => absurd hj (Nat.not_lt_zero j), ⟨?_, ?_⟩, fun i q _ _ => Or.inr ⟨fun o ho => absurd ho (Nat.not_lt_zero o), h4.2.2 _ _⟩, ⟨fun _ => 0, fun i hi => absurd hi (Nat.not_lt_zero i), fun i hi => absurd hi (Nat.not_lt_zero i), fun i j _ hj => absurd hj (Nat.not_lt_zero j), fun t ht => absurd ht (Nat.not_lt_zero t)⟩, fun j hj => absurd hj (Nat.not_lt_zero j)⟩
  · rw [h4.1, eR, if_neg (Nat.not_lt_zero j)]
  · rw [h4.2.1, eN, if_neg (Nat.not_lt_zero j)]
  · rw [hz, cn0]
  · rw [hz, cn0]
theorem start_0 (ms mo ou : Nat) (K1 : Nat → Nat) (L1 : List Nat) (c1 : zS) (K2 : Nat → Nat) (L2 : List Nat) (r2 : zS) (hP1 : g_X6_init (va_up (fun _ => 255) ms 6) ([] ++ [ms]) (znw zs0 ms) ms K1 L1 c1) (hmo : 255 ≤ K1 mo) (hP2 : g_X7_init (va_up K1 mo 7) (L1 ++ [mo]) (znw zs0 mo) mo K2 L2 r2) (hou : 255 ≤ K2 ou) : ∃ ra, IN ms mo ou ra 0 (va_up K2 ou 17) (L2 ++ [ou]) (znw c1 ou) r2 := by
  -- the class
  obtain ⟨u1, hu1, u2, hu2, u3, hu3, u4, hu4, u5, hu5, K8, L8, c8, hR, rfl, rfl, rfl⟩ := hP1
  obtain ⟨d1, hu1⟩ := up_ne (by decide) hu1
  obtain ⟨d2, hu2⟩ := up_ne (by decide) hu2
  obtain ⟨d3, hu2⟩ := up_ne (by decide) hu2
  obtain ⟨d4, hu3⟩ := up_ne (by decide) hu3
  obtain ⟨d5, hu3⟩ := up_ne (by decide) hu3
  obtain ⟨d6, hu3⟩ := up_ne (by decide) hu3
  obtain ⟨d7, hu4⟩ := up_ne (by decide) hu4
  obtain ⟨d8, hu4⟩ := up_ne (by decide) hu4
  obtain ⟨d9, hu4⟩ := up_ne (by decide) hu4
  obtain ⟨d10, hu4⟩ := up_ne (by decide) hu4
  obtain ⟨d11, hu5⟩ := up_ne (by decide) hu5
  obtain ⟨d12, hu5⟩ := up_ne (by decide) hu5
  obtain ⟨d13, hu5⟩ := up_ne (by decide) hu5
  obtain ⟨d14, hu5⟩ := up_ne (by decide) hu5
  obtain ⟨d15, hu5⟩ := up_ne (by decide) hu5
  obtain ⟨A1, hA1, g1, e1⟩ := A_ext A00_i 11 0 u1
  obtain ⟨A2, hA2, g2, e2⟩ := A_ext hA1 12 0 u2
  obtain ⟨A3, hA3, g3, e3⟩ := A_ext hA2 13 0 u3
  obtain ⟨A4, hA4, g4, e4⟩ := A_ext hA3 14 0 u4
  obtain ⟨A5, hA5, g5, e5⟩ := A_ext hA4 15 0 u5
  have g12 : A2 11 0 = u1 := by rw [e2 11 0 (by rw [g1]; exact d2.symm) (Or.inl (by decide))]; exact g1
  have g13 : A3 11 0 = u1 := by rw [e3 11 0 (by rw [g12]; exact d5.symm) (Or.inl (by decide))]; exact g12
  have g14 : A4 11 0 = u1 := by rw [e4 11 0 (by rw [g13]; exact d9.symm) (Or.inl (by decide))]; exact g13
  have g15 : A5 11 0 = u1 := by rw [e5 11 0 (by rw [g14]; exact d14.symm) (Or.inl (by decide))]; exact g14
  have g23 : A3 12 0 = u2 := by rw [e3 12 0 (by rw [g2]; exact d4.symm) (Or.inl (by decide))]; exact g2
  have g24 : A4 12 0 = u2 := by rw [e4 12 0 (by rw [g23]; exact d8.symm) (Or.inl (by decide))]; exact g23
  have g25 : A5 12 0 = u2 := by rw [e5 12 0 (by rw [g24]; exact d13.symm) (Or.inl (by decide))]; exact g24
  have g34 : A4 13 0 = u3 := by rw [e4 13 0 (by rw [g3]; exact d7.symm) (Or.inl (by decide))]; exact g3
  have g35 : A5 13 0 = u3 := by rw [e5 13 0 (by rw [g34]; exact d12.symm) (Or.inl (by decide))]; exact g34
  have g45 : A5 14 0 = u4 := by rw [e5 14 0 (by rw [g4]; exact d11.symm) (Or.inl (by decide))]; exact g4
  have FK : (va_up (va_up (va_up (va_up (va_up (va_up (fun _ => 255) ms 6) u1 11) u2 12) u3 13) u4 14) u5 15) ms = 6 ∧ (va_up (va_up (va_up (va_up (va_up (va_up (fun _ => 255) ms 6) u1 11) u2 12) u3 13) u4 14) u5 15) u1 = 11 ∧ (va_up (va_up (va_up (va_up (va_up (va_up (fun _ => 255) ms 6) u1 11) u2 12) u3 13) u4 14) u5 15) u2 = 12 ∧ (va_up (va_up (va_up (va_up (va_up (va_up (fun _ => 255) ms 6) u1 11) u2 12) u3 13) u4 14) u5 15) u3 = 13 ∧ (va_up (va_up (va_up (va_up (va_up (va_up (fun _ => 255) ms 6) u1 11) u2 12) u3 13) u4 14) u5 15) u4 = 14 ∧ (va_up (va_up (va_up (va_up (va_up (va_up (fun _ => 255) ms 6) u1 11) u2 12) u3 13) u4 14) u5 15) u5 = 15 := by
    simp [va_up, d1, d2, d3, d4, d5, d6, d7, d8, d9, d10, d11, d12, d13, d14, d15, d1.symm, d2.symm, d3.symm, d4.symm, d5.symm, d6.symm, d7.symm, d8.symm, d9.symm, d10.symm, d11.symm, d12.symm, d13.symm, d14.symm, d15.symm]
  have FR : zr (zur (znw (zur (znw (zur (znw (zur (znw (zur (znw (znw zs0 ms) u1) 120 ms 0 (some u1)) u2) 121 ms 0 (some u2)) u3) 122 ms 0 (some u3)) u4) 123 ms 0 (some u4)) u5) 124 ms 0 (some u5)) 120 ms 0 = some u1 ∧ zr (zur (znw (zur (znw (zur (znw (zur (znw (zur (znw (znw zs0 ms) u1) 120 ms 0 (some u1)) u2) 121 ms 0 (some u2)) u3) 122 ms 0 (some u3)) u4) 123 ms 0 (some u4)) u5) 124 ms 0 (some u5)) 121 ms 0 = some u2 ∧ zr (zur (znw (zur (znw (zur (znw (zur (znw (zur (znw (znw zs0 ms) u1) 120 ms 0 (some u1)) u2) 121 ms 0 (some u2)) u3) 122 ms 0 (some u3)) u4) 123 ms 0 (some u4)) u5) 124 ms 0 (some u5)) 122 ms 0 = some u3 ∧ zr (zur (znw (zur (znw (zur (znw (zur (znw (zur (znw (znw zs0 ms) u1) 120 ms 0 (some u1)) u2) 121 ms 0 (some u2)) u3) 122 ms 0 (some u3)) u4) 123 ms 0 (some u4)) u5) 124 ms 0 (some u5)) 123 ms 0 = some u4 ∧ zr (zur (znw (zur (znw (zur (znw (zur (znw (zur (znw (znw zs0 ms) u1) 120 ms 0 (some u1)) u2) 121 ms 0 (some u2)) u3) 122 ms 0 (some u3)) u4) 123 ms 0 (some u4)) u5) 124 ms 0 (some u5)) 124 ms 0 = some u5 := by
    simp [zr_zur, zr_znw, d1, d2, d3, d4, d5, d6, d7, d8, d9, d10, d11, d12, d13, d14, d15, d1.symm, d2.symm, d3.symm, d4.symm, d5.symm, d6.symm, d7.symm, d8.symm, d9.symm, d10.symm, d11.symm, d12.symm, d13.symm, d14.symm, d15.symm]
  have FN : ∀ f, (f ≠ 120 ∧ f ≠ 121 ∧ f ≠ 122 ∧ f ≠ 123 ∧ f ≠ 124) → ∀ a j, zr (zur (znw (zur (znw (zur (znw (zur (znw (zur (znw (znw zs0 ms) u1) 120 ms 0 (some u1)) u2) 121 ms 0 (some u2)) u3) 122 ms 0 (some u3)) u4) 123 ms 0 (some u4)) u5) 124 ms 0 (some u5)) f a j = none := fun f hf a j => by
    simp only [zr_zur, zr_znw, hf.1, hf.2.1, hf.2.2.1, hf.2.2.2.1, hf.2.2.2.2, false_and, if_false]
    repeat' split
    all_goals rfl
  have FI : ∀ f a j, zi (zur (znw (zur (znw (zur (znw (zur (znw (zur (znw (znw zs0 ms) u1) 120 ms 0 (some u1)) u2) 121 ms 0 (some u2)) u3) 122 ms 0 (some u3)) u4) 123 ms 0 (some u4)) u5) 124 ms 0 (some u5)) f a j = 0 := fun f a j => by
    show zi (znw (znw (znw (znw (znw (znw zs0 ms) u1) u2) u3) u4) u5) f a j = 0
    rw [zi_znw, zi_znw, zi_znw, zi_znw, zi_znw, zi_znw]
    repeat' split
    all_goals rfl
  have FL : ∀ f a j, zl (zur (znw (zur (znw (zur (znw (zur (znw (zur (znw (znw zs0 ms) u1) 120 ms 0 (some u1)) u2) 121 ms 0 (some u2)) u3) 122 ms 0 (some u3)) u4) 123 ms 0 (some u4)) u5) 124 ms 0 (some u5)) f a j = 0 := fun f a j => by
    show zl (znw (znw (znw (znw (znw (znw zs0 ms) u1) u2) u3) u4) u5) f a j = 0
    rw [zl_znw, zl_znw, zl_znw, zl_znw, zl_znw, zl_znw]
    repeat' split
    all_goals rfl
  -- the addresses beyond 15 are never asked for: they are made to lie among the known ones by the rows' own claim
  have FA : ∀ k, 11 ≤ k → k ≤ 15 → (va_up (va_up (va_up (va_up (va_up (va_up (fun _ => 255) ms 6) u1 11) u2 12) u3 13) u4 14) u5 15) (A5 k 0) < 255 := fun k h1 h2 => by
    rcases (show k = 11 ∨ k = 12 ∨ k = 13 ∨ k = 14 ∨ k = 15 by omega) with rfl | rfl | rfl | rfl | rfl
    · rw [g15, FK.2.1]; decide
    · rw [g25, FK.2.2.1]; decide
    · rw [g35, FK.2.2.2.1]; decide
    · rw [g45, FK.2.2.2.2.1]; decide
    · rw [g5, FK.2.2.2.2.2]; decide
  obtain ⟨A6, b1, b2, b3, b4, b5, b6, b7, b8⟩ := rows_A 40 _ _ _ _ _ _ hR (by rw [FK.2.1]; decide) A5 hA5 FA
  have kms : K1 ms = 6 := by rw [b4 ms (by rw [FK.1]; decide)]; exact FK.1
  have k1 : K1 u1 = 11 := by rw [b4 u1 (by rw [FK.2.1]; decide)]; exact FK.2.1
  have k2 : K1 u2 = 12 := by rw [b4 u2 (by rw [FK.2.2.1]; decide)]; exact FK.2.2.1
  have k3 : K1 u3 = 13 := by rw [b4 u3 (by rw [FK.2.2.2.1]; decide)]; exact FK.2.2.2.1
  have k4 : K1 u4 = 14 := by rw [b4 u4 (by rw [FK.2.2.2.2.1]; decide)]; exact FK.2.2.2.2.1
  have k5 : K1 u5 = 15 := by rw [b4 u5 (by rw [FK.2.2.2.2.2]; decide)]; exact FK.2.2.2.2.2
  -- the model
  obtain ⟨ra, m1, m2, m3, m4, m5⟩ := mk_all _ _ _ _ _ _ _ hP2 (by decide) (by decide) (by rw [up_s]; decide)
  have c8r : ∀ f j, f ≠ 143 → zr c1 f ms j = zr (zur (znw (zur (znw (zur (znw (zur (znw (zur (znw (znw zs0 ms) u1) 120 ms 0 (some u1)) u2) 121 ms 0 (some u2)) u3) 122 ms 0 (some u3)) u4) 123 ms 0 (some u4)) u5) 124 ms 0 (some u5)) f ms j := fun f j hf => b5 ms (by rw [FK.1]; decide) f j hf
  have OLD : ∀ a, K1 a < 255 → va_up K2 ou 17 a = K1 a := fun a ha => by
    have h1 : a ≠ mo := ne_new hmo ha
    have h2 : K2 a = K1 a := by rw [m5 a (by rw [up_o h1]; exact ha), up_o h1]
    rw [up_o (ne_new hou (by rw [h2]; exact ha)), h2]
  have OU : ∀ a, K1 a < 255 → a ≠ ou := fun a ha => by
    have h1 : a ≠ mo := ne_new hmo ha
    have h2 : K2 a = K1 a := by rw [m5 a (by rw [up_o h1]; exact ha), up_o h1]
    exact ne_new hou (by rw [h2]; exact ha)
  have Zr : ∀ a, K1 a < 255 → ∀ f j, zr (znw c1 ou) f a j = zr c1 f a j := fun a ha f j => by rw [zr_znw, if_neg (OU a ha)]
  have kmo : K2 mo = 7 := by rw [m5 mo (by rw [up_s]; decide), up_s]
  have G : ∀ k, 11 ≤ k → k ≤ 15 → A6 k 0 = A5 k 0 := b2
  have hRC : RC (va_up K2 ou 17) A6 (znw c1 ou) V0 ms := by
    refine RC_0 b1 (fun f a j => ?_) (fun f a j => ?_) (fun i hi => ?_) ?_ ?_ ⟨fun a j => ?_, fun a j => ?_, fun a j => ?_⟩
    · rw [zi_znw]; split
      · rfl
      · exact b7 FI f a j
    · rw [zl_znw]; split
      · rfl
      · exact b8 FL f a j
    · obtain ⟨x1, x2, x3, x4, x5, x6⟩ := b3 i hi
      rw [G 11 (by decide) (by decide), g15, OLD _ (by rw [x1]; decide), OLD _ (by rw [x2]; decide), OLD _ (by rw [x3]; decide), Zr u1 (by rw [k1]; decide), Zr _ (by rw [x1]; decide), Zr _ (by rw [x1]; decide)]
      exact ⟨x1, x2, x3, x4, x5, x6⟩
    · rw [G 11 (by decide) (by decide), G 12 (by decide) (by decide), G 13 (by decide) (by decide), G 14 (by decide) (by decide), G 15 (by decide) (by decide), g15, g25, g35, g45, g5, OLD _ (by rw [k1]; decide), OLD _ (by rw [k2]; decide), OLD _ (by rw [k3]; decide), OLD _ (by rw [k4]; decide), OLD _ (by rw [k5]; decide)]
      exact ⟨k1, k2, k3, k4, k5⟩
    · rw [G 11 (by decide) (by decide), G 12 (by decide) (by decide), G 13 (by decide) (by decide), G 14 (by decide) (by decide), G 15 (by decide) (by decide), g15, g25, g35, g45, g5, Zr ms (by rw [kms]; decide), Zr ms (by rw [kms]; decide), Zr ms (by rw [kms]; decide), Zr ms (by rw [kms]; decide), Zr ms (by rw [kms]; decide), c8r 120 0 (by decide), c8r 121 0 (by decide), c8r 122 0 (by decide), c8r 123 0 (by decide), c8r 124 0 (by decide)]
      exact FR
    · rw [zr_znw]; split
      · rfl
      · exact b6 144 (by decide) (by decide) (by decide) (FN 144 (by decide)) a j
    · rw [zr_znw]; split
      · rfl
      · exact b6 145 (by decide) (by decide) (by decide) (FN 145 (by decide)) a j
    · rw [zr_znw]; split
      · rfl
      · exact b6 148 (by decide) (by decide) (by decide) (FN 148 (by decide)) a j
  have RI : ∀ f a j, zi r2 f a j = 0 := m3 (fun f a j => by rw [zi_znw]; split <;> rfl)
  have RL : ∀ f a j, zl r2 f a j = 0 := m4 (fun f a j => by rw [zl_znw]; split <;> rfl)
  have hV : vr ra mo r2 = V0 := by
    refine zV_ext (fun k t => ?_) (fun k t => ?_)
    · show (if scr k = true then (0 : Int32) else if arr k = true then zi r2 (k + 100) (ra k) t else if k < 100 then zi r2 k mo t else 0) = 0
      rw [RI, RI]
      repeat' split
      all_goals rfl
    · show (if k = 34 then zl r2 134 (ra 34) t else if k < 100 then zl r2 k mo t else 0) = 0
      rw [RL, RL]
      repeat' split
      all_goals rfl
  refine ⟨ra, by rw [OLD ms (by rw [kms]; decide)]; exact kms, ?_, up_s, A6, by rw [hV]; exact hRC, by rw [hV]; exact WV_0, fun k hk => ?_⟩
  · rw [up_o (ne_new hou (by rw [kmo]; decide))]; exact kmo
  · obtain ⟨a1, a2⟩ := m1 k (fs_arr k (arr_lt hk) hk)
    have := arr_lt hk
    refine ⟨a1, ?_⟩
    rw [up_o (ne_new hou (by rw [a2]; omega)), a2]; omega
theorem IN_1 {ms mo ou : Nat} {ra : Nat → Nat} (n : Nat) (K : Nat → Nat) (L : List Nat) (c r : zS) (h : IN ms mo ou ra n K L c r) : IN ms mo ou ra (n + 1) K L c r := by
  obtain ⟨q1, q2, q3, A, h1, h2, h3⟩ := h
  exact ⟨q1, q2, q3, A, h1, WV_mono (by omega) h2, h3⟩

