/-! who loses the pitch, who gets it -/
theorem cn_mono {P : Nat → Prop} {i k : Nat} (h : i ≤ k) : cn P i ≤ cn P k := by
  induction k with
  | zero =>
    have e : i = 0 := by omega
    subst e; exact Nat.le_refl _
  | succ k ih =>
    by_cases e : i = k + 1
    · subst e; exact Nat.le_refl _
    · have := ih (by omega)
      rw [cn]; omega
theorem bcv_3 (x : Int32) : (bcv x < 3) = (bcv x ≤ 2) := by
  obtain ⟨j, hj, e⟩ := bcv_b x
  rw [e, n3, n2, lt_ (by omega) (by omega), le_ (by omega) (by omega)]
  exact propext ⟨fun h => by omega, fun h => by omega⟩
def om (A : Nat → Nat → Nat) : Option Nat → Option Nat
  | none => none
  | some y => some (A 4 y)
def F146 (c c' : zS) : Prop := c'.1 = c.1 ∧ c'.2.1 = c.2.1 ∧ ∀ f, f ≠ 146 → c'.2.2 f = c.2.2 f
theorem F146_rf {c : zS} : F146 c c := ⟨rfl, rfl, fun _ _ => rfl⟩
theorem F146_up {c c1 : zS} (h : F146 c c1) {a j : Nat} {v : Option Nat} : F146 c (zur c1 146 a j v) := ⟨h.1, h.2.1, fun f hf => by rw [← h.2.2 f hf]; exact zr_o hf⟩
theorem F146_zi {c c1 : zS} (h : F146 c c1) (f : Nat) : zi c1 f = zi c f := by unfold zi; rw [h.1]
theorem F146_zl {c c1 : zS} (h : F146 c c1) (f : Nat) : zl c1 f = zl c f := by unfold zl; rw [h.2.1]
theorem F146_zr {c c1 : zS} (h : F146 c c1) (f : Nat) (hf : f ≠ 146) : zr c1 f = zr c f := h.2.2 f hf
section LO
variable {K : Nat → Nat} {A : Nat → Nat → Nat} {c : zS} {X : zV} {ms z : Nat}
theorem k_losers4 {P : Nat → Prop} {rk : Nat → Nat} {N : Nat} (hW : WB X) (hNX : N = tN X) (hrk : ∀ i, i < N → rk i < N) (hP : ∀ t, t < N → ((¬ X.1 60 t = 0 ∧ ¬ bcv (X.1 32 t) ≤ 2) ↔ P t)) : ∀ (nn k : Nat) (c : zS), RC K A c X ms → (∀ i, i < N → zr c 146 (A 14 0) i = some (A 4 (rk i))) → (∀ i, i < k → P (rk i) → zr c 147 (A 15 0) (cn (fun i => P (rk i)) i) = some (A 4 (rk i))) → k ≤ N → N - k < nn → ∃ c1, f_X6_lineUpLosers_4 K z ms nn c (nI (cn (fun i => P (rk i)) k)) (nI k) = some (nI (cn (fun i => P (rk i)) N), c1) ∧ Fl c c1 ∧ ∀ i, i < N → P (rk i) → zr c1 147 (A 15 0) (cn (fun i => P (rk i)) i) = some (A 4 (rk i)) := by
  have hN := WB_2 hW
  intro nn
  induction nn with
  | zero => intro k c _ _ _ hk h; omega
  | succ nn ih =>
    intro k c h h146 h147 hk hh
    rw [f_X6_lineUpLosers_4, (C10 h).2.1, WB_1 hW, ← hNX, iLE (by omega) (by omega)]
    by_cases h1 : N ≤ k
    · have e : k = N := by omega
      subst e
      rw [if_pos h1]
      exact ⟨c, rfl, Fl_rf, h147⟩
    · have hkl : k < N := by omega
      have ht : rk k < tN X := by rw [← hNX]; exact hrk k hkl
      have hck := cn_le (fun i => P (rk i)) k
      rw [if_neg h1, kn_123 h, zx_2 (by omega), cl_ (by omega), h146 k hkl, zn_s (K4 h ht), kn_85 h ht, C15 h _ ht]
      have hp := hP (rk k) (hrk k hkl)
      have SKIP : ¬ P (rk k) → ∃ c1, f_X6_lineUpLosers_4 K z ms nn c (nI (cn (fun i => P (rk i)) k)) (nI k + 1) = some (nI (cn (fun i => P (rk i)) N), c1) ∧ Fl c c1 ∧ ∀ i, i < N → P (rk i) → zr c1 147 (A 15 0) (cn (fun i => P (rk i)) i) = some (A 4 (rk i)) := by
        intro hn
        have ih1 := ih (k + 1) c h h146 (fun i hi hpi => by
          by_cases e : i = k
          · rw [e] at hpi; exact absurd hpi hn
          · exact h147 i (by omega) hpi) (by omega) (by omega)
        rw [cn, cif_n hn, Nat.add_zero] at ih1
        rw [nI_1]; exact ih1
      by_cases d1 : X.1 60 (rk k) = 0
      · rw [if_pos d1, zlet]; exact SKIP (fun x => (hp.mpr x).1 d1)
      · rw [if_neg d1, k_bits, zb_s, rt_91_4 h ht, iP (bcv_3 _)]
        by_cases d2 : bcv (X.1 32 (rk k)) ≤ 2
        · rw [if_pos d2, zlet]; exact SKIP (fun x => (hp.mpr x).2 d2)
        · have hpk : P (rk k) := hp.mp ⟨d1, d2⟩
          rw [if_neg d2, kn_124 h, zx_2 (by omega), zlet, cl_ (by omega), zlet, zlet, nI_1, nI_1]
          have ih1 := ih (k + 1) (zur c 147 (A 15 0) (cn (fun i => P (rk i)) k) (some (A 4 (rk k)))) (RC_Fl h Fl_up) (fun i hi => by rw [zr_o (by decide)]; exact h146 i hi) (fun i hi hpi => by
            rw [zr_zur]
            by_cases e : i = k
            · rw [if_pos ⟨rfl, rfl, by rw [e]⟩, e]
            · have hm := cn_mono (P := fun i => P (rk i)) (show i + 1 ≤ k by omega)
              rw [cn, cif_p hpi] at hm
              rw [if_neg (fun x => by omega)]; exact h147 i (by omega) hpi) (by omega) (by omega)
          rw [cn, cif_p hpk] at ih1
          obtain ⟨c1, g1, g2, g3⟩ := ih1
          exact ⟨c1, g1, Fl_tr Fl_up g2, g3⟩
theorem k_heir4 (h : RC K A c X ms) (hW : WB X) (F : Int32) : ∀ (nn k : Nat), k ≤ tN X → tN X - k < nn → f_X6_firstHeir_4 K z c ms F nn (om A (hrS X F k)) (nI k) = some (om A (hrS X F (tN X))) := by
  have hN := WB_2 hW
  intro nn
  induction nn with
  | zero => intro k hk h; omega
  | succ nn ih =>
    intro k hk hh
    rw [f_X6_firstHeir_4, (C10 h).2.1, WB_1 hW, iLE (by omega) (by omega)]
    by_cases h1 : tN X ≤ k
    · rw [if_pos h1, show k = tN X by omega]
    · have hkl : k < tN X := by omega
      have ih1 := ih (k + 1) (by omega) (by omega)
      rw [hrS] at ih1
      rw [if_neg h1, kn_122 h, zx_2 (by omega), cl_ (by omega), kn_145 h hkl (by omega), rt_86_4 h hkl, rt_89_4 h hkl, kn_83 h hkl, rt_20_5 h hkl, rt_82_4 h hkl]
      have SKIP : ¬ cand X F k → f_X6_firstHeir_61 K z c ms F (f_X6_firstHeir_4 K z c ms F nn) (om A (hrS X F k)) (nI k) (A 4 k) = some (om A (hrS X F (tN X))) := by
        intro hn
        rw [cif_n hn] at ih1
        rw [f_X6_firstHeir_61, f_X6_firstHeir_62, if_pos rfl, zlet, nI_1]
        exact ih1
      by_cases c1 : X.1 8 k = 1
      · rw [if_pos c1]
        by_cases c2 : X.1 20 k = 0
        · rw [if_pos c2]; exact SKIP (fun x => x.2.1 c2)
        · rw [if_neg c2]
          by_cases c3 : X.1 12 k = 0
          · rw [if_pos c3]
            by_cases c4 : F < X.1 10 k
            · rw [if_pos c4]; exact SKIP (fun x => absurd c4 (Int32.not_lt.mpr x.2.2.2))
            · have hc : cand X F k := ⟨c1, c2, c3, Int32.not_lt.mp c4⟩
              rw [if_neg c4, f_X6_firstHeir_62, if_neg (by decide)]
              rw [cif_p hc] at ih1
              cases e : hrS X F k with
              | none =>
                rw [e] at ih1
                show zo K none 4 _ _ = _
                rw [zo_n, zlet, nI_1]
                exact ih1
              | some y =>
                rw [e] at ih1
                have hy := (hrS_b _ _ _ _ e).1
                show zo K (some (A 4 y)) 4 _ _ = _
                rw [zo_s (K4 h (show y < tN X by omega)), k_aheadU h hkl (show y < tN X by omega), zb_s]
                by_cases c5 : ahU X k y
                · have ih2 : f_X6_firstHeir_4 K z c ms F nn (om A (cif (ahU X k y) (some k) (some y))) (nI (k + 1)) = _ := ih1
                  rw [cif_p c5] at ih2
                  rw [oi_p c5, if_neg (by decide), zlet, nI_1]
                  exact ih2
                · have ih2 : f_X6_firstHeir_4 K z c ms F nn (om A (cif (ahU X k y) (some k) (some y))) (nI (k + 1)) = _ := ih1
                  rw [cif_n c5] at ih2
                  rw [oi_n c5, if_pos rfl, zlet, nI_1]
                  exact ih2
          · rw [if_neg c3]; exact SKIP (fun x => c3 x.2.2.1)
      · rw [if_neg c1]; exact SKIP (fun x => c1 x.1)
theorem k_heir (h : RC K A c X ms) (hW : WB X) (hz : 300 ≤ z) (F : Int32) : f_X6_firstHeir K z c ms F = some (om A (hrS X F (tN X))) := by
  have hN := WB_2 hW
  exact k_heir4 h hW F z 0 (Nat.zero_le _) (by omega)
def mI (i0 k : Nat) : Nat := if k ≤ i0 then k else k - 1
theorem k_rank4 (h : RC K A c X ms) (hN : tN X ≤ 200) (h35 : X.1 35 0 = nI (tN X)) {rk : Nat → Nat} {i0 : Nat} (hi0 : i0 < tN X) (hrk : ∀ i, i < tN X → rk i < tN X) (inj : ∀ i, i < tN X → i ≠ i0 → rk i ≠ rk i0) : ∀ (nn k : Nat) (c2 : zS), F146 c c2 → (∀ i, i < mI i0 k → zr c2 146 (A 14 0) i = some (A 4 (if i < i0 then rk i else rk (i + 1)))) → (∀ i, k ≤ i → i < tN X → zr c2 146 (A 14 0) i = some (A 4 (rk i))) → k ≤ tN X → tN X - k < nn → ∃ c1, f_X6_rankLast_4 K z ms (A 4 (rk i0)) nn c2 (nI (mI i0 k)) (nI k) = f_X6_rankLast_57 K z ms (A 4 (rk i0)) (zur c1 146 (A 14 0) (tN X - 1) (some (A 4 (rk i0)))) ∧ F146 c c1 ∧ ∀ i, i < tN X - 1 → zr c1 146 (A 14 0) i = some (A 4 (if i < i0 then rk i else rk (i + 1))) := by
  have k14 : K (A 14 0) = 14 := (C1 h).2.2.2.2.2.2.1
  intro nn
  induction nn with
  | zero => intro k c2 _ _ _ hk h; omega
  | succ nn ih =>
    intro k c2 hF h1 h2 hk hh
    have e126 : zi c2 126 ms 0 = nI (tN X) := by rw [F146_zi hF, (C10 h).2.1, h35]
    have e123 : zr c2 123 ms 0 = some (A 14 0) := by rw [F146_zr hF 123 (by decide)]; exact (C2 h).2.2.2.1
    rw [f_X6_rankLast_4, e126, iLE (by omega) (by omega)]
    by_cases h3 : tN X ≤ k
    · have e : k = tN X := by omega
      subst e
      have em : mI i0 (tN X) = tN X - 1 := by unfold mI; rw [if_neg (by omega)]
      rw [em] at h1 ⊢
      rw [if_pos h3, if_neg (show ¬ (200 : Int32) ≤ nI (tN X - 1) from nI_ge (b := 200) (show tN X - 1 < 200 by omega) (by decide)), e123, zn_s k14, zx_2 (by omega), zlet, cl_ (by omega)]
      exact ⟨c2, rfl, hF, h1⟩
    · have hkl : k < tN X := by omega
      rw [if_neg h3, e123, zn_s k14, zx_2 (by omega), cl_ (by omega), h2 k (Nat.le_refl _) hkl, zn_s (K4 h (hrk k hkl))]
      by_cases e : k = i0
      · subst e
        have em : mI k (k + 1) = mI k k := by unfold mI; rw [if_neg (by omega), if_pos (by omega)]; omega
        rw [if_pos rfl, zlet, nI_1, ← em]
        exact ih (k + 1) c2 hF (fun i hi => h1 i (by rw [← em]; exact hi)) (fun i hi => h2 i (by omega)) (by omega) (by omega)
      · have ne : ¬ A 4 (rk k) = A 4 (rk i0) := fun x => inj k hkl e (h.1 _ _ _ _ x).2
        have hm : mI i0 k ≤ k := by unfold mI; split <;> omega
        have em : mI i0 (k + 1) = mI i0 k + 1 := by
          unfold mI
          by_cases x : k + 1 ≤ i0
          · rw [if_pos x, if_pos (by omega)]
          · rw [if_neg x, if_neg (by omega)]; omega
        rw [if_neg ne, zx_2 (by omega), zlet, cl_ (by omega), zlet, zlet, nI_1, nI_1, ← em]
        refine ih (k + 1) (zur c2 146 (A 14 0) (mI i0 k) (some (A 4 (rk k)))) (F146_up hF) (fun i hi => ?_) (fun i hi1 hi2 => ?_) (by omega) (by omega)
        · rw [em] at hi
          rw [zr_zur]
          by_cases x : i = mI i0 k
          · rw [if_pos ⟨rfl, rfl, x⟩]
            congr 2
            unfold mI at x
            by_cases y : k ≤ i0
            · rw [if_pos y] at x; rw [if_pos (by omega), x]
            · rw [if_neg y] at x; rw [if_neg (by omega)]; congr 1; omega
          · rw [if_neg (fun y => x y.2.2)]; exact h1 i (by omega)
        · rw [zr_zur, if_neg (fun y => by omega)]; exact h2 i (by omega) hi2
theorem k_rankLast (h : RC K A c X ms) (hN : tN X ≤ 200) (hz : 300 ≤ z) (h35 : X.1 35 0 = nI (tN X)) {m : Nat} (hm : m < 1000000) (h19 : W19 m X) {t : Nat} (ht : t < tN X) : ∃ c', f_X6_rankLast K z c ms (A 4 t) = some c' ∧ RC K A c' (uV (uV X 11 t (X.1 36 0)) 36 0 (X.1 36 0 + 1)) ms ∧ (∀ f, f ≠ 146 → zr c' f = zr c f) := by
  obtain ⟨rk, r1, r2⟩ := C14 h
  obtain ⟨i0, hi0, e0⟩ := r2.2.2 t ht
  subst e0
  have inj : ∀ i, i < tN X → i ≠ i0 → rk i ≠ rk i0 := fun i hi hne e => by
    rcases Nat.lt_or_ge i i0 with x | x
    · have := r2.2.1 i i0 x hi0; rw [e] at this; omega
    · have := r2.2.1 i0 i (by omega) hi; rw [e] at this; omega
  obtain ⟨c1, a1, a2, a3⟩ := k_rank4 (z := z) h hN h35 hi0 (fun i hi => r2.1 i hi) inj z 0 c F146_rf (fun i hi => by unfold mI at hi; rw [if_pos (Nat.zero_le _)] at hi; omega) (fun i _ hi => r1 i hi) (Nat.zero_le _) (by omega)
  have em : mI i0 0 = 0 := by unfold mI; rw [if_pos (Nat.zero_le _)]
  rw [em] at a1
  have b2 : F146 c (zur c1 146 (A 14 0) (tN X - 1) (some (A 4 (rk i0)))) := F146_up a2
  generalize hc2 : zur c1 146 (A 14 0) (tN X - 1) (some (A 4 (rk i0))) = c2 at *
  have e127 : zi c2 127 ms 0 = X.1 36 0 := by rw [F146_zi b2]; exact (C10 h).2.2.1
  refine ⟨zui (zui c2 87 (A 4 (rk i0)) 0 (X.1 36 0)) 127 ms 0 (X.1 36 0 + 1), ?_, ?_, ?_⟩
  · unfold f_X6_rankLast
    have a1' : f_X6_rankLast_4 K z ms (A 4 (rk i0)) z c 0 0 = _ := a1
    rw [a1', f_X6_rankLast_57, e127, zlet, zi_o (show 127 ≠ 87 by decide), e127, zlet]
  · generalize hc : zui (zui c2 87 (A 4 (rk i0)) 0 (X.1 36 0)) 127 ms 0 (X.1 36 0 + 1) = c'
    have Ez : ∀ g, (g ≠ 87 ∧ g ≠ 127) → zi c' g = zi c g := fun g hg => by rw [← hc, zi_o hg.2, zi_o hg.1, F146_zi b2]
    have El : ∀ g, g ≠ 1000 → zl c' g = zl c g := fun g _ => by rw [← hc]; exact F146_zl b2 g
    have Er : ∀ g, (g ≠ 146) → zr c' g = zr c g := fun g hg => by rw [← hc]; exact F146_zr b2 g hg
    have E : ∀ g, (g ≠ 11 ∧ g ≠ 36) → (uV (uV X 11 (rk i0) (X.1 36 0)) 36 0 (X.1 36 0 + 1)).1 g = X.1 g := fun g hg => by rw [uV_o hg.2, uV_o hg.1]
    have E2 : ∀ g, g ≠ 200 → (uV (uV X 11 (rk i0) (X.1 36 0)) 36 0 (X.1 36 0 + 1)).2 g = X.2 g := fun _ _ => rfl
    refine ⟨h.1, R1_c (E 7 (by decide)) (E 35 (by decide)) (C1 h), R2_c (Er 0 (by decide)) (Er 1 (by decide)) (Er 120 (by decide)) (Er 121 (by decide)) (Er 122 (by decide)) (Er 123 (by decide)) (Er 124 (by decide)) (Er 143 (by decide)) (C2 h), R3_c (Er 144 (by decide)) (Er 145 (by decide)) (E 7 (by decide)) (E 35 (by decide)) (C3 h), R4_c (Er 40 (by decide)) (Er 81 (by decide)) (Er 83 (by decide)) (Er 84 (by decide)) (Er 85 (by decide)) (Er 100 (by decide)) (Er 101 (by decide)) (E 9 (by decide)) (E 35 (by decide)) (C4 h), ?_, R6_c (Ez 141 (by decide)) (Ez 142 (by decide)) (E 16 (by decide)) (E 17 (by decide)) (E 35 (by decide)) (C6 h), R7_c (Ez 2 (by decide)) (Ez 140 (by decide)) (E 1 (by decide)) (E 2 (by decide)) (C7 h), R8_c (Ez 60 (by decide)) (Ez 61 (by decide)) (Ez 62 (by decide)) (Ez 63 (by decide)) (Ez 64 (by decide)) (E 3 (by decide)) (E 4 (by decide)) (E 5 (by decide)) (E 6 (by decide)) (E 7 (by decide)) (C8 h), R9_c (Ez 43 (by decide)) (Ez 80 (by decide)) (El 93 (by decide)) (E 21 (by decide)) (E 22 (by decide)) (E 35 (by decide)) (E2 34 (by decide)) (C9 h), ?_, R11_c (Ez 65 (by decide)) (E 7 (by decide)) (E 9 (by decide)) (E 27 (by decide)) (E 35 (by decide)) (C11 h), R12_c (Ez 132 (by decide)) (Ez 133 (by decide)) (E 8 (by decide)) (E 27 (by decide)) (E 35 (by decide)) (C12 h), R13_c (Er 148 (by decide)) (E 10 (by decide)) (E 27 (by decide)) (E 28 (by decide)) (E 29 (by decide)) (E 35 (by decide)) (C13 h), ?_, R15_c (Ez 47 (by decide)) (E 35 (by decide)) (E 60 (by decide)) (C15 h)⟩
    · have h5 : R5 A c2 X := fun q hq j hj => by rw [F146_zi b2]; exact C5 h q hq j hj
      have h6 : R5 A (zui c2 87 (A 4 (rk i0)) 0 (X.1 36 0)) (uV X 11 (rk i0) (X.1 36 0)) := R5_u1 h.1 (by decide) (by decide) h5
      have Ez : ∀ g, (g ≠ 127) → zi c' g = zi (zui c2 87 (A 4 (rk i0)) 0 (X.1 36 0)) g := fun g hg => by rw [← hc, zi_o hg]
      have E : ∀ g, (g ≠ 36) → (uV (uV X 11 (rk i0) (X.1 36 0)) 36 0 (X.1 36 0 + 1)).1 g = (uV X 11 (rk i0) (X.1 36 0)).1 g := fun g hg => uV_o hg
      exact R5_c (Ez 20 (by decide)) (Ez 21 (by decide)) (Ez 22 (by decide)) (Ez 41 (by decide)) (Ez 42 (by decide)) (Ez 44 (by decide)) (Ez 45 (by decide)) (Ez 46 (by decide)) (Ez 82 (by decide)) (Ez 86 (by decide)) (Ez 87 (by decide)) (Ez 88 (by decide)) (Ez 89 (by decide)) (Ez 90 (by decide)) (Ez 91 (by decide)) (Ez 92 (by decide)) (Ez 102 (by decide)) (Ez 103 (by decide)) (E 8 (by decide)) (E 10 (by decide)) (E 11 (by decide)) (E 12 (by decide)) (E 13 (by decide)) (E 14 (by decide)) (E 15 (by decide)) (E 18 (by decide)) (E 19 (by decide)) (E 20 (by decide)) (E 21 (by decide)) (E 23 (by decide)) (E 24 (by decide)) (E 25 (by decide)) (E 27 (by decide)) (E 28 (by decide)) (E 29 (by decide)) (E 30 (by decide)) (E 31 (by decide)) (E 32 (by decide)) (E 33 (by decide)) (E 35 (by decide)) h6
    · obtain ⟨a1, a2, a3, a4, a5, a6, a7, a8, a9, a10, a11⟩ := C10 h
      refine ⟨by rw [Ez 125 (by decide), E 7 (by decide)]; exact a1, by rw [Ez 126 (by decide), E 35 (by decide)]; exact a2, by rw [← hc, zi_zui, if_pos ⟨rfl, rfl, rfl⟩, uV_s], by rw [Ez 128 (by decide), E 37 (by decide)]; exact a4, by rw [Ez 129 (by decide), E 40 (by decide)]; exact a5, by rw [Ez 130 (by decide), E 38 (by decide)]; exact a6, by rw [Ez 131 (by decide), E 39 (by decide)]; exact a7, by rw [El 134 (by decide)]; exact a8, by rw [El 135 (by decide)]; exact a9, by rw [El 136 (by decide), E 41 (by decide)]; exact a10, by rw [El 137 (by decide), E 42 (by decide)]; exact a11⟩
    · have eN : tN (uV (uV X 11 (rk i0) (X.1 36 0)) 36 0 (X.1 36 0 + 1)) = tN X := rfl
      obtain ⟨q, hq, e36, hq2⟩ := h19
      have kr : ∀ a, rkI (uV (uV X 11 (rk i0) (X.1 36 0)) 36 0 (X.1 36 0 + 1)) a = if a = rk i0 then (q : Int) else rkI X a := fun a => by
        unfold rkI
        rw [uV_o (show 11 ≠ 36 by decide)]
        by_cases e : a = rk i0
        · rw [if_pos e, e, uV_s, e36, nI_toInt (by omega)]
        · rw [if_neg e, uV_t e]
      have kq : ∀ a, a < tN X → rkI X a < q := fun a ha => by
        obtain ⟨k, hk, e⟩ := hq2 a ha
        unfold rkI
        rw [e, nI_toInt (by omega)]; omega
      refine ⟨fun i => if i < tN X - 1 then (if i < i0 then rk i else rk (i + 1)) else rk i0, fun i hi => ?_, ?_⟩
      · rw [eN] at hi
        rw [← hc]
        show zr c2 146 (A 14 0) i = some (A 4 (if i < tN X - 1 then (if i < i0 then rk i else rk (i + 1)) else rk i0))
        rw [← hc2, zr_zur]
        by_cases e : i = tN X - 1
        · rw [if_pos ⟨rfl, rfl, e⟩, if_neg (by omega)]
        · rw [if_neg (fun y => e y.2.2), if_pos (by omega)]; exact a3 i (by omega)
      · rw [eN]
        refine ⟨fun i hi => ?_, fun i j hij hj => ?_, fun a ha => ?_⟩
        · show (if i < tN X - 1 then (if i < i0 then rk i else rk (i + 1)) else rk i0) < tN X
          by_cases e : i < tN X - 1
          · rw [if_pos e]
            by_cases e2 : i < i0
            · rw [if_pos e2]; exact r2.1 i hi
            · rw [if_neg e2]; exact r2.1 (i + 1) (by omega)
          · rw [if_neg e]; exact ht
        · show rkI _ (if i < tN X - 1 then (if i < i0 then rk i else rk (i + 1)) else rk i0) < rkI _ (if j < tN X - 1 then (if j < i0 then rk j else rk (j + 1)) else rk i0)
          rw [kr, kr]
          have hi : i < tN X - 1 := by omega
          rw [if_pos hi]
          have A1 : (if i < i0 then rk i else rk (i + 1)) ≠ rk i0 := by
            by_cases e2 : i < i0
            · rw [if_pos e2]; exact inj i (by omega) (by omega)
            · rw [if_neg e2]; exact inj (i + 1) (by omega) (by omega)
          rw [if_neg A1]
          have B1 : (if i < i0 then rk i else rk (i + 1)) < tN X := by
            by_cases e2 : i < i0
            · rw [if_pos e2]; exact r2.1 i (by omega)
            · rw [if_neg e2]; exact r2.1 (i + 1) (by omega)
          by_cases hj2 : j < tN X - 1
          · rw [if_pos hj2]
            have A2 : (if j < i0 then rk j else rk (j + 1)) ≠ rk i0 := by
              by_cases e2 : j < i0
              · rw [if_pos e2]; exact inj j (by omega) (by omega)
              · rw [if_neg e2]; exact inj (j + 1) (by omega) (by omega)
            rw [if_neg A2]
            by_cases e2 : i < i0
            · rw [if_pos e2]
              by_cases e3 : j < i0
              · rw [if_pos e3]; exact r2.2.1 i j hij (by omega)
              · rw [if_neg e3]; exact r2.2.1 i (j + 1) (by omega) (by omega)
            · rw [if_neg e2, if_neg (by omega)]; exact r2.2.1 (i + 1) (j + 1) (by omega) (by omega)
          · rw [if_neg hj2, if_pos rfl]; exact kq _ B1
        · obtain ⟨i, hi, e⟩ := r2.2.2 a ha
          by_cases e1 : i = i0
          · exact ⟨tN X - 1, by omega, by show (if tN X - 1 < tN X - 1 then (if tN X - 1 < i0 then rk (tN X - 1) else rk (tN X - 1 + 1)) else rk i0) = a; rw [if_neg (by omega), ← e, e1]⟩
          · by_cases e2 : i < i0
            · exact ⟨i, hi, by show (if i < tN X - 1 then (if i < i0 then rk i else rk (i + 1)) else rk i0) = a; rw [if_pos (by omega), if_pos e2, e]⟩
            · exact ⟨i - 1, by omega, by show (if i - 1 < tN X - 1 then (if i - 1 < i0 then rk (i - 1) else rk (i - 1 + 1)) else rk i0) = a; rw [if_pos (by omega), if_neg (by omega), show i - 1 + 1 = i by omega, e]⟩
  · intro f hf
    exact F146_zr b2 f hf
theorem RC_41 (h : RC K A c X ms) {a : Nat} (ha : a < 1000000) (e41 : X.1 41 0 = nI a) : RC K A (zul c 136 ms 0 (zl c 136 ms 0 + 1)) (uV X 41 0 (X.1 41 0 + 1)) ms := by
  have Ez : ∀ g, g ≠ 1000 → zi (zul c 136 ms 0 (zl c 136 ms 0 + 1)) g = zi c g := fun _ _ => rfl
  have El : ∀ g, g ≠ 136 → zl (zul c 136 ms 0 (zl c 136 ms 0 + 1)) g = zl c g := fun g hg => zl_o hg
  have Er : ∀ g, g ≠ 1000 → zr (zul c 136 ms 0 (zl c 136 ms 0 + 1)) g = zr c g := fun _ _ => rfl
  have E : ∀ g, (g ≠ 41) → (uV X 41 0 (X.1 41 0 + 1)).1 g = X.1 g := fun g hg => uV_o hg
  have E2 : ∀ g, g ≠ 200 → (uV X 41 0 (X.1 41 0 + 1)).2 g = X.2 g := fun _ _ => rfl
  refine ⟨h.1, R1_c (E 7 (by decide)) (E 35 (by decide)) (C1 h), R2_c (Er 0 (by decide)) (Er 1 (by decide)) (Er 120 (by decide)) (Er 121 (by decide)) (Er 122 (by decide)) (Er 123 (by decide)) (Er 124 (by decide)) (Er 143 (by decide)) (C2 h), R3_c (Er 144 (by decide)) (Er 145 (by decide)) (E 7 (by decide)) (E 35 (by decide)) (C3 h), R4_c (Er 40 (by decide)) (Er 81 (by decide)) (Er 83 (by decide)) (Er 84 (by decide)) (Er 85 (by decide)) (Er 100 (by decide)) (Er 101 (by decide)) (E 9 (by decide)) (E 35 (by decide)) (C4 h), R5_c (Ez 20 (by decide)) (Ez 21 (by decide)) (Ez 22 (by decide)) (Ez 41 (by decide)) (Ez 42 (by decide)) (Ez 44 (by decide)) (Ez 45 (by decide)) (Ez 46 (by decide)) (Ez 82 (by decide)) (Ez 86 (by decide)) (Ez 87 (by decide)) (Ez 88 (by decide)) (Ez 89 (by decide)) (Ez 90 (by decide)) (Ez 91 (by decide)) (Ez 92 (by decide)) (Ez 102 (by decide)) (Ez 103 (by decide)) (E 8 (by decide)) (E 10 (by decide)) (E 11 (by decide)) (E 12 (by decide)) (E 13 (by decide)) (E 14 (by decide)) (E 15 (by decide)) (E 18 (by decide)) (E 19 (by decide)) (E 20 (by decide)) (E 21 (by decide)) (E 23 (by decide)) (E 24 (by decide)) (E 25 (by decide)) (E 27 (by decide)) (E 28 (by decide)) (E 29 (by decide)) (E 30 (by decide)) (E 31 (by decide)) (E 32 (by decide)) (E 33 (by decide)) (E 35 (by decide)) (C5 h), R6_c (Ez 141 (by decide)) (Ez 142 (by decide)) (E 16 (by decide)) (E 17 (by decide)) (E 35 (by decide)) (C6 h), R7_c (Ez 2 (by decide)) (Ez 140 (by decide)) (E 1 (by decide)) (E 2 (by decide)) (C7 h), R8_c (Ez 60 (by decide)) (Ez 61 (by decide)) (Ez 62 (by decide)) (Ez 63 (by decide)) (Ez 64 (by decide)) (E 3 (by decide)) (E 4 (by decide)) (E 5 (by decide)) (E 6 (by decide)) (E 7 (by decide)) (C8 h), R9_c (Ez 43 (by decide)) (Ez 80 (by decide)) (El 93 (by decide)) (E 21 (by decide)) (E 22 (by decide)) (E 35 (by decide)) (E2 34 (by decide)) (C9 h), ?_, R11_c (Ez 65 (by decide)) (E 7 (by decide)) (E 9 (by decide)) (E 27 (by decide)) (E 35 (by decide)) (C11 h), R12_c (Ez 132 (by decide)) (Ez 133 (by decide)) (E 8 (by decide)) (E 27 (by decide)) (E 35 (by decide)) (C12 h), R13_c (Er 148 (by decide)) (E 10 (by decide)) (E 27 (by decide)) (E 28 (by decide)) (E 29 (by decide)) (E 35 (by decide)) (C13 h), R14_c (Er 146 (by decide)) (E 11 (by decide)) (E 35 (by decide)) (C14 h), R15_c (Ez 47 (by decide)) (E 35 (by decide)) (E 60 (by decide)) (C15 h)⟩
  obtain ⟨a1, a2, a3, a4, a5, a6, a7, a8, a9, a10, a11⟩ := C10 h
  refine ⟨a1, a2, a3, a4, a5, a6, a7, by rw [El 134 (by decide)]; exact a8, by rw [El 135 (by decide)]; exact a9, ?_, by rw [El 137 (by decide), E 42 (by decide)]; exact a11⟩
  rw [zl_zul, if_pos ⟨rfl, rfl, rfl⟩, uV_s, a10, e41, nI_1, nI_l (by omega), nI_l (by omega), lN_1]
theorem RC_42 (h : RC K A c X ms) {a : Nat} (ha : a < 1000000) (e42 : X.1 42 0 = nI a) : RC K A (zul c 137 ms 0 (zl c 137 ms 0 + 1)) (uV X 42 0 (X.1 42 0 + 1)) ms := by
  have Ez : ∀ g, g ≠ 1000 → zi (zul c 137 ms 0 (zl c 137 ms 0 + 1)) g = zi c g := fun _ _ => rfl
  have El : ∀ g, g ≠ 137 → zl (zul c 137 ms 0 (zl c 137 ms 0 + 1)) g = zl c g := fun g hg => zl_o hg
  have Er : ∀ g, g ≠ 1000 → zr (zul c 137 ms 0 (zl c 137 ms 0 + 1)) g = zr c g := fun _ _ => rfl
  have E : ∀ g, (g ≠ 42) → (uV X 42 0 (X.1 42 0 + 1)).1 g = X.1 g := fun g hg => uV_o hg
  have E2 : ∀ g, g ≠ 200 → (uV X 42 0 (X.1 42 0 + 1)).2 g = X.2 g := fun _ _ => rfl
  refine ⟨h.1, R1_c (E 7 (by decide)) (E 35 (by decide)) (C1 h), R2_c (Er 0 (by decide)) (Er 1 (by decide)) (Er 120 (by decide)) (Er 121 (by decide)) (Er 122 (by decide)) (Er 123 (by decide)) (Er 124 (by decide)) (Er 143 (by decide)) (C2 h), R3_c (Er 144 (by decide)) (Er 145 (by decide)) (E 7 (by decide)) (E 35 (by decide)) (C3 h), R4_c (Er 40 (by decide)) (Er 81 (by decide)) (Er 83 (by decide)) (Er 84 (by decide)) (Er 85 (by decide)) (Er 100 (by decide)) (Er 101 (by decide)) (E 9 (by decide)) (E 35 (by decide)) (C4 h), R5_c (Ez 20 (by decide)) (Ez 21 (by decide)) (Ez 22 (by decide)) (Ez 41 (by decide)) (Ez 42 (by decide)) (Ez 44 (by decide)) (Ez 45 (by decide)) (Ez 46 (by decide)) (Ez 82 (by decide)) (Ez 86 (by decide)) (Ez 87 (by decide)) (Ez 88 (by decide)) (Ez 89 (by decide)) (Ez 90 (by decide)) (Ez 91 (by decide)) (Ez 92 (by decide)) (Ez 102 (by decide)) (Ez 103 (by decide)) (E 8 (by decide)) (E 10 (by decide)) (E 11 (by decide)) (E 12 (by decide)) (E 13 (by decide)) (E 14 (by decide)) (E 15 (by decide)) (E 18 (by decide)) (E 19 (by decide)) (E 20 (by decide)) (E 21 (by decide)) (E 23 (by decide)) (E 24 (by decide)) (E 25 (by decide)) (E 27 (by decide)) (E 28 (by decide)) (E 29 (by decide)) (E 30 (by decide)) (E 31 (by decide)) (E 32 (by decide)) (E 33 (by decide)) (E 35 (by decide)) (C5 h), R6_c (Ez 141 (by decide)) (Ez 142 (by decide)) (E 16 (by decide)) (E 17 (by decide)) (E 35 (by decide)) (C6 h), R7_c (Ez 2 (by decide)) (Ez 140 (by decide)) (E 1 (by decide)) (E 2 (by decide)) (C7 h), R8_c (Ez 60 (by decide)) (Ez 61 (by decide)) (Ez 62 (by decide)) (Ez 63 (by decide)) (Ez 64 (by decide)) (E 3 (by decide)) (E 4 (by decide)) (E 5 (by decide)) (E 6 (by decide)) (E 7 (by decide)) (C8 h), R9_c (Ez 43 (by decide)) (Ez 80 (by decide)) (El 93 (by decide)) (E 21 (by decide)) (E 22 (by decide)) (E 35 (by decide)) (E2 34 (by decide)) (C9 h), ?_, R11_c (Ez 65 (by decide)) (E 7 (by decide)) (E 9 (by decide)) (E 27 (by decide)) (E 35 (by decide)) (C11 h), R12_c (Ez 132 (by decide)) (Ez 133 (by decide)) (E 8 (by decide)) (E 27 (by decide)) (E 35 (by decide)) (C12 h), R13_c (Er 148 (by decide)) (E 10 (by decide)) (E 27 (by decide)) (E 28 (by decide)) (E 29 (by decide)) (E 35 (by decide)) (C13 h), R14_c (Er 146 (by decide)) (E 11 (by decide)) (E 35 (by decide)) (C14 h), R15_c (Ez 47 (by decide)) (E 35 (by decide)) (E 60 (by decide)) (C15 h)⟩
  obtain ⟨a1, a2, a3, a4, a5, a6, a7, a8, a9, a10, a11⟩ := C10 h
  refine ⟨a1, a2, a3, a4, a5, a6, a7, by rw [El 134 (by decide)]; exact a8, by rw [El 135 (by decide)]; exact a9, by rw [El 136 (by decide), E 41 (by decide)]; exact a10, ?_⟩
  rw [zl_zul, if_pos ⟨rfl, rfl, rfl⟩, uV_s, a11, e42, nI_1, nI_l (by omega), nI_l (by omega), lN_1]
theorem RC_8 (h : RC K A c X ms) {t : Nat} (e8 : X.1 8 t = 1) : RC K A (zui c 86 (A 4 t) 0 0) (uV X 8 t 0) ms := by
  have Ez : ∀ g, (g ≠ 86) → zi (zui c 86 (A 4 t) 0 0) g = zi c g := fun g hg => zi_o hg
  have El : ∀ g, g ≠ 1000 → zl (zui c 86 (A 4 t) 0 0) g = zl c g := fun _ _ => rfl
  have Er : ∀ g, g ≠ 1000 → zr (zui c 86 (A 4 t) 0 0) g = zr c g := fun _ _ => rfl
  have E : ∀ g, (g ≠ 8) → (uV X 8 t 0).1 g = X.1 g := fun g hg => uV_o hg
  have E2 : ∀ g, g ≠ 200 → (uV X 8 t 0).2 g = X.2 g := fun _ _ => rfl
  refine ⟨h.1, R1_c (E 7 (by decide)) (E 35 (by decide)) (C1 h), R2_c (Er 0 (by decide)) (Er 1 (by decide)) (Er 120 (by decide)) (Er 121 (by decide)) (Er 122 (by decide)) (Er 123 (by decide)) (Er 124 (by decide)) (Er 143 (by decide)) (C2 h), R3_c (Er 144 (by decide)) (Er 145 (by decide)) (E 7 (by decide)) (E 35 (by decide)) (C3 h), R4_c (Er 40 (by decide)) (Er 81 (by decide)) (Er 83 (by decide)) (Er 84 (by decide)) (Er 85 (by decide)) (Er 100 (by decide)) (Er 101 (by decide)) (E 9 (by decide)) (E 35 (by decide)) (C4 h), ?_, R6_c (Ez 141 (by decide)) (Ez 142 (by decide)) (E 16 (by decide)) (E 17 (by decide)) (E 35 (by decide)) (C6 h), R7_c (Ez 2 (by decide)) (Ez 140 (by decide)) (E 1 (by decide)) (E 2 (by decide)) (C7 h), R8_c (Ez 60 (by decide)) (Ez 61 (by decide)) (Ez 62 (by decide)) (Ez 63 (by decide)) (Ez 64 (by decide)) (E 3 (by decide)) (E 4 (by decide)) (E 5 (by decide)) (E 6 (by decide)) (E 7 (by decide)) (C8 h), R9_c (Ez 43 (by decide)) (Ez 80 (by decide)) (El 93 (by decide)) (E 21 (by decide)) (E 22 (by decide)) (E 35 (by decide)) (E2 34 (by decide)) (C9 h), R10_c (Ez 125 (by decide)) (Ez 126 (by decide)) (Ez 127 (by decide)) (Ez 128 (by decide)) (Ez 129 (by decide)) (Ez 130 (by decide)) (Ez 131 (by decide)) (El 134 (by decide)) (El 135 (by decide)) (El 136 (by decide)) (El 137 (by decide)) (E 7 (by decide)) (E 35 (by decide)) (E 36 (by decide)) (E 37 (by decide)) (E 38 (by decide)) (E 39 (by decide)) (E 40 (by decide)) (E 41 (by decide)) (E 42 (by decide)) (E2 43 (by decide)) (E2 44 (by decide)) (C10 h), R11_c (Ez 65 (by decide)) (E 7 (by decide)) (E 9 (by decide)) (E 27 (by decide)) (E 35 (by decide)) (C11 h), ?_, R13_c (Er 148 (by decide)) (E 10 (by decide)) (E 27 (by decide)) (E 28 (by decide)) (E 29 (by decide)) (E 35 (by decide)) (C13 h), R14_c (Er 146 (by decide)) (E 11 (by decide)) (E 35 (by decide)) (C14 h), R15_c (Ez 47 (by decide)) (E 35 (by decide)) (E 60 (by decide)) (C15 h)⟩
  · exact R5_u1 h.1 (by decide) (by decide) (C5 h)
  · obtain ⟨a1, a2⟩ := C12 h
    refine ⟨a1, ?_⟩
    rw [Ez 133 (by decide), a2]
    congr 1
    refine cn_c _ (fun o _ => ?_)
    have es : st (uV X 8 t 0) o ↔ st X o := Iff.rfl
    rw [es]
    by_cases e : o = t
    · subst e
      rw [uV_s, e8]
      exact ⟨fun x => absurd x.2 (by decide), fun x => absurd x.2 (by decide)⟩
    · rw [uV_t e]
end LO
/-- amid the giving out: what still holds -/
def IL (N m : Nat) (X : zV) : Prop := WB X ∧ W19 m X ∧ W21 m X ∧ tN X = N ∧ (∀ x, x < N → X.1 27 x = 0) ∧ ∀ x, N ≤ x → X.1 60 x = 0
theorem IL_mono {N m m' : Nat} {X : zV} (h : IL N m X) (hm : m ≤ m') : IL N m' X := by
  obtain ⟨h1, ⟨q, a1, a2⟩, ⟨x, y, b1, b2, b3⟩, h4⟩ := h
  exact ⟨h1, ⟨q, by omega, a2⟩, ⟨x, y, by omega, by omega, b3⟩, h4⟩
section LS
variable {X : zV} {t h_ : Nat}
theorem lsA_o (f : Nat) (hf : f ≠ 12 ∧ f ≠ 32 ∧ f ≠ 41) : (lsA X t).1 f = X.1 f := by unfold lsA; rw [uV_o hf.2.2, uV_o hf.2.1, uV_o hf.1]
theorem lsA_41 : (lsA X t).1 41 0 = X.1 41 0 + 1 := by unfold lsA; rw [uV_s]
theorem lsH_o (f : Nat) (hf : f ≠ 8 ∧ f ≠ 11 ∧ f ≠ 12 ∧ f ≠ 13 ∧ f ≠ 14 ∧ f ≠ 36 ∧ f ≠ 42) : (lsH X t h_).1 f = X.1 f := by
  unfold lsH; rw [uV_o hf.2.2.2.2.2.1, uV_o hf.2.1, uV_o hf.2.2.2.2.1, uV_o hf.2.2.2.1, uV_o hf.2.2.1, uV_o hf.1, uV_o hf.2.2.2.2.2.2]
theorem lsH_n {a : Nat} (ha : a ≠ h_) (f : Nat) (hf : f ≠ 36 ∧ f ≠ 42) : (lsH X t h_).1 f a = X.1 f a := by
  unfold lsH; rw [uV_o hf.1, uV_n ha, uV_n ha, uV_n ha, uV_n ha, uV_n ha, uV_o hf.2]
theorem lsH_11 : (lsH X t h_).1 11 h_ = X.1 36 0 := by unfold lsH; rw [uV_o (by decide), uV_s]
theorem lsH_36 : (lsH X t h_).1 36 0 = X.1 36 0 + 1 := by unfold lsH; rw [uV_s]
theorem lsH_42 : (lsH X t h_).1 42 0 = X.1 42 0 + 1 := by unfold lsH; rw [uV_o (by decide), uV_o (by decide), uV_o (by decide), uV_o (by decide), uV_o (by decide), uV_o (by decide), uV_s]
theorem lsV_c : (hrS (lsA X t) (X.1 10 t) (tN X) = none ∧ lsV X t = lsA X t) ∨ ∃ h_, hrS (lsA X t) (X.1 10 t) (tN X) = some h_ ∧ lsV X t = lsH (lsA X t) t h_ ∧ h_ < tN X ∧ cand (lsA X t) (X.1 10 t) h_ := by
  unfold lsV
  cases e : hrS (lsA X t) (X.1 10 t) (tN X) with
  | none => exact Or.inl ⟨rfl, rfl⟩
  | some y => exact Or.inr ⟨y, rfl, rfl, hrS_b _ _ _ _ e⟩
theorem IL_A {N m : Nat} (h : IL N m X) (ht : t < N) : IL N (m + 1) (lsA X t) := by
  obtain ⟨h1, ⟨q, a1, a2, a3⟩, ⟨x, y, b1, b2, b3, b4⟩, h4, h5, h6⟩ := h
  have eN : tN (lsA X t) = tN X := rfl
  refine ⟨lsA_W h1 (by rw [h4]; exact ht), ⟨q, by omega, by rw [lsA_o 36 (by decide)]; exact a2, fun a ha => ?_⟩, ⟨x + 1, y, by omega, by omega, by rw [lsA_41, b3, nI_1], by rw [lsA_o 42 (by decide)]; exact b4⟩, h4, fun a ha => by rw [lsA_o 27 (by decide)]; exact h5 a ha, fun a ha => by rw [lsA_o 60 (by decide)]; exact h6 a ha⟩
  rw [lsA_o 11 (by decide)]; exact a3 a ha
theorem IL_H {N m : Nat} (h : IL N m X) (hm : m < 1000000) (hh : h_ < N) : IL N (m + 1) (lsH X t h_) := by
  obtain ⟨h1, ⟨q, a1, a2, a3⟩, ⟨x, y, b1, b2, b3, b4⟩, h4, h5, h6⟩ := h
  have eN : tN (lsH X t h_) = tN X := by unfold tN; rw [lsH_o 35 (by decide)]
  have E : ∀ f, (f ≠ 8 ∧ f ≠ 11 ∧ f ≠ 12 ∧ f ≠ 13 ∧ f ≠ 14 ∧ f ≠ 36 ∧ f ≠ 42) → (lsH X t h_).1 f = X.1 f := fun f hf => lsH_o f hf
  have E2 : ∀ f, f ≠ 200 → (lsH X t h_).2 f = X.2 f := fun _ _ => rfl
  refine ⟨?_, ⟨q + 1, by omega, by rw [lsH_36, a2, nI_1], fun a ha => ?_⟩, ⟨x, y + 1, by omega, by omega, by rw [E 41 (by decide)]; exact b3, by rw [lsH_42, b4, nI_1]⟩, by rw [eN]; exact h4, fun a ha => by rw [E 27 (by decide)]; exact h5 a ha, fun a ha => by rw [E 60 (by decide)]; exact h6 a ha⟩
  · obtain ⟨w1, w2, w3, w4, w5, w6, w7, w8, w9, w10, w11, w12, w13, w18, w20, w22, w23, w24⟩ := h1
    refine ⟨W1_c (E 35 (by decide)) w1, W2_c (E 35 (by decide)) w2, W3_c (E 7 (by decide)) w3, W4_c (E 7 (by decide)) w4, W5_c (E 7 (by decide)) (E 9 (by decide)) (E 35 (by decide)) w5, W6_c (E 10 (by decide)) (E 35 (by decide)) w6, W7_c (E 1 (by decide)) w7, W8_c (E 2 (by decide)) w8, W9_c (E 6 (by decide)) w9, W10_c (E 5 (by decide)) w10, W11_c (E 1 (by decide)) (E 10 (by decide)) (E 27 (by decide)) (E 28 (by decide)) (E 29 (by decide)) (E 35 (by decide)) w11, W12_c (E 10 (by decide)) (E 27 (by decide)) (E 28 (by decide)) (E 29 (by decide)) (E 35 (by decide)) w12, W13_c (E 21 (by decide)) (E 23 (by decide)) (E 35 (by decide)) w13, W18_c (E 31 (by decide)) (E 32 (by decide)) (E 35 (by decide)) w18, ?_, W22_c (E 18 (by decide)) (E 35 (by decide)) w22, ?_, W24_c (E 6 (by decide)) (E 7 (by decide)) w24⟩
    · intro a b ha hb hab
      rw [eN] at ha hb
      by_cases e1 : a = h_
      · have e2 : b ≠ h_ := fun e => hab (by rw [e1, e])
        obtain ⟨k, hk, e⟩ := a3 b hb
        rw [e1, lsH_11, lsH_n e2 11 (by decide), a2, e]
        exact fun z => by have := (nI_eq (by omega) (by omega)).mp z; omega
      · by_cases e2 : b = h_
        · obtain ⟨k, hk, e⟩ := a3 a ha
          rw [e2, lsH_11, lsH_n e1 11 (by decide), a2, e]
          exact fun z => by have := (nI_eq (by omega) (by omega)).mp z; omega
        · rw [lsH_n e1 11 (by decide), lsH_n e2 11 (by decide)]; exact w20 a b ha hb hab
    · intro a ha h2
      rw [eN] at ha
      have hne : a ≠ h_ := by omega
      have w := w23 a ha h2
      rw [lsH_n hne 12 (by decide), lsH_n hne 13 (by decide), lsH_n hne 14 (by decide), E 18 (by decide), E 19 (by decide), E 20 (by decide), E 21 (by decide), E 22 (by decide), E 23 (by decide), E 24 (by decide), E 25 (by decide), E 26 (by decide), E 27 (by decide), E 28 (by decide), E 29 (by decide), E 30 (by decide), E 31 (by decide), E 32 (by decide), E 16 (by decide), E 17 (by decide)]
      exact w
  · rw [eN] at ha
    by_cases e : a = h_
    · exact ⟨q, by omega, by rw [e, lsH_11, a2]⟩
    · obtain ⟨k, hk, e2⟩ := a3 a ha
      exact ⟨k, by omega, by rw [lsH_n e 11 (by decide), e2]⟩
theorem IL_ls {N m : Nat} (h : IL N m X) (hm : m < 900000) (ht : t < N) : IL N (m + 2) (lsV X t) := by
  rcases lsV_c (X := X) (t := t) with ⟨_, e⟩ | ⟨y, _, e, hy, _⟩
  · rw [e]; exact IL_mono (IL_A h ht) (by omega)
  · rw [e]
    rw [h.2.2.2.1] at hy
    exact IL_H (IL_A h ht) (by omega) hy
theorem ls_41 : (lsV X t).1 41 0 = X.1 41 0 + 1 := by
  rcases lsV_c (X := X) (t := t) with ⟨_, e⟩ | ⟨y, _, e, _, _⟩
  · rw [e, lsA_41]
  · rw [e, lsH_o 41 (by decide), lsA_41]
theorem hrS_e {Y : zV} (F : Int32) (h : ∀ f, f ≠ 60 → Y.1 f = X.1 f) (h2 : Y.2 = X.2) : ∀ k, hrS Y F k = hrS X F k := by
  intro k
  induction k with
  | zero => rfl
  | succ k ih =>
    have ec : cand Y F k = cand X F k := by unfold cand; rw [h 8 (by decide), h 20 (by decide), h 12 (by decide), h 10 (by decide)]
    have ea : ∀ x, ahU Y k x = ahU X k x := fun x => by unfold ahU debt; rw [h 31 (by decide), h 33 (by decide), h 11 (by decide), h2]
    rw [hrS, hrS, ih, ec]
    simp only [ea]
theorem lsV_60 : lsV (st60 X) t = st60 (lsV X t) := by
  have eA : lsA (st60 X) t = st60 (lsA X t) := by
    unfold lsA
    rw [st60_u (by decide), st60_u (by decide), st60_u (by decide)]
    rfl
  have eh : hrS (lsA (st60 X) t) ((st60 X).1 10 t) (tN (st60 X)) = hrS (lsA X t) (X.1 10 t) (tN X) := by
    rw [eA]
    exact hrS_e _ (fun f hf => st60_o hf) rfl _
  unfold lsV
  rw [eh]
  cases hrS (lsA X t) (X.1 10 t) (tN X) with
  | none => exact eA
  | some y =>
    show lsH (lsA (st60 X) t) t y = st60 (lsH (lsA X t) t y)
    rw [eA]
    unfold lsH
    rw [st60_u (by decide), st60_u (by decide), st60_u (by decide), st60_u (by decide), st60_u (by decide), st60_u (by decide), st60_u (by decide)]
    rfl
end LS
section LP
variable {K : Nat → Nat} {A : Nat → Nat → Nat} {c : zS} {X : zV} {ms z : Nat}
theorem k_lose {N m t : Nat} (h : RC K A c X ms) (hI : IL N m X) (hm : m < 900000) (hz : 300 ≤ z) (ht : t < N) : ∃ c', f_X6_losePitch K z c ms (A 4 t) = some c' ∧ RC K A c' (lsV X t) ms ∧ (∀ f, f ≠ 146 → zr c' f = zr c f) := by
  have hW := hI.1
  have hNX := hI.2.2.2.1
  have htX : t < tN X := by rw [hNX]; exact ht
  have hN := WB_2 hW
  obtain ⟨xa, ya, b1, b2, b3, b4⟩ := hI.2.2.1
  have h1 := RC_u (f := 20) (k := 5) (m := 12) (t := t) (v := 0) h (by decide) (by decide) (by decide)
  have h2 := RC_u (f := 91) (k := 4) (m := 32) (t := t) (v := 0) h1 (by decide) (by decide) (by decide)
  have e41 : (uV (uV X 12 t 0) 32 t 0).1 41 0 = X.1 41 0 := by rw [uV_o (by decide), uV_o (by decide)]
  have h3 := RC_41 h2 (a := xa) (by omega) (by rw [e41]; exact b3)
  rw [e41] at h3
  have h3 : RC K A (zul (zui (zui c 20 (A 5 t) 0 0) 91 (A 4 t) 0 0) 136 ms 0 (zl (zui (zui c 20 (A 5 t) 0 0) 91 (A 4 t) 0 0) 136 ms 0 + 1)) (lsA X t) ms := h3
  have hWA := lsA_W hW htX
  have eN : tN (lsA X t) = tN X := rfl
  have e82 : zi (zul (zui (zui c 20 (A 5 t) 0 0) 91 (A 4 t) 0 0) 136 ms 0 (zl (zui (zui c 20 (A 5 t) 0 0) 91 (A 4 t) 0 0) 136 ms 0 + 1)) 82 (A 4 t) 0 = X.1 10 t := by
    rw [rt_82_4 h3 (by rw [eN]; exact htX), lsA_o 10 (by decide)]
  have HE := k_heir (z := z) h3 hWA hz (X.1 10 t)
  rw [eN] at HE
  unfold f_X6_losePitch
  rw [kn_83 h htX, zlet, zlet, rt_21_5 h htX, rt_22_5 h htX, f_X1_remove, zlet, zb_s, zlet, zlet, e82, HE, zb_s]
  generalize hc3 : zul (zui (zui c 20 (A 5 t) 0 0) 91 (A 4 t) 0 0) 136 ms 0 (zl (zui (zui c 20 (A 5 t) 0 0) 91 (A 4 t) 0 0) 136 ms 0 + 1) = c3 at *
  have r3 : ∀ f, zr c3 f = zr c f := fun f => by rw [← hc3]; rfl
  rcases lsV_c (X := X) (t := t) with ⟨e0, e⟩ | ⟨y, e0, e, hy, hc⟩
  · rw [e0, e]
    show ∃ c', zo K none 4 (some c3) _ = some c' ∧ _
    rw [zo_n]
    exact ⟨c3, rfl, h3, fun f _ => by rw [r3]⟩
  · rw [e0, e]
    show ∃ c', zo K (some (A 4 y)) 4 (some c3) _ = some c' ∧ _
    have hyA : y < tN (lsA X t) := by rw [eN]; exact hy
    have h4 := RC_8 h3 (t := y) hc.1
    have hy4 : y < tN (uV (lsA X t) 8 y 0) := hyA
    have h5 := RC_u (f := 20) (k := 5) (m := 12) (t := y) (v := 1) h4 (by decide) (by decide) (by decide)
    have h6 := RC_u (f := 21) (k := 5) (m := 13) (t := y) (v := X.1 13 t) h5 (by decide) (by decide) (by decide)
    have h7 := RC_u (f := 22) (k := 5) (m := 14) (t := y) (v := X.1 14 t) h6 (by decide) (by decide) (by decide)
    have i19 : W19 (m + 1) (uV (uV (uV (uV (lsA X t) 8 y 0) 12 y 1) 13 y (X.1 13 t)) 14 y (X.1 14 t)) := by
      have i := (IL_A hI ht).2.1
      have E : ∀ g, (g ≠ 8 ∧ g ≠ 12 ∧ g ≠ 13 ∧ g ≠ 14) → (uV (uV (uV (uV (lsA X t) 8 y 0) 12 y 1) 13 y (X.1 13 t)) 14 y (X.1 14 t)).1 g = (lsA X t).1 g := fun g hg => by rw [uV_o hg.2.2.2, uV_o hg.2.2.1, uV_o hg.2.1, uV_o hg.1]
      exact W19_c (E 11 (by decide)) (E 35 (by decide)) (E 36 (by decide)) i
    have n7 : tN (uV (uV (uV (uV (lsA X t) 8 y 0) 12 y 1) 13 y (X.1 13 t)) 14 y (X.1 14 t)) = tN X := rfl
    have w35 : (uV (uV (uV (uV (lsA X t) 8 y 0) 12 y 1) 13 y (X.1 13 t)) 14 y (X.1 14 t)).1 35 0 = nI (tN (uV (uV (uV (uV (lsA X t) 8 y 0) 12 y 1) 13 y (X.1 13 t)) 14 y (X.1 14 t))) := by
      rw [n7, uV_o (by decide), uV_o (by decide), uV_o (by decide), uV_o (by decide), lsA_o 35 (by decide)]; exact WB_1 hW
    obtain ⟨c8, g1, g2, g3⟩ := k_rankLast (z := z) h7 (by rw [n7]; exact hN) hz w35 (m := m + 1) (by omega) i19 (t := y) (by rw [n7]; exact hy)
    have e42 : (uV (uV (uV (uV (uV (uV (lsA X t) 8 y 0) 12 y 1) 13 y (X.1 13 t)) 14 y (X.1 14 t)) 11 y ((uV (uV (uV (uV (lsA X t) 8 y 0) 12 y 1) 13 y (X.1 13 t)) 14 y (X.1 14 t)).1 36 0)) 36 0 ((uV (uV (uV (uV (lsA X t) 8 y 0) 12 y 1) 13 y (X.1 13 t)) 14 y (X.1 14 t)).1 36 0 + 1)).1 42 0 = nI ya := by
      rw [uV_o (by decide), uV_o (by decide), uV_o (by decide), uV_o (by decide), uV_o (by decide), uV_o (by decide), lsA_o 42 (by decide)]; exact b4
    have h9 := RC_42 g2 (a := ya) (by omega) e42
    have eV : uV (uV (uV (uV (uV (uV (uV (lsA X t) 8 y 0) 12 y 1) 13 y (X.1 13 t)) 14 y (X.1 14 t)) 11 y ((uV (uV (uV (uV (lsA X t) 8 y 0) 12 y 1) 13 y (X.1 13 t)) 14 y (X.1 14 t)).1 36 0)) 36 0 ((uV (uV (uV (uV (lsA X t) 8 y 0) 12 y 1) 13 y (X.1 13 t)) 14 y (X.1 14 t)).1 36 0 + 1)) 42 0 ((uV (uV (uV (uV (uV (uV (lsA X t) 8 y 0) 12 y 1) 13 y (X.1 13 t)) 14 y (X.1 14 t)) 11 y ((uV (uV (uV (uV (lsA X t) 8 y 0) 12 y 1) 13 y (X.1 13 t)) 14 y (X.1 14 t)).1 36 0)) 36 0 ((uV (uV (uV (uV (lsA X t) 8 y 0) 12 y 1) 13 y (X.1 13 t)) 14 y (X.1 14 t)).1 36 0 + 1)).1 42 0 + 1) = lsH (lsA X t) t y := by
      have q1 : (uV (uV (uV (uV (lsA X t) 8 y 0) 12 y 1) 13 y (X.1 13 t)) 14 y (X.1 14 t)).1 36 0 = (lsA X t).1 36 0 := by rw [uV_o (by decide), uV_o (by decide), uV_o (by decide), uV_o (by decide)]
      have q2 : (uV (uV (uV (uV (uV (uV (lsA X t) 8 y 0) 12 y 1) 13 y (X.1 13 t)) 14 y (X.1 14 t)) 11 y ((lsA X t).1 36 0)) 36 0 ((lsA X t).1 36 0 + 1)).1 42 0 = (lsA X t).1 42 0 := by rw [uV_o (by decide), uV_o (by decide), uV_o (by decide), uV_o (by decide), uV_o (by decide), uV_o (by decide)]
      have q3 : (lsA X t).1 13 t = X.1 13 t := by rw [lsA_o 13 (by decide)]
      have q4 : (lsA X t).1 14 t = X.1 14 t := by rw [lsA_o 14 (by decide)]
      unfold lsH
      rw [q1, q2, q3, q4]
      generalize (lsA X t).1 42 0 + 1 = s1
      generalize (lsA X t).1 36 0 = s2
      rw [uV_cm (k := 42) (k' := 8) (by decide), uV_cm (k := 42) (k' := 12) (by decide), uV_cm (k := 42) (k' := 13) (by decide), uV_cm (k := 42) (k' := 14) (by decide), uV_cm (k := 42) (k' := 11) (by decide), uV_cm (k := 42) (k' := 36) (by decide)]
    rw [eV] at h9
    rw [zo_s (K4 h3 hyA), zlet, zr_zui, kn_83 h3 hyA, f_X1_put, zlet, zlet, zlet, zb_s, g1, zb_s, zlet]
    refine ⟨_, rfl, h9, fun f hf => ?_⟩
    show zr c8 f = _
    rw [g3 f hf]
    exact r3 f
noncomputable def fol (W : zV) (rk : Nat → Nat) (P : Nat → Prop) : Nat → zV
  | 0 => W
  | i + 1 => cif (P (rk i)) (lsV (fol W rk P i) (rk i)) (fol W rk P i)
theorem IL_fol {N m : Nat} {W : zV} {rk : Nat → Nat} {P : Nat → Prop} (hI : IL N m W) (hrk : ∀ i, i < N → rk i < N) (hm : m < 500000) (hN : N ≤ 200) : ∀ j, j ≤ N → IL N (m + 2 * j) (fol W rk P j) := by
  intro j
  induction j with
  | zero => intro _; exact hI
  | succ j ih =>
    intro hj
    rw [fol]
    by_cases h : P (rk j)
    · rw [cif_p h]; exact IL_ls (ih (by omega)) (show m + 2 * j < 900000 by omega) (hrk j (by omega))
    · rw [cif_n h]; exact IL_mono (ih (by omega)) (by omega)
theorem fol_41 {W : zV} {rk : Nat → Nat} {P : Nat → Prop} : ∀ j, (fol W rk P j).1 41 0 = nI (cn (fun i => P (rk i)) j) + W.1 41 0 := by
  intro j
  induction j with
  | zero => show W.1 41 0 = nI 0 + W.1 41 0; rw [nI_0, Int32.zero_add]
  | succ j ih =>
    rw [fol, cn]
    by_cases h : P (rk j)
    · rw [cif_p h, cif_p h, ls_41, ih, ← nI_1, Int32.add_assoc, Int32.add_assoc, Int32.add_comm 1]
    · rw [cif_n h, cif_n h, ih, Nat.add_zero]
theorem k_close39 {N m : Nat} {W : zV} {rk : Nat → Nat} {P : Nat → Prop} (hI : IL N m W) (hrk : ∀ i, i < N → rk i < N) (hm : m < 500000) (hN : N ≤ 200) (hz : 300 ≤ z) : ∀ (d j nn : Nat) (c : zS), j + d = N → cn (fun i => P (rk i)) N - cn (fun i => P (rk i)) j < nn → RC K A c (fol W rk P j) ms → (∀ i, i < N → P (rk i) → zr c 147 (A 15 0) (cn (fun i => P (rk i)) i) = some (A 4 (rk i))) → ∃ c1, f_X6_close_39 K z ms nn c (nI (cn (fun i => P (rk i)) N)) (nI (cn (fun i => P (rk i)) j)) = f_X6_close_62 K z ms z c1 (nI (cn (fun i => P (rk i)) N)) 0 ∧ RC K A c1 (fol W rk P N) ms := by
  have hcN := cn_le (fun i => P (rk i)) N
  intro d
  induction d with
  | zero =>
    intro j nn c hj hn h hl
    have e : j = N := by omega
    subst e
    obtain ⟨y, rfl⟩ : ∃ y, nn = y + 1 := ⟨nn - 1, by omega⟩
    rw [f_X6_close_39, if_pos (nI_le (Nat.le_refl _) (by omega))]
    exact ⟨c, rfl, h⟩
  | succ d ih =>
    intro j nn c hj hn h hl
    by_cases hp : P (rk j)
    · have hmn := cn_mono (P := fun i => P (rk i)) (show j + 1 ≤ N by omega)
      have e1 : cn (fun i => P (rk i)) (j + 1) = cn (fun i => P (rk i)) j + 1 := by rw [cn, cif_p hp]
      rw [e1] at hmn
      obtain ⟨y, rfl⟩ : ∃ y, nn = y + 1 := ⟨nn - 1, by omega⟩
      have iF := IL_fol (P := P) hI hrk hm hN j (by omega)
      obtain ⟨c2, g1, g2, g3⟩ := k_lose (z := z) h iF (by omega) hz (hrk j (by omega))
      have ht : rk j < tN (fol W rk P j) := by rw [iF.2.2.2.1]; exact hrk j (by omega)
      rw [f_X6_close_39, iLE (by omega) (by omega), if_neg (by omega), kn_124 h, zx_2 (by omega), cl_ (by omega), hl j (by omega) hp, zn_s (K4 h ht), g1, zb_s, zlet, nI_1, ← e1]
      exact ih (j + 1) y c2 (by omega) (by omega) (by rw [fol, cif_p hp]; exact g2) (fun i hi hpi => by rw [g3 147 (by decide)]; exact hl i hi hpi)
    · have e1 : cn (fun i => P (rk i)) (j + 1) = cn (fun i => P (rk i)) j := by rw [cn, cif_n hp, Nat.add_zero]
      rw [← e1]
      exact ih (j + 1) nn c (by omega) (by omega) (by rw [fol, cif_n hp]; exact h) hl
/-! a day's marks go -/
def clV (X : zV) (m : Nat) : zV := (fun f x => if ((21 ≤ f ∧ f ≤ 26) ∨ f = 60) ∧ x < m then 0 else X.1 f x, X.2)
theorem clV_1 (X : zV) (m f x : Nat) : (clV X m).1 f x = if ((21 ≤ f ∧ f ≤ 26) ∨ f = 60) ∧ x < m then 0 else X.1 f x := rfl
theorem clV_0 (X : zV) : clV X 0 = X := zV_ext (fun f x => if_neg (fun h => by omega)) (fun _ _ => rfl)
theorem clV_o {X : zV} {m : Nat} (f : Nat) (hf : ¬ ((21 ≤ f ∧ f ≤ 26) ∨ f = 60)) : (clV X m).1 f = X.1 f := by funext x; exact if_neg (fun h => hf h.1)
theorem RC_tw (h : RC K A c X ms) {t : Nat} : RC K A (zui (zui c 42 (A 9 t) 0 0) 43 (A 9 t) 0 0) (uV (uV X 21 t 0) 22 t 0) ms := by
  have Ez : ∀ g, (g ≠ 42 ∧ g ≠ 43) → zi (zui (zui c 42 (A 9 t) 0 0) 43 (A 9 t) 0 0) g = zi c g := fun g hg => by rw [zi_o hg.2, zi_o hg.1]
  have El : ∀ g, g ≠ 1000 → zl (zui (zui c 42 (A 9 t) 0 0) 43 (A 9 t) 0 0) g = zl c g := fun _ _ => rfl
  have Er : ∀ g, g ≠ 1000 → zr (zui (zui c 42 (A 9 t) 0 0) 43 (A 9 t) 0 0) g = zr c g := fun _ _ => rfl
  have E : ∀ g, (g ≠ 21 ∧ g ≠ 22) → (uV (uV X 21 t 0) 22 t 0).1 g = X.1 g := fun g hg => by rw [uV_o hg.2, uV_o hg.1]
  have E2 : ∀ g, g ≠ 200 → (uV (uV X 21 t 0) 22 t 0).2 g = X.2 g := fun _ _ => rfl
  refine ⟨h.1, R1_c (E 7 (by decide)) (E 35 (by decide)) (C1 h), R2_c (Er 0 (by decide)) (Er 1 (by decide)) (Er 120 (by decide)) (Er 121 (by decide)) (Er 122 (by decide)) (Er 123 (by decide)) (Er 124 (by decide)) (Er 143 (by decide)) (C2 h), R3_c (Er 144 (by decide)) (Er 145 (by decide)) (E 7 (by decide)) (E 35 (by decide)) (C3 h), R4_c (Er 40 (by decide)) (Er 81 (by decide)) (Er 83 (by decide)) (Er 84 (by decide)) (Er 85 (by decide)) (Er 100 (by decide)) (Er 101 (by decide)) (E 9 (by decide)) (E 35 (by decide)) (C4 h), ?_, R6_c (Ez 141 (by decide)) (Ez 142 (by decide)) (E 16 (by decide)) (E 17 (by decide)) (E 35 (by decide)) (C6 h), R7_c (Ez 2 (by decide)) (Ez 140 (by decide)) (E 1 (by decide)) (E 2 (by decide)) (C7 h), R8_c (Ez 60 (by decide)) (Ez 61 (by decide)) (Ez 62 (by decide)) (Ez 63 (by decide)) (Ez 64 (by decide)) (E 3 (by decide)) (E 4 (by decide)) (E 5 (by decide)) (E 6 (by decide)) (E 7 (by decide)) (C8 h), ?_, R10_c (Ez 125 (by decide)) (Ez 126 (by decide)) (Ez 127 (by decide)) (Ez 128 (by decide)) (Ez 129 (by decide)) (Ez 130 (by decide)) (Ez 131 (by decide)) (El 134 (by decide)) (El 135 (by decide)) (El 136 (by decide)) (El 137 (by decide)) (E 7 (by decide)) (E 35 (by decide)) (E 36 (by decide)) (E 37 (by decide)) (E 38 (by decide)) (E 39 (by decide)) (E 40 (by decide)) (E 41 (by decide)) (E 42 (by decide)) (E2 43 (by decide)) (E2 44 (by decide)) (C10 h), R11_c (Ez 65 (by decide)) (E 7 (by decide)) (E 9 (by decide)) (E 27 (by decide)) (E 35 (by decide)) (C11 h), R12_c (Ez 132 (by decide)) (Ez 133 (by decide)) (E 8 (by decide)) (E 27 (by decide)) (E 35 (by decide)) (C12 h), R13_c (Er 148 (by decide)) (E 10 (by decide)) (E 27 (by decide)) (E 28 (by decide)) (E 29 (by decide)) (E 35 (by decide)) (C13 h), R14_c (Er 146 (by decide)) (E 11 (by decide)) (E 35 (by decide)) (C14 h), R15_c (Ez 47 (by decide)) (E 35 (by decide)) (E 60 (by decide)) (C15 h)⟩
  · have h6 : R5 A (zui c 42 (A 9 t) 0 0) (uV X 21 t 0) := R5_u1 h.1 (by decide) (by decide) (C5 h)
    have Ez : ∀ g, (g ≠ 43) → zi (zui (zui c 42 (A 9 t) 0 0) 43 (A 9 t) 0 0) g = zi (zui c 42 (A 9 t) 0 0) g := fun g hg => zi_o hg
    have E : ∀ g, (g ≠ 22) → (uV (uV X 21 t 0) 22 t 0).1 g = (uV X 21 t 0).1 g := fun g hg => uV_o hg
    exact R5_c (Ez 20 (by decide)) (Ez 21 (by decide)) (Ez 22 (by decide)) (Ez 41 (by decide)) (Ez 42 (by decide)) (Ez 44 (by decide)) (Ez 45 (by decide)) (Ez 46 (by decide)) (Ez 82 (by decide)) (Ez 86 (by decide)) (Ez 87 (by decide)) (Ez 88 (by decide)) (Ez 89 (by decide)) (Ez 90 (by decide)) (Ez 91 (by decide)) (Ez 92 (by decide)) (Ez 102 (by decide)) (Ez 103 (by decide)) (E 8 (by decide)) (E 10 (by decide)) (E 11 (by decide)) (E 12 (by decide)) (E 13 (by decide)) (E 14 (by decide)) (E 15 (by decide)) (E 18 (by decide)) (E 19 (by decide)) (E 20 (by decide)) (E 21 (by decide)) (E 23 (by decide)) (E 24 (by decide)) (E 25 (by decide)) (E 27 (by decide)) (E 28 (by decide)) (E 29 (by decide)) (E 30 (by decide)) (E 31 (by decide)) (E 32 (by decide)) (E 33 (by decide)) (E 35 (by decide)) h6
  · intro j hj
    obtain ⟨a, b, d⟩ := C9 h j hj
    refine ⟨by rw [Ez 80 (by decide)]; exact a, ?_, d⟩
    rw [zi_zui, uV_o (show 21 ≠ 22 by decide)]
    by_cases e : j = t
    · subst e
      rw [if_pos ⟨rfl, rfl, rfl⟩, uV_s, uV_s, if_pos rfl]
    · rw [if_neg (fun x => e (h.1 _ _ _ _ x.2.1).2), zi_o (by decide), uV_t e, uV_t e, uV_o (by decide)]; exact b
theorem RC_clr {t_ : Nat} (h : RC K A c (clV X t_) ms) : RC K A (zui (zui (zui (zui (zui (zui c 42 (A 9 t_) 0 0) 43 (A 9 t_) 0 0) 44 (A 9 t_) 0 0) 45 (A 9 t_) 0 0) 46 (A 9 t_) 0 0) 47 (A 9 t_) 0 0) (clV X (t_ + 1)) ms := by
  have h1 := RC_tw h (t := t_)
  have h2 := RC_u (f := 44) (k := 9) (m := 23) (t := t_) (v := 0) h1 (by decide) (by decide) (by decide)
  have h3 := RC_u (f := 45) (k := 9) (m := 24) (t := t_) (v := 0) h2 (by decide) (by decide) (by decide)
  have h4 := RC_u (f := 46) (k := 9) (m := 25) (t := t_) (v := 0) h3 (by decide) (by decide) (by decide)
  have h5 := RC_60 h4 (t := t_) (v := 0)
  refine RC_V h5 (fun f hf => ?_) rfl
  funext x
  rw [uV_1, uV_1, uV_1, uV_1, uV_1, uV_1, clV_1, clV_1]
  by_cases e : x = t_
  · subst e
    by_cases g : (21 ≤ f ∧ f ≤ 26) ∨ f = 60
    · rw [if_pos (show ((21 ≤ f ∧ f ≤ 26) ∨ f = 60) ∧ x < x + 1 from ⟨g, by omega⟩)]
      repeat' split
      all_goals first | rfl | (exfalso; omega)
    · rw [if_neg (show ¬ (((21 ≤ f ∧ f ≤ 26) ∨ f = 60) ∧ x < x + 1) from fun y => g y.1)]
      repeat' split
      all_goals first | rfl | (exfalso; omega)
  · by_cases g : ((21 ≤ f ∧ f ≤ 26) ∨ f = 60) ∧ x < t_
    · rw [if_pos (show ((21 ≤ f ∧ f ≤ 26) ∨ f = 60) ∧ x < t_ + 1 from ⟨g.1, by omega⟩), if_pos g]
      repeat' split
      all_goals rfl
    · rw [if_neg (show ¬ (((21 ≤ f ∧ f ≤ 26) ∨ f = 60) ∧ x < t_ + 1) from fun y => g ⟨y.1, by omega⟩), if_neg g]
      repeat' split
      all_goals first | rfl | (exfalso; omega)
theorem k_close62 {N : Nat} (hN : N ≤ 200) (h35 : X.1 35 0 = nI N) (hNX : tN X = N) (v : Int32) : ∀ (nn k : Nat) (c : zS), RC K A c (clV X k) ms → k ≤ N → N - k < nn → ∃ c1, f_X6_close_62 K z ms nn c v (nI k) = some (.inl (v, zui c1 128 ms 0 0)) ∧ RC K A c1 (clV X N) ms := by
  intro nn
  induction nn with
  | zero => intro k c _ hk h; omega
  | succ nn ih =>
    intro k c h hk hh
    have w35 : (clV X k).1 35 0 = nI N := by rw [clV_o 35 (by decide)]; exact h35
    have eN : tN (clV X k) = N := by unfold tN; rw [clV_o 35 (by decide)]; exact hNX
    rw [f_X6_close_62, (C10 h).2.1, w35, iLE (by omega) (by omega)]
    by_cases h1 : N ≤ k
    · have e : k = N := by omega
      subst e
      rw [if_pos h1, zlet]
      exact ⟨c, rfl, h⟩
    · have htX : k < tN (clV X k) := by rw [eN]; omega
      rw [if_neg h1, kn_122 h, zx_2 (by omega), cl_ (by omega), kn_145 h htX (by omega), kn_85 h htX, f_X2_clear, zlet, zlet, zlet, zlet, zlet, zlet, zb_s, zlet, nI_1]
      exact ih (k + 1) _ (RC_clr h) (by omega) (by omega)
end LP
section ME
variable {K : Nat → Nat} {ra : Nat → Nat} {r : zS} {mo z : Nat}
theorem m_close251 {N m : Nat} {W : zV} {rk : Nat → Nat} {P : Nat → Prop} (hI : IL N m W) (hrk : ∀ i, i < N → rk i < N) (hm : m < 500000) (hN : N ≤ 200) (hz : 300 ≤ z) (v : Int32) : ∀ (nn j : Nat) (r : zS), MS K ra mo r → vr ra mo r = st60 (fol W rk P j) → (∀ i, i < N → zi r 149 (ra 49) i = nI (rk i)) → (∀ i, i < N → zi r 150 (ra 50) i = oi (P i)) → j ≤ N → N - j < nn → ∃ (y : Nat) (r1 : zS), f_X7_close_251 K z mo nn r v (nI j) = f_X7_close_251 K z mo (y + 1) r1 v (nI N) ∧ MS K ra mo r1 ∧ vr ra mo r1 = st60 (fol W rk P N) ∧ zi r1 0 mo 0 = zi r 0 mo 0 := by
  intro nn
  induction nn with
  | zero => intro j r _ _ _ _ hk h; omega
  | succ nn ih =>
    intro j r hM hV h149 h150 hk hh
    by_cases h1 : N ≤ j
    · have e : j = N := by omega
      subst e
      exact ⟨nn, r, rfl, hM, hV, rfl⟩
    · have hj : j < N := by omega
      have iF := IL_fol (P := P) hI hrk hm hN j (by omega)
      have w35 : (st60 (fol W rk P j)).1 35 0 = nI N := by rw [st60_o (by decide), ← iF.2.2.2.1]; exact WB_1 iF.1
      have hr := hrk j hj
      rw [f_X7_close_251, rd_35 (ra := ra) (mo := mo), hV, w35, iLE (by omega) (by omega), if_neg h1, zq_50 hM, zq_49 hM, zx_2 (by omega), cl_ (by omega), h149 j hj, zx_2 (by omega), cl_ (by omega), h150 _ hr]
      by_cases hp : P (rk j)
      · rw [oi_p hp, if_neg (by decide), zx_2 (by omega)]
        obtain ⟨r2, g1, g2, g3, g4, g5, g6⟩ := m_loses (z := z) hM hV (WB_60 iF.1) hz (t := rk j) (by
          have : tN (st60 (fol W rk P j)) = tN (fol W rk P j) := rfl
          rw [this, iF.2.2.2.1]; exact hr)
        rw [lsV_60] at g3
        rw [g1, zb_s, zlet, nI_1]
        obtain ⟨y, r3, i1, i2, i3, i4⟩ := ih (j + 1) r2 g2 (by rw [g3, fol, cif_p hp]) (fun i hi => by rw [g5]; exact h149 i hi) (fun i hi => by rw [g6]; exact h150 i hi) (by omega) (by omega)
        exact ⟨y, r3, i1, i2, i3, by rw [i4, g4]⟩
      · rw [oi_n hp, if_pos rfl, zlet, nI_1]
        exact ih (j + 1) r hM (by rw [hV, fol, cif_n hp]) h149 h150 (by omega) (by omega)
theorem cl_rs {N m : Nat} {X : zV} (h : IL N m X) (hN : N ≤ 200) : clV X N = rsP (st60 X) 200 := by
  obtain ⟨h1, h2, h3, h4, h5, h6⟩ := h
  refine zV_ext (fun f x => ?_) (fun _ _ => rfl)
  show (if ((21 ≤ f ∧ f ≤ 26) ∨ f = 60) ∧ x < N then (0 : Int32) else X.1 f x) = if (21 ≤ f ∧ f ≤ 26) ∧ x < 200 then 0 else (if f = 60 then 0 else X.1 f x)
  by_cases e60 : f = 60
  · subst e60
    rw [if_neg (show ¬ ((21 ≤ 60 ∧ 60 ≤ 26) ∧ x < 200) from fun y => by omega), if_pos rfl]
    by_cases hx : x < N
    · rw [if_pos ⟨Or.inr rfl, hx⟩]
    · rw [if_neg (fun y => hx y.2)]; exact h6 x (by omega)
  · by_cases g : 21 ≤ f ∧ f ≤ 26
    · by_cases hx : x < N
      · rw [if_pos ⟨Or.inl g, hx⟩, if_pos ⟨g, by omega⟩]
      · rw [if_neg (fun y => hx y.2)]
        by_cases hx2 : x < 200
        · rw [if_pos ⟨g, hx2⟩]
          have w := WB_23 h1 (t := x) (by omega) hx2
          rcases (show f = 21 ∨ f = 22 ∨ f = 23 ∨ f = 24 ∨ f = 25 ∨ f = 26 by omega) with rfl | rfl | rfl | rfl | rfl | rfl
          · exact w.2.2.2.2.2.2.1
          · exact w.2.2.2.2.2.2.2.1
          · exact w.2.2.2.2.2.2.2.2.1
          · exact w.2.2.2.2.2.2.2.2.2.1
          · exact w.2.2.2.2.2.2.2.2.2.2.1
          · exact w.2.2.2.2.2.2.2.2.2.2.2.1
        · rw [if_neg (fun y => hx2 y.2), if_neg e60]
    · rw [if_neg (fun y => y.1.elim g e60), if_neg (fun y => g y.1), if_neg e60]
theorem WV_end {N m : Nat} {X : zV} (h : IL N m X) (hN : N ≤ 200) : WV m (uV (rsP (st60 X) 200) 37 0 0) := by
  obtain ⟨h1, h2, h3, h4, h5, h6⟩ := h
  have v1 : ∀ f x, (uV (rsP (st60 X) 200) 37 0 0).1 f x = if f = 37 ∧ x = 0 then 0 else if (21 ≤ f ∧ f ≤ 26) ∧ x < 200 then 0 else (if f = 60 then 0 else X.1 f x) := fun _ _ => rfl
  have Z : ∀ f x, 21 ≤ f → f ≤ 26 → x < 200 → (uV (rsP (st60 X) 200) 37 0 0).1 f x = 0 := fun f x a b d => by rw [v1, if_neg (fun y => by omega), if_pos ⟨⟨a, b⟩, d⟩]
  have E : ∀ f, (f ≠ 21 ∧ f ≠ 22 ∧ f ≠ 23 ∧ f ≠ 24 ∧ f ≠ 25 ∧ f ≠ 26 ∧ f ≠ 37 ∧ f ≠ 60) → (uV (rsP (st60 X) 200) 37 0 0).1 f = X.1 f := fun f hf => by
    funext x
    rw [v1, if_neg (fun y => by omega), if_neg (fun y => by omega), if_neg (by omega)]
  have E2 : ∀ f, f ≠ 200 → (uV (rsP (st60 X) 200) 37 0 0).2 f = X.2 f := fun _ _ => rfl
  have eN : tN (uV (rsP (st60 X) 200) 37 0 0) = tN X := by unfold tN; rw [E 35 (by decide)]
  have z27 : ∀ x, x < 200 → X.1 27 x = 0 := fun x hx => by
    by_cases g : x < N
    · exact h5 x g
    · exact (WB_23 h1 (t := x) (by omega) hx).2.2.2.2.2.2.2.2.2.2.2.2.1
  have w19 := h2
  have w21 := h3
  obtain ⟨w1, w2, w3, w4, w5, w6, w7, w8, w9, w10, w11, w12, w13, w18, w20, w22, w23, w24⟩ := h1
  refine ⟨⟨W1_c (E 35 (by decide)) w1, W2_c (E 35 (by decide)) w2, W3_c (E 7 (by decide)) w3, W4_c (E 7 (by decide)) w4, W5_c (E 7 (by decide)) (E 9 (by decide)) (E 35 (by decide)) w5, W6_c (E 10 (by decide)) (E 35 (by decide)) w6, W7_c (E 1 (by decide)) w7, W8_c (E 2 (by decide)) w8, W9_c (E 6 (by decide)) w9, W10_c (E 5 (by decide)) w10, W11_c (E 1 (by decide)) (E 10 (by decide)) (E 27 (by decide)) (E 28 (by decide)) (E 29 (by decide)) (E 35 (by decide)) w11, W12_c (E 10 (by decide)) (E 27 (by decide)) (E 28 (by decide)) (E 29 (by decide)) (E 35 (by decide)) w12, ?_, W18_c (E 31 (by decide)) (E 32 (by decide)) (E 35 (by decide)) w18, W20_c (E 11 (by decide)) (E 35 (by decide)) w20, W22_c (E 18 (by decide)) (E 35 (by decide)) w22, ?_, W24_c (E 6 (by decide)) (E 7 (by decide)) w24⟩, ?_, ?_, ?_, ?_, W19_c (E 11 (by decide)) (E 35 (by decide)) (E 36 (by decide)) w19, W21_c (E 41 (by decide)) (E 42 (by decide)) w21⟩
  · intro a ha
    rw [eN] at ha
    rw [Z 23 a (by decide) (by decide) (by omega), Z 21 a (by decide) (by decide) (by omega)]
    exact ⟨Or.inl rfl, Or.inl rfl⟩
  · intro a ha hx
    rw [eN] at ha
    have w := w23 a ha hx
    rw [Z 21 a (by decide) (by decide) hx, Z 22 a (by decide) (by decide) hx, Z 23 a (by decide) (by decide) hx, Z 24 a (by decide) (by decide) hx, Z 25 a (by decide) (by decide) hx, Z 26 a (by decide) (by decide) hx, E 12 (by decide), E 13 (by decide), E 14 (by decide), E 18 (by decide), E 19 (by decide), E 20 (by decide), E 27 (by decide), E 28 (by decide), E 29 (by decide), E 30 (by decide), E 31 (by decide), E 32 (by decide), E 16 (by decide), E 17 (by decide)]
    obtain ⟨y1, y2, y3, y4, y5, y6, y7, y8, y9, y10, y11, y12, y13⟩ := w
    exact ⟨y1, y2, y3, y4, y5, y6, rfl, rfl, rfl, rfl, rfl, rfl, y13⟩
  · unfold W14; rw [uV_s]; exact ⟨0, by decide, rfl⟩
  · intro _ a ha
    rw [Z 21 a (by decide) (by decide) ha, Z 22 a (by decide) (by decide) ha, Z 23 a (by decide) (by decide) ha, Z 24 a (by decide) (by decide) ha, Z 25 a (by decide) (by decide) ha, Z 26 a (by decide) (by decide) ha, E 27 (by decide)]
    exact ⟨rfl, rfl, rfl, rfl, rfl, rfl, z27 a ha⟩
  · intro e; rw [uV_s] at e; exact absurd e (by decide)
  · intro a ha
    rw [eN] at ha
    unfold st
    rw [Z 26 a (by decide) (by decide) (by omega), Z 25 a (by decide) (by decide) (by omega), E 27 (by decide), z27 a (by omega)]
    exact ⟨fun y => absurd rfl y, fun y => y.elim id id⟩
end ME

section SX
variable {ra : Nat → Nat} {ms mo ou z : Nat}
theorem s_23 (hz : 8100 ≤ z) : S_23 (IN ms mo ou ra) z ms mo ou := by
  intro n K L c r  hn hI
  obtain ⟨q1, q2, q3, A, h, hW, hM⟩ := hI
  generalize hV : vr ra mo r = V at h hW
  have hB := hW.1
  have hM1 : MS K ra mo (zui r 0 mo 0 0) := hM
  have hV1 : vr ra mo (zui r 0 mo 0 0) = V := by rw [vw_0, hV]
  have hT1 : zi (zui r 0 mo 0 0) 37 mo 0 = V.1 37 0 := by rw [← hV1]; rfl
  have t01 : zi (zui r 0 mo 0 0) 0 mo 0 = 0 := zi_thr
  have hW1 : WV (400 * (n + 1)) V := WV_mono (by omega) hW
  have THR : ∀ e : Int32, IN ms mo ou ra (n + 1) K L c (zui (zui r 0 mo 0 0) 0 mo 0 e) := fun e => IN_mk q1 q2 q3 h hW1 hM (by rw [vw_0, hV1])
  have hN := WB_2 hB
  have h60 : ∀ x, V.1 60 x = 0 := fun x => by rw [← hV]; rfl
  by_cases c3 : V.1 37 0 = 3
  · have h17 : W17 V := hW.2.2.2.2.1
    -- the reference's three walks
    obtain ⟨m1, r2, g1, g2, g3, g4⟩ := m_close30 (z := z) hB h60 z 0 (zui r 0 mo 0 0) hM1 (by rw [hV1, FV_0]) (Nat.zero_le _) (by omega)
    have e1 : FV V 0 (tN V) = st60 (FV V 0 (tN V)) := by
      refine zV_ext (fun f x => ?_) (fun _ _ => rfl)
      show _ = if f = 60 then 0 else (FV V 0 (tN V)).1 f x
      by_cases e : f = 60
      · rw [if_pos e, e, FV_n (Nat.zero_le _) 60 (by decide)]; exact h60 x
      · rw [if_neg e]
    obtain ⟨m2, r3, i1, i2, i3, i4, i5⟩ := m_close61 (z := z) hB h17 (by omega) (N := tN V) rfl z 0 r2 g2 (by rw [g3]; exact e1) (fun i hi => by omega) (Nat.zero_le _) (by omega)
    have hBF : WB (FV V (tN V) (tN V)) := WB_FV hB (Nat.le_refl _) (Nat.le_refl _)
    obtain ⟨r4, j1, j2, s1, j3, j4⟩ := m_ranks (z := z) i2 i3 (WB_60 hBF) (by omega)
    -- the class
    obtain ⟨m3, c2, k1, k2⟩ := k_close8 (z := z) hB (by omega) z 0 c (by rw [FV_0]; exact h) (Nat.zero_le _) (by omega)
    obtain ⟨rk, d1, d2⟩ := C14 k2
    have eNF : tN (FV V (tN V) (tN V)) = tN V := FV_N
    have eN6 : tN (st60 (FV V (tN V) (tN V))) = tN V := by
      have : tN (st60 (FV V (tN V) (tN V))) = tN (FV V (tN V) (tN V)) := rfl
      rw [this, FV_N]
    rw [eNF] at d1 d2
    rw [eN6] at j3 j4
    have d3 : Ls (rkI (st60 (FV V (tN V) (tN V)))) (fun x => x < tN V) (tN V) rk := d2
    have es : ∀ i, i < tN V → s1 i = rk i := fun i hi => Ls_u j4 d3 i hi hi
    have hrk : ∀ i, i < tN V → rk i < tN V := fun i hi => d2.1 i hi
    have hP : ∀ t, t < tN V → ((¬ (FV V (tN V) (tN V)).1 60 t = 0 ∧ ¬ bcv ((FV V (tN V) (tN V)).1 32 t) ≤ 2) ↔ los V t) := fun t ht => by
      rw [FV_1, FV_1, if_neg (show ¬ (60 = 27) by decide), if_neg (show ¬ (32 = 27) by decide), if_pos ht, if_pos ht, fv60]
      unfold los
      by_cases q1 : kst V t
      · rw [cif_p q1]
        by_cases q2 : aw V t
        · rw [oi_p q2]; exact ⟨fun y => ⟨q1, q2, y.2⟩, fun y => ⟨by decide, y.2.2⟩⟩
        · rw [oi_n q2]; exact ⟨fun y => absurd rfl y.1, fun y => absurd y.2.1 q2⟩
      · rw [cif_n q1, h60]; exact ⟨fun y => absurd rfl y.1, fun y => absurd y.1 q1⟩
    obtain ⟨c4, l1, l2, l3⟩ := k_losers4 (z := z) hBF eNF.symm hrk hP z 0 c2 k2 d1 (fun i hi => by omega) (Nat.zero_le _) (by omega)
    have hIL : IL (tN V) (400 * n) (FV V (tN V) (tN V)) := by
      refine ⟨hBF, W19_c (FV_o 11 (by decide)) (FV_o 35 (by decide)) (FV_o 36 (by decide)) hW.2.2.2.2.2.1, W21_c (FV_o 41 (by decide)) (FV_o 42 (by decide)) hW.2.2.2.2.2.2, eNF, fun x hx => by rw [FV_27, if_pos hx], fun x hx => by rw [FV_n hx 60 (by decide)]; exact h60 x⟩
    have hmm : 400 * n < 500000 := by omega
    obtain ⟨c5, o1, o2⟩ := k_close39 (K := K) (A := A) (ms := ms) (z := z) (P := los V) hIL hrk hmm hN (by omega) (tN V) 0 z c4 (by omega) (by have := cn_le (fun i => los V (rk i)) (tN V); omega) (RC_Fl k2 l2) l3
    have iF := IL_fol (P := los V) hIL hrk hmm hN (tN V) (Nat.le_refl _)
    have w35 : (fol (FV V (tN V) (tN V)) rk (los V) (tN V)).1 35 0 = nI (tN V) := (WB_1 iF.1).trans (congrArg nI iF.2.2.2.1)
    obtain ⟨c6, p1, p2⟩ := k_close62 (z := z) hN w35 iF.2.2.2.1 (nI (cn (fun i => los V (rk i)) (tN V))) z 0 c5 (by rw [clV_0]; exact o2) (Nat.zero_le _) (by omega)
    have hM4 := Fr_ms j2 i2
    obtain ⟨y, r5, u1, u2, u3, u4⟩ := m_close251 (z := z) (P := los V) hIL hrk hmm hN (by omega) (V.1 41 0) z 0 r4 hM4 (by rw [Fr_vr j2 (by decide), i3]; rfl) (fun i hi => by rw [j3 i hi, es i hi]) (fun i hi => by rw [Fr_zi j2 (by decide)]; exact i5 i hi) (Nat.zero_le _) (by omega)
    obtain ⟨r6, x1, x2, x3, x4⟩ := m_rests (z := z) u2 u3 (by omega)
    have hR := RC_t p2 (v := 0)
    rw [cl_rs iF hN] at hR
    have hWE := WV_mono (show 400 * n + 2 * tN V ≤ 400 * (n + 1) by omega) (WV_end iF hN)
    have q41 : zi r3 41 mo 0 = V.1 41 0 := by rw [rd_41 (ra := ra) (mo := mo), i3, st60_o (by decide), FV_o 41 (by decide)]
    have q41b : zi (zui r6 37 mo 0 0) 41 mo 0 = nI (cn (fun i => los V (rk i)) (tN V)) + V.1 41 0 := by
      rw [zi_o (by decide), rd_41 (ra := ra) (mo := mo), x3]
      show (if (21 ≤ 41 ∧ 41 ≤ 26) ∧ 0 < 200 then (0 : Int32) else if 41 = 60 then 0 else (fol (FV V (tN V) (tN V)) rk (los V) (tN V)).1 41 0) = _
      rw [if_neg (fun y => by omega), if_neg (by decide), fol_41, FV_o 41 (by decide)]
    have w35m : (st60 (fol (FV V (tN V) (tN V)) rk (los V) (tN V))).1 35 0 = nI (tN V) := by rw [st60_o (by decide)]; exact w35
    have t9 : zi (zui r6 37 mo 0 0) 0 mo 0 = 0 := by rw [zi_o (by decide), x4, u4, Fr_thr j2 (by decide), i4, g4, t01]
    have T7 : f_X7_close_30 K z mo z (zui r 0 mo 0 0) 0 = some (nI (cn (fun i => los V (rk i)) (tN V)), zui r6 37 mo 0 0) := by
      have g1' : f_X7_close_30 K z mo z (zui r 0 mo 0 0) 0 = _ := g1
      have i1' : f_X7_close_61 K z mo z r2 0 = _ := i1
      have u1' : f_X7_close_251 K z mo z r4 (V.1 41 0) 0 = _ := u1
      have s35 : ∀ X : zV, ∀ r9 : zS, vr ra mo r9 = X → X.1 35 0 = nI (tN V) → zi r9 35 mo 0 = nI (tN V) := fun X r9 a b => by rw [rd_35 (ra := ra) (mo := mo), a]; exact b
      rw [g1', f_X7_close_30, s35 _ r2 g3 (by rw [FV_o 35 (by decide)]; exact WB_1 hB), if_pos (nI_le (Nat.le_refl _) (by omega)), i1', f_X7_close_61, s35 _ r3 i3 (by rw [st60_o (by decide), FV_o 35 (by decide)]; exact WB_1 hB), if_pos (nI_le (Nat.le_refl _) (by omega)), zlet, q41, j1, zb_s, u1', f_X7_close_251, s35 _ r5 u3 w35m, if_pos (nI_le (Nat.le_refl _) (by omega)), x1, zb_s, zlet, q41b, Int32.add_sub_cancel]
    have T6 : f_X6_close_8 K z ms z c 0 = some (.inl (nI (cn (fun i => los V (rk i)) (tN V)), zui c6 128 ms 0 0)) := by
      have k1' : f_X6_close_8 K z ms z c 0 = _ := k1
      have l1' : f_X6_lineUpLosers_4 K z ms z c2 0 0 = _ := l1
      have o1' : f_X6_close_39 K z ms z c4 (nI (cn (fun i => los V (rk i)) (tN V))) 0 = _ := o1
      have p1' : f_X6_close_62 K z ms z c5 (nI (cn (fun i => los V (rk i)) (tN V))) 0 = _ := p1
      rw [k1', f_X6_close_8, (C10 k2).2.1, FV_o 35 (by decide), WB_1 hB, if_pos (nI_le (Nat.le_refl _) (by omega)), f_X6_lineUpLosers, l1', zb2_s, o1', p1']
    refine ⟨.inl (nI (cn (fun i => los V (rk i)) (tN V)), zui c6 128 ms 0 0), (by rw [f_X6_close, k_tm h, c3, if_neg (by decide), if_pos (by decide), zt_l]; exact T6), fun x hx => (by cases hx), fun rr u h9 => ?_⟩
    have hu : rr = 0 ∧ u = (K, L, (zul (zui c6 128 ms 0 0) 170 ou 0 (Int32.toInt64 (nI (cn (fun i => los V (rk i)) (tN V)))))) := by
      rcases h9 with ⟨x9, c9, e9, h9⟩ | ⟨e9, _⟩
      · cases e9; exact h9
      · cases e9
    obtain ⟨rfl, rfl⟩ := hu
    exact ⟨nI (cn (fun i => los V (rk i)) (tN V)), zui r6 37 mo 0 0, (by rw [f_X7_close, zlet, hT1, if_pos c3, f_X7_close_19, m_thr0, zb2_s, if_pos rfl]; exact T7), t9, (fun _ => by rw [zl_zul, if_pos ⟨rfl, rfl, rfl⟩]), IN_mk q1 q2 q3 (RC_zl hR) hWE x2 (by rw [vw_37, x3])⟩
  · have c6 : V.1 37 0 < 3 := by
      rcases tm4 hW with x | x | x | x
      · rw [x]; decide
      · rw [x]; decide
      · rw [x]; decide
      · exact absurd x c3
    refine ⟨.inr 3, (by rw [f_X6_close, k_tm h, if_pos c6, zt_r]), fun x hx => by have e9 := Sum.inr.inj hx; omega, fun rr u h9 => ?_⟩
    have hu : rr = 1 ∧ u = (K, L, c) := by
      rcases h9 with ⟨_, _, e9, _⟩ | ⟨e9, h9⟩
      · cases e9
      · exact h9
    obtain ⟨rfl, rfl⟩ := hu
    exact ⟨0, _, (by rw [f_X7_close, zlet, hT1, if_neg c3, f_X7_close_19, m_thr1, zb2_s, if_neg (by decide)]), zi_thr, fun x => absurd x (by decide), THR 1⟩

end SX

