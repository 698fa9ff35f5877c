def hitp (V : zV) (ρ π : Int32) (k : Nat) : Prop := st V k ∧ V.1 28 k = ρ ∧ ¬ π < V.1 29 k ∧ ¬ nI (sp V k + fN V k) ≤ π
noncomputable def slv (V : zV) (ρ π : Int32) : Nat → Int32
  | 0 => -1
  | k + 1 => cif (hitp V ρ π k) (nI k) (slv V ρ π k)
theorem lt_nI {π : Int32} (h : π < 0) {s : Nat} (hs : s < 2 ^ 31) : π < nI s := by
  have e := nI_toInt hs
  have e0 : (0 : Int32).toInt = 0 := by decide
  rw [Int32.lt_iff_toInt_lt] at h ⊢
  omega
theorem nI_le2 {π : Int32} {s b : Nat} (hb : nI b ≤ π) (hs : s ≤ b) (hb2 : b < 2 ^ 31) : nI s ≤ π := by
  have e := nI_toInt hb2
  have e2 := nI_toInt (show s < 2 ^ 31 by omega)
  rw [Int32.le_iff_toInt_le] at hb ⊢
  omega
section ST
variable {K : Nat → Nat} {A : Nat → Nat → Nat} {ra : Nat → Nat} {c r : zS} {V : zV} {ms mo z : Nat}
theorem m_stall10 (hM : MS K ra mo r) (hV : vr ra mo r = V) (hW : WB V) (ρ π : Int32) : ∀ (nn k : Nat), k ≤ tN V → tN V - k < nn → f_X7_stall_10 K z mo ρ π nn r (slv V ρ π k) (nI k) = some (slv V ρ π (tN V), r) := by
  have hN := WB_2 hW
  intro nn
  induction nn with
  | zero => intro k hk h; omega
  | succ nn ih =>
    intro k hk h
    rw [f_X7_stall_10, rd_35 (ra := ra) (mo := mo), hV, WB_1 hW, iLE (by omega) (by omega)]
    by_cases h1 : tN V ≤ k
    · rw [if_pos h1, show k = tN V by omega]
    · rw [if_neg h1]
      have hk2 : k < 200 := by omega
      have ih1 := ih (k + 1) (by omega) (by omega)
      rw [slv] at ih1
      simp only [zq_27 hM, zq_28 hM, zq_29 hM, zx_2 hk2, cl_ (show k < 8000 by omega), rd_27 (ra := ra) (mo := mo), rd_28 (ra := ra) (mo := mo), rd_29 (ra := ra) (mo := mo), hV, zlet, nI_1]
      by_cases h2 : V.1 27 k = 0
      · rw [if_pos h2]
        rw [cif_n (fun x => x.1 h2)] at ih1
        exact ih1
      · rw [if_neg h2]
        by_cases h3 : V.1 28 k = ρ
        · rw [if_pos h3]
          by_cases h4 : π < V.1 29 k
          · rw [if_pos h4]
            rw [cif_n (fun x => x.2.2.1 h4)] at ih1
            exact ih1
          · rw [if_neg h4, m_endOf hM hV hW (show k < tN V by omega) h2, zb_s]
            by_cases h5 : nI (sp V k + fN V k) ≤ π
            · rw [if_pos h5]
              rw [cif_n (fun x => x.2.2.2 h5)] at ih1
              exact ih1
            · rw [if_neg h5]
              rw [cif_p ⟨h2, h3, h4, h5⟩] at ih1
              exact ih1
        · rw [if_neg h3]
          rw [cif_n (fun x => h3 x.2.1)] at ih1
          exact ih1
theorem m_stall (hM : MS K ra mo r) (hV : vr ra mo r = V) (hW : WB V) (hz : 300 ≤ z) (ρ π : Int32) : f_X7_stall K z r mo ρ π = some (slv V ρ π (tN V), zui r 0 mo 0 0) := by
  have hN := WB_2 hW
  have hV1 : vr ra mo (zui r 0 mo 0 0) = V := by rw [vw_0, hV]
  have hM1 : MS K ra mo (zui r 0 mo 0 0) := hM
  exact m_stall10 hM1 hV1 hW ρ π z 0 (Nat.zero_le _) (by omega)
theorem slv_n {ρ π : Int32} : ∀ k, (∀ o, o < k → ¬ hitp V ρ π o) → slv V ρ π k = -1 := by
  intro k
  induction k with
  | zero => intro _; rfl
  | succ k ih => intro h; rw [slv, cif_n (h k (by omega))]; exact ih (fun o ho => h o (by omega))
theorem slv_s {ρ π : Int32} {o : Nat} (ho : hitp V ρ π o) : ∀ k, o < k → (∀ o', o' < k → hitp V ρ π o' → o' = o) → slv V ρ π k = nI o := by
  intro k
  induction k with
  | zero => intro h _; omega
  | succ k ih =>
    intro h hu
    rw [slv]
    by_cases h1 : hitp V ρ π k
    · rw [cif_p h1, hu k (by omega) h1]
    · rw [cif_n h1]
      have : o ≠ k := fun e => h1 (by rw [← e]; exact ho)
      exact ih (by omega) (fun o' h2 h3 => hu o' (by omega) h3)
theorem hit_cov (hW : WB V) {o i q : Nat} (ho : o < tN V) (hi : i < 40) (hq : q < 100000) : hitp V (nI i) (nI q) o ↔ cov V o i q := by
  have key : st V o → ((V.1 28 o = nI i ∧ ¬ nI q < V.1 29 o ∧ ¬ nI (sp V o + fN V o) ≤ nI q) ↔ (sr V o = i ∧ sp V o ≤ q ∧ q < sp V o + fN V o)) := by
    intro hs
    obtain ⟨s1, s2, s3, s4⟩ := WB_11 hW ho hs
    have hpl := (WB_7 hW s2).2
    have := (WB_6 hW ho).2.2
    rw [s1, s3, eq_ (by omega) (by omega), lt_ (by omega) (by omega), le_ (by omega) (by omega)]
    constructor
    · rintro ⟨a, b, d⟩; exact ⟨a, by omega, by omega⟩
    · rintro ⟨a, b, d⟩; exact ⟨a, by omega, by omega⟩
  unfold hitp cov
  constructor
  · rintro ⟨a, b⟩; exact ⟨a, (key a).mp b⟩
  · rintro ⟨a, b⟩; exact ⟨a, (key a).mpr b⟩
theorem k_holderO (h : RC K A c V ms) (hW : WB V) {i : Nat} (hi : i < 40) {p : Int32} (hp : ¬ p < 0 ∧ ¬ p < 200 ∧ 200 ≤ p) : f_X0_holderAt K z c (A 0 i) p = some none := by
  obtain ⟨e1, hpl⟩ := WB_7 hW hi
  unfold f_X0_holderAt f_X0_has
  rw [if_neg hp.1, (C7 h i hi).1, e1, if_pos (nI_le2 (b := 200) hp.2.2 hpl (by decide)), zb_s, if_pos rfl]
theorem k_stall (h : RC K A c V ms) (hW : WB V) (ρ π : Int32) : f_X6_stall K z c ms ρ π = some (slv V ρ π (tN V)) := by
  unfold f_X6_stall f_X6_stall_19
  rcases in_of (p := ρ) (N := 40) (n := 40) rfl (by decide) with ⟨i, hi, rfl⟩ | hp1
  · rw [k_row h hi, zb_s, zo_s ((C1 h).1 i hi).1]
    rcases in_of (p := π) (N := 200) (n := 200) rfl (by decide) with ⟨q, hq, rfl⟩ | hp2 | hp2
    · obtain ⟨x, hx, hx2⟩ := k_holder (z := z) h hW hi (q := q) (by omega)
      rw [hx, zb_s]
      rcases hx2 with ⟨o, ho, hc, rfl⟩ | ⟨hn, rfl⟩
      · rw [zo_s (K4 h ho), (C9 h o ho).1, slv_s ((hit_cov hW ho hi (by omega)).mpr hc) _ ho (fun o' h2 h3 => cov_u hW h2 ho ((hit_cov hW h2 hi (by omega)).mp h3) hc)]
      · rw [zo_n, slv_n _ (fun o ho h3 => hn o ho ((hit_cov hW ho hi (by omega)).mp h3))]
    · rw [k_holderN hp2, zb_s, zo_n, slv_n]
      intro o ho h3
      have s := WB_11 hW ho h3.1
      have hpl := (WB_7 hW s.2.1).2
      exact h3.2.2.1 (by rw [s.2.2.1]; exact lt_nI hp2 (by omega))
    · rw [k_holderO h hW hi hp2, zb_s, zo_n, slv_n]
      intro o ho h3
      have s := WB_11 hW ho h3.1
      have hpl := (WB_7 hW s.2.1).2
      exact h3.2.2.2 (nI_le2 (b := 200) hp2.2.2 (by omega) (by decide))
  · rw [k_rowO hp1, zb_s, zo_n, zo_n, slv_n]
    intro o ho h3
    exact no_row hp1 (WB_11 hW ho h3.1).2.1 (h3.2.1.symm.trans (WB_11 hW ho h3.1).1)
end ST

section SX
variable {ra : Nat → Nat} {ms mo ou z : Nat}
theorem s_27 (hz : 8100 ≤ z) : S_27 (IN ms mo ou ra) z ms mo ou := by
  intro n K L c r p1 p2 hn hI
  obtain ⟨q1, q2, q3, A, h, hW, hM⟩ := hI
  generalize hV : vr ra mo r = V at h hW
  have hB := hW.1
  have hM1 : MS K ra mo (zui r 0 mo 0 0) := hM
  have hV1 : vr ra mo (zui r 0 mo 0 0) = V := by rw [vw_0, hV]
  have hT1 : zi (zui r 0 mo 0 0) 37 mo 0 = V.1 37 0 := by rw [← hV1]; rfl
  have t01 : zi (zui r 0 mo 0 0) 0 mo 0 = 0 := zi_thr
  have hW1 : WV (400 * (n + 1)) V := WV_mono (by omega) hW
  have THR : ∀ e : Int32, IN ms mo ou ra (n + 1) K L c (zui (zui r 0 mo 0 0) 0 mo 0 e) := fun e => IN_mk q1 q2 q3 h hW1 hM (by rw [vw_0, hV1])
  exact ⟨slv V p1 p2 (tN V), k_stall h hB p1 p2, slv V p1 p2 (tN V), _, m_stall hM hV hB (by omega) p1 p2, rfl, IN_mk q1 q2 q3 h hW1 hM1 hV1⟩

end SX

section SX
variable {ra : Nat → Nat} {ms mo ou z : Nat}
theorem s_18 (hz : 8100 ≤ z) : S_18 (IN ms mo ou ra) z ms mo ou := by
  intro n K L c r p1 hn hI
  obtain ⟨q1, q2, q3, A, h, hW, hM⟩ := hI
  generalize hV : vr ra mo r = V at h hW
  have hB := hW.1
  have hM1 : MS K ra mo (zui r 0 mo 0 0) := hM
  have hV1 : vr ra mo (zui r 0 mo 0 0) = V := by rw [vw_0, hV]
  have hT1 : zi (zui r 0 mo 0 0) 37 mo 0 = V.1 37 0 := by rw [← hV1]; rfl
  have t01 : zi (zui r 0 mo 0 0) 0 mo 0 = 0 := zi_thr
  have hW1 : WV (400 * (n + 1)) V := WV_mono (by omega) hW
  have THR : ∀ e : Int32, IN ms mo ou ra (n + 1) K L c (zui (zui r 0 mo 0 0) 0 mo 0 e) := fun e => IN_mk q1 q2 q3 h hW1 hM (by rw [vw_0, hV1])
  by_cases c3 : V.1 37 0 = 3
  · obtain ⟨c9, m1, s1, g1, g2, g3, g4, g5⟩ := k_line (z := z) h hB (by omega)
    obtain ⟨r9, k1, k2, m2, s2, k3, k4, k5, k6⟩ := m_lines (z := z) hM1 hV1 hB (by omega) c3
    have em := Ls_m g5 k6
    subst em
    have es := Ls_u g5 k6
    have h9 := RC_Fl h g2
    have hM9 := Fr_ms k2 hM1
    have IN9 : IN ms mo ou ra (n + 1) K L c9 r9 := IN_mk q1 q2 q3 h9 hW1 hM9 (by rw [Fr_vr k2 (by decide), hV1])
    rcases in_of (p := p1) (N := nI m1) (n := m1) rfl (by omega) with ⟨j, hj, rfl⟩ | hp | hp
    · have hsj := g5.1 j hj
      refine ⟨nI (s1 j), c9, ?_, nI (s1 j), r9, ?_, rfl, IN9⟩
      · rw [f_X6_waiting, (C10 h).2.2.2.1, if_pos c3, g1, zb2_s, if_neg (nI_pos (by omega)), if_neg (nI_ge hj (by omega)), kn_124 h9, zx_2 (by omega), cl_ (by omega), g4 j hj, zn_s (K4 h9 hsj.1), (C9 h9 _ hsj.1).1]
      · rw [f_X7_waiting, zlet, k1, zb_s, if_neg (nI_pos (by omega)), k4, if_pos (nI_lt hj (by omega)), zq_47 hM9, zx_2 (by omega), cl_ (by omega), k5 j hj, es j hj hj]
    · refine ⟨-1, c9, ?_, -1, r9, ?_, rfl, IN9⟩
      · rw [f_X6_waiting, (C10 h).2.2.2.1, if_pos c3, g1, zb2_s, if_pos hp]
      · rw [f_X7_waiting, zlet, k1, zb_s, if_pos hp]
    · refine ⟨-1, c9, ?_, -1, r9, ?_, rfl, IN9⟩
      · rw [f_X6_waiting, (C10 h).2.2.2.1, if_pos c3, g1, zb2_s, if_neg hp.1, if_pos hp.2.2]
      · rw [f_X7_waiting, zlet, k1, zb_s, if_neg hp.1, k4, if_neg hp.2.1]
  · obtain ⟨r9, k1, k2, k4⟩ := m_linesN (z := z) hM1 hV1 hB (by omega) c3
    have IN9 : IN ms mo ou ra (n + 1) K L c r9 := IN_mk q1 q2 q3 h hW1 (Fr_ms k2 hM1) (by rw [Fr_vr k2 (by decide), hV1])
    refine ⟨-1, c, ?_, -1, r9, ?_, rfl, IN9⟩
    · rw [f_X6_waiting, (C10 h).2.2.2.1, if_neg c3]
    · rw [f_X7_waiting, zlet, k1, zb_s, k4]
      by_cases hp : p1 < 0
      · rw [if_pos hp]
      · rw [if_neg hp, if_neg hp]

end SX

section FU
variable {K : Nat → Nat} {A : Nat → Nat → Nat} {ra : Nat → Nat} {c r : zS} {V : zV} {ms mo z : Nat}
theorem sqr_s (V : zV) (t i : Nat) : ∀ m p, p + m ≤ 200 → sqr V t i m p = -1 ∨ ∃ q, q < 200 ∧ sqr V t i m p = nI (200 * i + q) ∧ ag V t (nI i) (nI q) = 0 := by
  intro m
  induction m with
  | zero => intro p _; exact Or.inl rfl
  | succ m ih =>
    intro p hp
    rw [sqr]
    by_cases h : ag V t (nI i) (nI p) = 0
    · rw [cif_p h]; exact Or.inr ⟨p, by omega, rfl, h⟩
    · rw [cif_n h]; exact ih (p + 1) (by omega)
theorem sqs_s {V : zV} (hW : WB V) {t : Nat} (ht : t < tN V) : ∀ m i, i + m ≤ 40 → sqs V t m i = -1 ∨ ∃ j q, j < 40 ∧ q < 200 ∧ sqs V t m i = nI (200 * j + q) ∧ ag V t (nI j) (nI q) = 0 := by
  intro m
  induction m with
  | zero => intro i _; exact Or.inl rfl
  | succ m ih =>
    intro i hi
    rw [sqs]
    obtain ⟨e1, hpl⟩ := WB_7 hW (show i < 40 by omega)
    obtain ⟨e10, f1, f2⟩ := WB_6 hW ht
    rcases sqr_s V t i (pl V i + 1 - fN V t) 0 (by omega) with h | ⟨q, hq, h, h2⟩
    · rw [gIn, h, cif_n m1_lt]; exact ih (i + 1) (by omega)
    · rw [gIn, h, cif_p (nI_pos' (by omega))]; exact Or.inr ⟨i, q, by omega, hq, rfl, h2⟩
theorem ag_s {V : zV} (hW : WB V) {t : Nat} (ht : t < tN V) {ρ π : Int32} (h : ag V t ρ π = 0) : ∃ i p, i < 40 ∧ p < 200 ∧ ρ = nI i ∧ π = nI p ∧ p + fN V t ≤ pl V i ∧ ¬ (∃ o, oth V t o ∧ meet V t o i p) := by
  obtain ⟨i, p, hi, e1, e2, hp, h0⟩ := ag_0 h
  have hpl := (WB_7 hW hi).2
  have hf := (WB_6 hW ht).2.1
  exact ⟨i, p, hi, by omega, e1, e2, hp, (agN_0 h0).2.1⟩
theorem ag_s2 {V : zV} (hW : WB V) {t i p : Nat} (ht : t < tN V) (hi : i < 40) (hp : p < 300) (h : ag V t (nI i) (nI p) = 0) : p + fN V t ≤ pl V i ∧ ¬ (∃ o, oth V t o ∧ meet V t o i p) := by
  obtain ⟨i', p', hi', hp', e1, e2, h1, h2⟩ := ag_s hW ht h
  have h3 : i = i' := (nI_eq (by omega) (by omega)).mp e1
  have h4 : p = p' := (nI_eq (by omega) (by omega)).mp e2
  subst h3; subst h4
  exact ⟨h1, h2⟩
theorem gsl_s {V : zV} (hW : WB V) {t : Nat} (ht : t < tN V) {T : Int32} (hT : T = -1 ∨ ∃ j q, j < 40 ∧ q < 200 ∧ T = nI (200 * j + q) ∧ ag V t (nI j) (nI q) = 0) : ∀ m k, gsl V t T m k = -1 ∨ ∃ j q, j < 40 ∧ q < 200 ∧ gsl V t T m k = nI (200 * j + q) ∧ ag V t (nI j) (nI q) = 0 := by
  intro m
  induction m with
  | zero => intro k; exact hT
  | succ m ih =>
    intro k
    rw [gsl]
    by_cases h : ag V t (V.1 16 (12 * t + k)) (V.1 17 (12 * t + k)) = 0
    · rw [cif_p h]
      obtain ⟨i, p, hi, hp, e1, e2, -⟩ := ag_s hW ht h
      rw [e1, e2] at h
      exact Or.inr ⟨i, p, hi, hp, by rw [e1, e2, n200, pk_mul, nI_add], h⟩
    · rw [cif_n h]; exact ih (k + 1)
theorem gs_s {V : zV} (hW : WB V) {t : Nat} (ht : t < tN V) : gs V t = -1 ∨ ∃ j q, j < 40 ∧ q < 200 ∧ gs V t = nI (200 * j + q) ∧ ag V t (nI j) (nI q) = 0 := by
  unfold gs
  refine gsl_s hW ht ?_ _ _
  by_cases h : V.1 19 t = 0 ∨ full V t ∨ outm V t ∨ secd V t
  · rw [cif_p h]; exact Or.inl rfl
  · rw [cif_n h]; exact sqs_s hW ht 40 0 (by omega)
theorem gs_m1 {q : Nat} (hq : q < 100000) : ¬ nI q = -1 := fun e => m1_lt (by rw [← e]; exact nI_pos' (by omega))
theorem k_full8 (h : RC K A c V ms) (hW : WB V) (hz : 300 ≤ z) : ∀ (nn k : Nat), k ≤ tN V → tN V - k < nn → f_X6_full_8 K z c ms nn (nI k) = some (.inl (oi (∀ t, k ≤ t → wt V t → gs V t = -1))) := by
  have hN := WB_2 hW
  intro nn
  induction nn with
  | zero => intro k hk h; omega
  | succ nn ih =>
    intro k hk hh
    rw [f_X6_full_8, (C10 h).2.1, WB_1 hW, iLE (by omega) (by omega)]
    by_cases h1 : tN V ≤ k
    · rw [if_pos h1, oi_p (fun t ht hw => absurd hw.1 (by omega))]
    · have hkl : k < tN V := by omega
      rw [if_neg h1, kn_122 h, zx_2 (by omega), cl_ (by omega), kn_145 h hkl (by omega), k_waiting h hkl, zb_s]
      have NEXT : (wt V k → gs V k = -1) → f_X6_full_8 K z c ms nn (nI k + 1) = some (.inl (oi (∀ t, k ≤ t → wt V t → gs V t = -1))) := by
        intro hk1
        rw [nI_1, ih (k + 1) (by omega) (by omega)]
        congr 2
        refine oi_c ⟨fun x t ht hw => ?_, fun x t ht hw => x t (by omega) hw⟩
        rcases Nat.lt_or_ge k t with h2 | h2
        · exact x t h2 hw
        · have e : t = k := by omega
          subst e; exact hk1 hw
      by_cases h2 : wt V k
      · rw [oi_p h2, if_neg (by decide), k_good h hW hz hkl, zb_s]
        by_cases h3 : gs V k = -1
        · rw [if_pos h3, zlet]; exact NEXT (fun _ => h3)
        · rw [if_neg h3, oi_n (fun x => h3 (x k (Nat.le_refl _) h2))]
      · rw [oi_n h2, if_pos rfl, zlet]; exact NEXT (fun x => absurd x h2)
theorem m_full36 (hW : WB V) (hz : 8100 ≤ z) {m : Nat} {s : Nat → Nat} (hm : m ≤ 200) (hs : ∀ i, i < m → wt V (s i)) : ∀ (nn k : Nat) (r : zS), MS K ra mo r → vr ra mo r = V → zi r 48 mo 0 = nI m → (∀ i, i < m → zi r 147 (ra 47) i = nI (s i)) → k ≤ m → m - k < nn → ∃ r1, f_X7_full_36 K z mo nn r 1 (nI k) = some (oi (∀ i, k ≤ i → i < m → gs V (s i) = -1), r1) ∧ Fr [145, 146] r r1 := by
  intro nn
  induction nn with
  | zero => intro k r _ _ _ _ hk h; omega
  | succ nn ih =>
    intro k r hM hV h48 h147 hk h
    rw [f_X7_full_36, h48, iLE (by omega) (by omega)]
    by_cases h1 : m ≤ k
    · rw [if_pos h1, zz_1, oi_p (fun i a b => by omega)]
      exact ⟨r, rfl, Fr_rf⟩
    · have hk1 : k < m := by omega
      obtain ⟨r1, g1, g2⟩ := m_goodSpot (z := z) hM hV hW hz (hs k hk1).1
      rw [if_neg h1, if_neg (by decide), zq_47 hM, zx_2 (by omega), cl_ (by omega), h147 k hk1, g1, zb2_s]
      rcases gs_s hW (hs k hk1).1 with h2 | ⟨j, q, hj, hq, h2, -⟩
      · rw [h2, if_neg m1_lt, zlet, nI_1]
        obtain ⟨r2, k1, k2⟩ := ih (k + 1) r1 (Fr_ms g2 hM) (by rw [Fr_vr g2 (by decide), hV]) (by rw [Fr_zi g2 (by decide), h48]) (fun i hi => by rw [Fr_zi g2 (by decide)]; exact h147 i hi) (by omega) (by omega)
        refine ⟨r2, ?_, Fr_tr g2 k2⟩
        rw [k1]
        congr 2
        refine oi_c ⟨fun x i a b => ?_, fun x i a b => x i (by omega) b⟩
        rcases Nat.lt_or_ge k i with h3 | h3
        · exact x i h3 b
        · have e : i = k := by omega
          subst e; exact h2
      · rw [h2, if_pos (nI_pos' (by omega)), zlet]
        obtain ⟨mm, rfl⟩ : ∃ mm, nn = mm + 1 := ⟨nn - 1, by omega⟩
        refine ⟨r1, ?_, g2⟩
        rw [oi_n (fun x => gs_m1 (q := 200 * j + q) (by omega) (by rw [← h2]; exact x k (Nat.le_refl _) hk1)), f_X7_full_36, zz_0, if_pos rfl]
        split <;> rfl
end FU

section SX
variable {ra : Nat → Nat} {ms mo ou z : Nat}
theorem s_17 (hz : 8100 ≤ z) : S_17 (IN ms mo ou ra) z ms mo ou := by
  intro n K L c r  hn hI
  obtain ⟨q1, q2, q3, A, h, hW, hM⟩ := hI
  generalize hV : vr ra mo r = V at h hW
  have hB := hW.1
  have hM1 : MS K ra mo (zui r 0 mo 0 0) := hM
  have hV1 : vr ra mo (zui r 0 mo 0 0) = V := by rw [vw_0, hV]
  have hT1 : zi (zui r 0 mo 0 0) 37 mo 0 = V.1 37 0 := by rw [← hV1]; rfl
  have t01 : zi (zui r 0 mo 0 0) 0 mo 0 = 0 := zi_thr
  have hW1 : WV (400 * (n + 1)) V := WV_mono (by omega) hW
  have THR : ∀ e : Int32, IN ms mo ou ra (n + 1) K L c (zui (zui r 0 mo 0 0) 0 mo 0 e) := fun e => IN_mk q1 q2 q3 h hW1 hM (by rw [vw_0, hV1])
  by_cases c3 : V.1 37 0 = 3
  · have F1 := k_full8 (z := z) h hB (by omega) z 0 (Nat.zero_le _) (by have := WB_2 hB; omega)
    obtain ⟨r9, k1, k2, m2, s2, k3, k4, k5, k6⟩ := m_lines (z := z) hM1 hV1 hB (by omega) c3
    have hM9 := Fr_ms k2 hM1
    have hV9 : vr ra mo r9 = V := by rw [Fr_vr k2 (by decide), hV1]
    obtain ⟨r8, g1, g2⟩ := m_full36 (K := K) (z := z) hB hz k3 (fun i hi => k6.1 i hi) z 0 r9 hM9 hV9 k4 k5 (Nat.zero_le _) (by omega)
    have eo : oi (∀ i, 0 ≤ i → i < m2 → gs V (s2 i) = -1) = oi (∀ t, 0 ≤ t → wt V t → gs V t = -1) := oi_c ⟨fun x t _ hw => by
      obtain ⟨i, hi, e⟩ := k6.2.2 t hw
      rw [← e]; exact x i (Nat.zero_le _) hi, fun x i _ hi => x _ (Nat.zero_le _) (k6.1 i hi)⟩
    rw [eo] at g1
    have t9 : zi r8 0 mo 0 = 0 := by rw [Fr_thr g2 (by decide), Fr_thr k2 (by decide), t01]
    refine ⟨.inl (oi (∀ t, 0 ≤ t → wt V t → gs V t = -1)), (by rw [f_X6_full, k_tm h, c3, if_neg (by decide), if_pos (by decide), zt_l]; exact F1), fun x hx => (by cases hx), fun rr u h9 => ?_⟩
    have hu : rr = 0 ∧ u = (K, L, (zul c 170 ou 0 (if oi (∀ t, 0 ≤ t → wt V t → gs V t = -1) = 0 then 0 else 1))) := by
      rcases h9 with ⟨x9, e9, h9⟩ | ⟨e9, _⟩
      · cases e9; exact h9
      · cases e9
    obtain ⟨rfl, rfl⟩ := hu
    exact ⟨oi (∀ t, 0 ≤ t → wt V t → gs V t = -1), r8, (by rw [f_X7_full, zlet, hT1, if_pos c3, f_X7_full_19, m_thr0, zb2_s, if_pos rfl, k1, zb_s]; exact g1), t9, (fun _ => by rw [zl_zul, if_pos ⟨rfl, rfl, rfl⟩]), IN_mk q1 q2 q3 (RC_zl h) hW1 (Fr_ms g2 hM9) (by rw [Fr_vr g2 (by decide), hV9])⟩
  · have c6 : V.1 37 0 < 3 := by
      rcases tm4 hW with x | x | x | x
      · rw [x]; decide
      · rw [x]; decide
      · rw [x]; decide
      · exact absurd x c3
    refine ⟨.inr 3, (by rw [f_X6_full, k_tm h, if_pos c6, zt_r]), fun x hx => by have e9 := Sum.inr.inj hx; omega, fun rr u h9 => ?_⟩
    have hu : rr = 1 ∧ u = (K, L, c) := by
      rcases h9 with ⟨_, e9, _⟩ | ⟨e9, h9⟩
      · cases e9
      · exact h9
    obtain ⟨rfl, rfl⟩ := hu
    exact ⟨0, _, (by rw [f_X7_full, zlet, hT1, if_neg c3, f_X7_full_19, m_thr1, zb2_s, if_neg (by decide)]), zi_thr, fun x => absurd x (by decide), THR 1⟩

end SX

theorem cmV_e {V : zV} {t : Nat} {ρ π : Int32} (k : Nat) (hk : k ≠ 26 ∧ k ≠ 30) : (cmV V t ρ π).1 k = (suV V t ρ π).1 k := by
  funext x
  unfold cmV suV
  rw [uV_1, uV_1, uV_1, uV_1, uV_1, uV_1, uV_1, uV_1]
  by_cases h29 : k = 29
  · subst h29; simp
  · by_cases h28 : k = 28
    · subst h28; simp
    · by_cases h27 : k = 27
      · subst h27; simp
      · simp [h29, h28, h27, hk.1, hk.2]
theorem cmV_o {V : zV} {t : Nat} {ρ π : Int32} (k : Nat) (hk : k ≠ 26 ∧ k ≠ 27 ∧ k ≠ 28 ∧ k ≠ 29 ∧ k ≠ 30) : (cmV V t ρ π).1 k = V.1 k := by
  unfold cmV; rw [uV_o hk.2.2.2.2, uV_o hk.2.2.2.1, uV_o hk.2.2.1, uV_o hk.1, uV_o hk.2.1]
theorem cmV_n {V : zV} {t a : Nat} {ρ π : Int32} (h : a ≠ t) (g : Nat) : (cmV V t ρ π).1 g a = V.1 g a := by
  unfold cmV; rw [uV_n h, uV_n h, uV_n h, uV_n h, uV_n h]
theorem WV_cm {n : Nat} {V : zV} (hW : WV n V) (h2 : V.1 37 0 = 2 ∨ V.1 37 0 = 3) {t i p : Nat} (ht : t < tN V) (hi : i < 40) (hp : p + fN V t ≤ pl V i) (hm : ¬ ∃ o, oth V t o ∧ meet V t o i p) : WV n (cmV V t (nI i) (nI p)) := by
  have hS : WB (suV V t (nI i) (nI p)) := suV_W hW.1 ht hi hp hm
  have E : ∀ k, (k ≠ 26 ∧ k ≠ 27 ∧ k ≠ 28 ∧ k ≠ 29 ∧ k ≠ 30) → (cmV V t (nI i) (nI p)).1 k = V.1 k := fun k hk => cmV_o k hk
  have E2 : ∀ k, k ≠ 200 → (cmV V t (nI i) (nI p)).2 k = V.2 k := fun k _ => rfl
  obtain ⟨⟨w1, w2, w3, w4, w5, w6, w7, w8, w9, w10, w11, w12, w13, w18, w20, w22, w23, w24⟩, w14, w15, w16, w17, w19, w21⟩ := hW
  have hN : tN V ≤ 200 := w2
  obtain ⟨v1, v2, v3, v4, v5, v6, v7, v8, v9, v10, v11, v12, v13, v18, v20, v22, v23, v24⟩ := hS
  refine ⟨⟨W1_c (E 35 (by decide)) w1, W2_c (E 35 (by decide)) w2, W3_c (E 7 (by decide)) w3, W4_c (E 7 (by decide)) w4, W5_c (E 7 (by decide)) (E 9 (by decide)) (E 35 (by decide)) w5, W6_c (E 10 (by decide)) (E 35 (by decide)) w6, W7_c (E 1 (by decide)) w7, W8_c (E 2 (by decide)) w8, W9_c (E 6 (by decide)) w9, W10_c (E 5 (by decide)) w10, ?_, ?_, W13_c (E 21 (by decide)) (E 23 (by decide)) (E 35 (by decide)) w13, W18_c (E 31 (by decide)) (E 32 (by decide)) (E 35 (by decide)) w18, W20_c (E 11 (by decide)) (E 35 (by decide)) w20, W22_c (E 18 (by decide)) (E 35 (by decide)) w22, ?_, W24_c (E 6 (by decide)) (E 7 (by decide)) w24⟩, W14_c (E 37 (by decide)) w14, ?_, ?_, ?_, W19_c (E 11 (by decide)) (E 35 (by decide)) (E 36 (by decide)) w19, W21_c (E 41 (by decide)) (E 42 (by decide)) w21⟩
  · exact W11_c (cmV_e 1 (by decide)) (cmV_e 10 (by decide)) (cmV_e 27 (by decide)) (cmV_e 28 (by decide)) (cmV_e 29 (by decide)) (cmV_e 35 (by decide)) v11
  · exact W12_c (cmV_e 10 (by decide)) (cmV_e 27 (by decide)) (cmV_e 28 (by decide)) (cmV_e 29 (by decide)) (cmV_e 35 (by decide)) v12
  · intro a ha h3
    have ha2 : tN V ≤ a := ha
    have hne : a ≠ t := by omega
    have h := w23 a ha2 h3
    simp only [cmV_n hne, E 16 (by decide), E 17 (by decide)]
    exact h
  · intro e
    rw [E 37 (by decide)] at e
    rw [e] at h2
    rcases h2 with h2 | h2
    · exact absurd h2 (by decide)
    · exact absurd h2 (by decide)
  · intro e
    rw [E 37 (by decide)] at e
    rw [e] at h2
    rcases h2 with h2 | h2
    · exact absurd h2 (by decide)
    · exact absurd h2 (by decide)
  · intro a ha
    have ha2 : a < tN V := ha
    unfold st
    by_cases e : a = t
    · subst e
      have e26 : (cmV V a (nI i) (nI p)).1 26 a = 1 := by unfold cmV; rw [uV_o (by decide), uV_o (by decide), uV_o (by decide), uV_s]
      have e27 : (cmV V a (nI i) (nI p)).1 27 a = 1 := by unfold cmV; rw [uV_o (by decide), uV_o (by decide), uV_o (by decide), uV_o (by decide), uV_s]
      rw [e26, e27]
      exact ⟨fun _ => Or.inl (by decide), fun _ => by decide⟩
    · rw [cmV_n e, cmV_n e, cmV_n e]; exact w17 a ha2
section NX
variable {K : Nat → Nat} {A : Nat → Nat → Nat} {ra : Nat → Nat} {ms mo z n : Nat}
theorem dv200 {i p : Nat} (hi : i < 40) (hp : p < 200) : nI (200 * i + p) / 200 = nI i := by
  rw [n200, pk_div (by omega) (by omega) (by omega)]; congr 1; omega
theorem md200 {i p : Nat} (hi : i < 40) (hp : p < 200) : nI (200 * i + p) - nI (200 * i + p) / 200 * 200 = nI p := by
  rw [n200, pk_rem (by omega) (by omega) (by omega)]; congr 1; omega
theorem j_next13 (hz : 8100 ≤ z) {m : Nat} {s : Nat → Nat} (hm : m ≤ 200) : ∀ (nn k : Nat) (c r : zS) (V : zV), RC K A c V ms → WV n V → V.1 37 0 = 3 → MS K ra mo r → vr ra mo r = V → zi r 48 mo 0 = nI m → (∀ i, i < m → zi r 147 (ra 47) i = nI (s i)) → (∀ i, i < m → zr c 147 (A 15 0) i = some (A 4 (s i))) → (∀ i, i < m → wt V (s i)) → k ≤ m → m - k < nn → ∃ (x : Int32) (c1 r1 : zS) (V1 : zV), f_X6_next_13 K z ms nn c (nI m) (nI k) = some (.inl (x, c1)) ∧ f_X7_next_34 K z mo nn r (nI k) = some (x, r1) ∧ RC K A c1 V1 ms ∧ WV n V1 ∧ MS K ra mo r1 ∧ vr ra mo r1 = V1 ∧ zi r1 0 mo 0 = zi r 0 mo 0 := by
  intro nn
  induction nn with
  | zero => intro k c r V _ _ _ _ _ _ _ _ _ hk h; omega
  | succ nn ih =>
    intro k c r V h hW h3 hM hV h48 h147 hl hs hk hh
    rw [f_X6_next_13, f_X7_next_34, h48, iLE (by omega) (by omega), iLE (by omega) (by omega)]
    by_cases h1 : m ≤ k
    · rw [if_pos h1, if_pos h1]
      exact ⟨-1, c, r, V, rfl, rfl, h, hW, hM, hV, rfl⟩
    · have hk1 : k < m := by omega
      have ht := (hs k hk1).1
      have hN := WB_2 hW.1
      have ht2 : s k < 200 := by omega
      obtain ⟨r1, g1, g2⟩ := m_goodSpot (z := z) hM hV hW.1 hz ht
      have hM1 := Fr_ms g2 hM
      have hV1 : vr ra mo r1 = V := by rw [Fr_vr g2 (by decide), hV]
      rw [if_neg h1, if_neg h1, kn_124 h, zx_2 (by omega), cl_ (by omega), hl k hk1, zn_s (K4 h ht), k_good h hW.1 (by omega) ht, zb_s, zq_47 hM, zx_2 (by omega), h147 k hk1, zlet, g1, zb2_s]
      rcases gs_s hW.1 ht with h2 | ⟨i, p, hi, hp, h2, hag⟩
      · rw [h2, if_pos rfl, if_pos (by decide), kn_85 h ht, zlet, zlet, zq_24 hM1, zx_2 ht2, zlet, cl_ (by omega), zlet, nI_1]
        obtain ⟨x, c2, r2, V2, a1, a2, a3, a4, a5, a6, a7⟩ := ih (k + 1) (zui c 45 (A 9 (s k)) 0 1) (zui r1 124 (ra 24) (s k) 1) (uV V 24 (s k) 1) (RC_u h (by decide) (by decide) (by decide)) (WV_day hW (by rw [h3]; decide) (Or.inr (Or.inr rfl)) (Or.inr rfl) ht) (by rw [uV_o (by decide)]; exact h3) hM1 (by rw [vw_24, hV1]) (by rw [zi_o (by decide), Fr_zi g2 (by decide), h48]) (fun i hi => by rw [zi_o (by decide), Fr_zi g2 (by decide)]; exact h147 i hi) hl hs (by omega) (by omega)
        exact ⟨x, c2, r2, V2, a1, a2, a3, a4, a5, a6, by rw [a7, zi_o (by decide), Fr_thr g2 (by decide)]⟩
      · obtain ⟨hp2, hm2⟩ := ag_s2 hW.1 ht hi (by omega) hag
        obtain ⟨c2, b1, b2, b3⟩ := k_opens (z := z) h hW.1 (by omega) ht (hs k hk1).2.2.1 hi hp2 hm2
        obtain ⟨r2, d1, d2, d3⟩ := m_comes (z := z) hM1 hV1 ht2 (nI i) (nI p)
        rw [h2, if_neg (gs_m1 (by omega)), if_neg (nI_pos (by omega)), md200 hi hp, dv200 hi hp, b1, zb_s, d1, zb_s, (C9 b2 (s k) ht).1]
        exact ⟨nI (s k), c2, r2, _, rfl, rfl, b2, WV_cm hW (Or.inr h3) ht hi hp2 hm2, Fr_ms d2 hM1, d3, by rw [Fr_thr d2 (by decide), Fr_thr g2 (by decide)]⟩
end NX

section SX
variable {ra : Nat → Nat} {ms mo ou z : Nat}
theorem s_16 (hz : 8100 ≤ z) : S_16 (IN ms mo ou ra) z ms mo ou := by
  intro n K L c r  hn hI
  obtain ⟨q1, q2, q3, A, h, hW, hM⟩ := hI
  generalize hV : vr ra mo r = V at h hW
  have hB := hW.1
  have hM1 : MS K ra mo (zui r 0 mo 0 0) := hM
  have hV1 : vr ra mo (zui r 0 mo 0 0) = V := by rw [vw_0, hV]
  have hT1 : zi (zui r 0 mo 0 0) 37 mo 0 = V.1 37 0 := by rw [← hV1]; rfl
  have t01 : zi (zui r 0 mo 0 0) 0 mo 0 = 0 := zi_thr
  have hW1 : WV (400 * (n + 1)) V := WV_mono (by omega) hW
  have THR : ∀ e : Int32, IN ms mo ou ra (n + 1) K L c (zui (zui r 0 mo 0 0) 0 mo 0 e) := fun e => IN_mk q1 q2 q3 h hW1 hM (by rw [vw_0, hV1])
  by_cases c3 : V.1 37 0 = 3
  · obtain ⟨c9, m1, s1, g1, g2, g3, g4, g5⟩ := k_line (z := z) h hB (by omega)
    obtain ⟨r9, k1, k2, m2, s2, k3, k4, k5, k6⟩ := m_lines (z := z) hM1 hV1 hB (by omega) c3
    have em := Ls_m g5 k6
    subst em
    have es := Ls_u g5 k6
    have h9 := RC_Fl h g2
    have hM9 := Fr_ms k2 hM1
    have hV9 : vr ra mo r9 = V := by rw [Fr_vr k2 (by decide), hV1]
    obtain ⟨x, c2, r2, V2, a1, a2, a3, a4, a5, a6, a7⟩ := j_next13 (z := z) hz g3 z 0 c9 r9 V h9 hW1 c3 hM9 hV9 k4 (fun i hi => by rw [es i hi hi]; exact k5 i hi) g4 (fun i hi => g5.1 i hi) (Nat.zero_le _) (by omega)
    have t9 : zi r2 0 mo 0 = 0 := by rw [a7, Fr_thr k2 (by decide), t01]
    refine ⟨.inl (x, c2), (by rw [f_X6_next, k_tm h, c3, if_neg (by decide), if_pos (by decide), zt_l, g1, zb2_s]; exact a1), fun x hx => (by cases hx), fun rr u h9 => ?_⟩
    have hu : rr = 0 ∧ u = (K, L, (zul c2 170 ou 0 (Int32.toInt64 x))) := by
      rcases h9 with ⟨x9, c9, e9, h9⟩ | ⟨e9, _⟩
      · cases e9; exact h9
      · cases e9
    obtain ⟨rfl, rfl⟩ := hu
    exact ⟨x, r2, (by rw [f_X7_next, zlet, hT1, if_pos c3, f_X7_next_19, m_thr0, zb2_s, if_pos rfl, k1, zb_s]; exact a2), t9, (fun _ => by rw [zl_zul, if_pos ⟨rfl, rfl, rfl⟩]), IN_mk q1 q2 q3 (RC_zl a3) a4 a5 a6⟩
  · have c6 : V.1 37 0 < 3 := by
      rcases tm4 hW with x | x | x | x
      · rw [x]; decide
      · rw [x]; decide
      · rw [x]; decide
      · exact absurd x c3
    refine ⟨.inr 3, (by rw [f_X6_next, k_tm h, if_pos c6, zt_r]), fun x hx => by have e9 := Sum.inr.inj hx; omega, fun rr u h9 => ?_⟩
    have hu : rr = 1 ∧ u = (K, L, c) := by
      rcases h9 with ⟨_, _, e9, _⟩ | ⟨e9, h9⟩
      · cases e9
      · exact h9
    obtain ⟨rfl, rfl⟩ := hu
    exact ⟨0, _, (by rw [f_X7_next, zlet, hT1, if_neg c3, f_X7_next_19, m_thr1, zb2_s, if_neg (by decide)]), zi_thr, fun x => absurd x (by decide), THR 1⟩

end SX

