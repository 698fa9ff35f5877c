/-! what is written aside alone (the lists and tables that each call makes anew) -/
def sl : List Nat := [0, 48, 145, 146, 147, 149, 150]
def Fr (S : List Nat) (r r' : zS) : Prop := r'.2 = r.2 ∧ ∀ f, f ∉ S → r'.1 f = r.1 f
theorem Fr_rf {S : List Nat} {r : zS} : Fr S r r := ⟨rfl, fun _ _ => rfl⟩
theorem Fr_tr {S : List Nat} {r r1 r2 : zS} (h : Fr S r r1) (h2 : Fr S r1 r2) : Fr S r r2 := ⟨h2.1.trans h.1, fun f hf => (h2.2 f hf).trans (h.2 f hf)⟩
theorem Fr_up {S : List Nat} {r : zS} {f a j : Nat} {v : Int32} (hf : f ∈ S) : Fr S r (zui r f a j v) := by
  refine ⟨rfl, fun g hg => ?_⟩
  funext b k
  exact if_neg (fun x => hg (by rw [x.1]; exact hf))
theorem Fr_mono {S T : List Nat} {r r1 : zS} (h : Fr S r r1) (hs : ∀ f, f ∈ S → f ∈ T) : Fr T r r1 := ⟨h.1, fun f hf => h.2 f (fun x => hf (hs f x))⟩
theorem Fr_zi {S : List Nat} {r r1 : zS} (h : Fr S r r1) {f : Nat} (hf : f ∉ S) (a j : Nat) : zi r1 f a j = zi r f a j := congrFun (congrFun (h.2 f hf) a) j
theorem Fr_zl {S : List Nat} {r r1 : zS} (h : Fr S r r1) (f a j : Nat) : zl r1 f a j = zl r f a j := by unfold zl; rw [h.1]
theorem Fr_zr {S : List Nat} {r r1 : zS} (h : Fr S r r1) (f a j : Nat) : zr r1 f a j = zr r f a j := by unfold zr; rw [h.1]
theorem Fr_ms {S : List Nat} {r r1 : zS} {K : Nat → Nat} {ra : Nat → Nat} {mo : Nat} (h : Fr S r r1) (hM : MS K ra mo r) : MS K ra mo r1 := fun k hk => by rw [Fr_zr h]; exact hM k hk
theorem sl_no : ∀ k, k < 100 → scr k = false → (k + 100) ∉ sl := by decide +kernel
theorem sl_no2 : ∀ k, k < 100 → scr k = false → k ∉ sl := by decide +kernel
theorem Fr_vr {S : List Nat} {r r1 : zS} {ra : Nat → Nat} {mo : Nat} (h : Fr S r r1) (hs : ∀ f, f ∈ S → f ∈ sl) : vr ra mo r1 = vr ra mo r := by
  refine zV_ext (fun k t => ?_) (fun k t => ?_)
  · show (if scr k = true then (0 : Int32) else if arr k = true then zi r1 (k + 100) (ra k) t else if k < 100 then zi r1 k mo t else 0) = (if scr k = true then (0 : Int32) else if arr k = true then zi r (k + 100) (ra k) t else if k < 100 then zi r k mo t else 0)
    by_cases h1 : scr k = true
    · rw [if_pos h1, if_pos h1]
    · have h1' : scr k = false := by cases h : scr k <;> simp_all
      rw [if_neg h1, if_neg h1]
      by_cases h2 : arr k = true
      · rw [if_pos h2, if_pos h2, Fr_zi h (fun x => sl_no k (arr_lt h2) h1' (hs _ x))]
      · rw [if_neg h2, if_neg h2]
        by_cases h3 : k < 100
        · rw [if_pos h3, if_pos h3, Fr_zi h (fun x => sl_no2 k h3 h1' (hs _ x))]
        · rw [if_neg h3, if_neg h3]
  · show (if k = 34 then zl r1 134 (ra 34) t else if k < 100 then zl r1 k mo t else 0) = (if k = 34 then zl r 134 (ra 34) t else if k < 100 then zl r k mo t else 0)
    rw [Fr_zl h, Fr_zl h]
theorem in5 {S : List Nat} (hS : S = [145, 146]) : ∀ f, f ∈ S → f ∈ sl := by subst hS; decide
theorem in45 : ∀ f, f ∈ [145] → f ∈ [145, 146] := by decide
theorem in46 : ∀ f, f ∈ [146] → f ∈ [145, 146] := by decide
theorem in45s : ∀ f, f ∈ [145] → f ∈ sl := by decide
theorem in46s : ∀ f, f ∈ [146] → f ∈ sl := by decide
theorem in456s : ∀ f, f ∈ [145, 146] → f ∈ sl := by decide
/-! good spots, by the reference -/
def tk (V : zV) (t i q : Nat) : Prop := mk V i q 3 ∨ ∃ o, oth V t o ∧ sr V o = i ∧ sp V o ≤ q ∧ q < sp V o + fN V o
noncomputable def sqr (V : zV) (t i : Nat) : Nat → Nat → Int32
  | 0, _ => -1
  | m + 1, p => cif (ag V t (nI i) (nI p) = 0) (nI (200 * i + p)) (sqr V t i m (p + 1))
noncomputable def gIn (V : zV) (t i : Nat) : Int32 := sqr V t i (pl V i + 1 - fN V t) 0
noncomputable def sqs (V : zV) (t : Nat) : Nat → Nat → Int32
  | 0, _ => -1
  | m + 1, i => cif (0 ≤ gIn V t i) (gIn V t i) (sqs V t m (i + 1))
noncomputable def gSq (V : zV) (t : Nat) : Int32 := sqs V t 40 0
noncomputable def gsl (V : zV) (t : Nat) (T : Int32) : Nat → Nat → Int32
  | 0, _ => T
  | m + 1, k => cif (ag V t (V.1 16 (12 * t + k)) (V.1 17 (12 * t + k)) = 0) (200 * V.1 16 (12 * t + k) + V.1 17 (12 * t + k)) (gsl V t T m (k + 1))
noncomputable def gs (V : zV) (t : Nat) : Int32 := gsl V t (cif (V.1 19 t = 0 ∨ full V t ∨ outm V t ∨ secd V t) (-1) (gSq V t)) (wN V t) 0
theorem sqr_b (V : zV) (t i : Nat) (hi : i < 40) : ∀ m p, p + m ≤ 200 → sqr V t i m p = -1 ∨ ∃ q, q < 8000 ∧ sqr V t i m p = nI q := by
  intro m
  induction m with
  | zero => intro p _; exact Or.inl rfl
  | succ m ih =>
    intro p hp
    rw [sqr]
    by_cases h : ag V t (nI i) (nI p) = 0
    · rw [cif_p h]; exact Or.inr ⟨200 * i + p, by omega, rfl⟩
    · rw [cif_n h]; exact ih (p + 1) (by omega)
theorem m1_lt : ¬ (0 : Int32) ≤ -1 := by decide
theorem sqs_b {V : zV} (hW : WB V) {t : Nat} (ht : t < tN V) : ∀ m i, i + m ≤ 40 → sqs V t m i = -1 ∨ ∃ q, q < 8000 ∧ sqs V t m i = nI q := by
  intro m
  induction m with
  | zero => intro i _; exact Or.inl rfl
  | succ m ih =>
    intro i hi
    rw [sqs]
    obtain ⟨e1, hpl⟩ := WB_7 hW (show i < 40 by omega)
    obtain ⟨e10, f1, f2⟩ := WB_6 hW ht
    rcases sqr_b V t i (by omega) (pl V i + 1 - fN V t) 0 (by omega) with h | ⟨q, hq, h⟩
    · rw [gIn, h, cif_n m1_lt]; exact ih (i + 1) (by omega)
    · rw [gIn, h, cif_p (nI_pos' (by omega))]; exact Or.inr ⟨q, hq, rfl⟩
theorem ag_0 {V : zV} {t : Nat} {ρ π : Int32} (h : ag V t ρ π = 0) : ∃ i p, i < 40 ∧ ρ = nI i ∧ π = nI p ∧ p + fN V t ≤ pl V i ∧ agN V t i p = 0 := by
  by_cases hw : wthn V t ρ π
  · obtain ⟨i, p, hi, rfl, rfl, hp⟩ := id hw
    rw [ag, cif_p hw] at h
    have hp2 : p < 2 ^ 31 := by
      rcases Nat.lt_or_ge p (2 ^ 31) with h1 | h1
      · exact h1
      · exfalso
        have : pl V i < 2 ^ 31 := Int32.toNatClampNeg_lt _
        omega
    rw [nI_clamp (by omega), nI_clamp hp2] at h
    exact ⟨i, p, hi, rfl, rfl, hp, h⟩
  · rw [ag, cif_n hw] at h; exact absurd h (by decide)
theorem agN_0 {V : zV} {t i p : Nat} (h : agN V t i p = 0) : ¬ mkd V t i p 3 ∧ ¬ (∃ o, oth V t o ∧ meet V t o i p) ∧ ¬ full V t ∧ ¬ outm V t ∧ ¬ secd V t := by
  unfold agN at h
  by_cases h1 : mkd V t i p 3
  · rw [cif_p h1] at h; exact absurd h (by decide)
  · rw [cif_n h1] at h
    by_cases h2 : ∃ o, oth V t o ∧ meet V t o i p
    · rw [cif_p h2] at h; exact absurd h (by decide)
    · rw [cif_n h2] at h
      by_cases h3 : full V t
      · rw [cif_p h3] at h; exact absurd h (by decide)
      · rw [cif_n h3] at h
        by_cases h4 : ∃ o, oth V t o ∧ pd V t o ∧ besd V t o i p
        · rw [cif_p h4] at h; exact absurd h (by decide)
        · rw [cif_n h4] at h
          by_cases h5 : ∃ o, oth V t o ∧ pd V t o ∧ oppo V t o i p
          · rw [cif_p h5] at h; exact absurd h (by decide)
          · rw [cif_n h5] at h
            by_cases h6 : V.1 8 t = 3 ∧ ¬ mkd V t i p 4
            · rw [cif_p h6] at h; exact absurd h (by decide)
            · rw [cif_n h6] at h
              by_cases h7 : ∃ o, oth V t o ∧ fire V t o ∧ near V t o i p
              · rw [cif_p h7] at h; exact absurd h (by decide)
              · rw [cif_n h7] at h
                by_cases h8 : outm V t
                · rw [cif_p h8] at h; exact absurd h (by decide)
                · rw [cif_n h8] at h
                  by_cases h9 : secd V t
                  · rw [cif_p h9] at h; exact absurd h (by decide)
                  · exact ⟨h1, h2, h3, h8, h9⟩
theorem free_of_ag {V : zV} (hW : WB V) {t i p : Nat} (h : ag V t (nI i) (nI p) = 0) (hi : i < 40) (hp : p < 300) : p + fN V t ≤ pl V i ∧ ∀ q, p ≤ q → q < p + fN V t → ¬ tk V t i q := by
  obtain ⟨i', p', hi', ei, ep, hp', h0⟩ := ag_0 h
  have e1 : i' = i := ((nI_eq (by omega) (by omega)).mp ei).symm
  subst e1
  have hpl := (WB_7 hW hi').2
  have e2 : p' = p := ((nI_eq (by omega) (by omega)).mp ep).symm
  subst e2
  refine ⟨hp', fun q h1 h2 h3 => ?_⟩
  obtain ⟨a1, a2, -⟩ := agN_0 h0
  rcases h3 with h3 | ⟨o, h4, h5, h6, h7⟩
  · exact a1 ⟨q - p', by omega, by rw [show p' + (q - p') = q by omega]; exact h3⟩
  · exact a2 ⟨o, h4, h5, by omega, by omega⟩
section M3
variable {K : Nat → Nat} {ra : Nat → Nat} {mo z n : Nat} {r : zS} {V : zV}
theorem m_takes49 (hW : WB V) {t o : Nat} (ht : t < tN V) (ho : o < tN V) (rec39 : zS → Int32 → Option zS) : ∀ (nn p : Nat) (r : zS), MS K ra mo r → vr ra mo r = V → p ≤ fN V o → fN V o - p < nn → ∃ r1, f_X7_takes_49 K z mo (nI t) rec39 nn r (nI o) (nI p) = rec39 r1 (nI (o + 1)) ∧ Fr [145] r r1 ∧ ∀ q, q < 8000 → zi r1 145 (ra 45) q = cif (oth V t o ∧ 200 * sr V o + sp V o + p ≤ q ∧ q < 200 * sr V o + sp V o + fN V o) 1 (zi r 145 (ra 45) q) := by
  have htl : t < 200 := Nat.lt_of_lt_of_le ht (WB_2 hW)
  have hol : o < 200 := Nat.lt_of_lt_of_le ho (WB_2 hW)
  obtain ⟨e10, f1, f2⟩ := WB_6 hW ho
  intro nn
  induction nn with
  | zero => intro p r _ _ hk h; omega
  | succ nn ih =>
    intro p r hM hV hk h
    rw [f_X7_takes_49]
    simp only [zq_27 hM, zq_10 hM, zq_45 hM, zq_28 hM, zq_29 hM, zx_2 hol, cl_ (show o < 8000 by omega), rd_27 (ra := ra) (mo := mo), rd_10 (ra := ra) (mo := mo), rd_28 (ra := ra) (mo := mo), rd_29 (ra := ra) (mo := mo), hV, zlet, nI_1]
    by_cases h2 : V.1 27 o = 0
    · rw [if_pos h2]
      exact ⟨r, rfl, Fr_rf, fun q hq => by rw [cif_n (fun x => x.1.2.1 h2)]⟩
    · rw [if_neg h2, iEQ (by omega) (by omega)]
      obtain ⟨s1, s2, s3, s4⟩ := WB_11 hW ho h2
      have hpl := (WB_7 hW s2).2
      by_cases h3 : o = t
      · rw [if_pos h3]
        exact ⟨r, rfl, Fr_rf, fun q hq => by rw [cif_n (fun x => x.1.2.2 h3)]⟩
      · rw [if_neg h3, e10, iLE (by omega) (by omega)]
        by_cases h4 : fN V o ≤ p
        · rw [if_pos h4]
          exact ⟨r, rfl, Fr_rf, fun q hq => by rw [cif_n (fun x => by omega)]⟩
        · rw [if_neg h4, s1, s3]
          have e2 : 200 * nI (sr V o) + nI (sp V o) + nI p = nI (200 * sr V o + sp V o + p) := by rw [n200, pk_mul, nI_add, nI_add]
          rw [e2, zx_8000 (by omega), cl_ (by omega)]
          obtain ⟨r1, g1, g2, g3⟩ := ih (p + 1) (zui r 145 (ra 45) (200 * sr V o + sp V o + p) 1) hM (by rw [vw_45, hV]) (by omega) (by omega)
          refine ⟨r1, g1, Fr_tr (Fr_up (by decide)) g2, fun q hq => ?_⟩
          rw [g3 q hq, zi_zui]
          have hh : oth V t o := ⟨ho, h2, h3⟩
          by_cases h5 : q = 200 * sr V o + sp V o + p
          · rw [cif_n (fun x => by omega), if_pos ⟨rfl, rfl, h5⟩, cif_p ⟨hh, by omega, by omega⟩]
          · rw [if_neg (fun x => h5 x.2.2)]
            exact cif_c ⟨fun x => ⟨x.1, by omega, x.2.2⟩, fun x => ⟨x.1, by omega, x.2.2⟩⟩
theorem m_takes39 (hW : WB V) (hz : 8100 ≤ z) {t : Nat} (ht : t < tN V) : ∀ (nn o : Nat) (r : zS), MS K ra mo r → vr ra mo r = V → o ≤ tN V → tN V - o < nn → ∃ r1, f_X7_takes_39 K z mo (nI t) nn r (nI o) = some r1 ∧ Fr [145] r r1 ∧ ∀ q, q < 8000 → (zi r1 145 (ra 45) q = 0 ↔ zi r 145 (ra 45) q = 0 ∧ ¬ ∃ o', o ≤ o' ∧ oth V t o' ∧ 200 * sr V o' + sp V o' ≤ q ∧ q < 200 * sr V o' + sp V o' + fN V o') := by
  have hN := WB_2 hW
  intro nn
  induction nn with
  | zero => intro o r _ _ hk h; omega
  | succ nn ih =>
    intro o r hM hV hk h
    rw [f_X7_takes_39, rd_35 (ra := ra) (mo := mo), hV, WB_1 hW, iLE (by omega) (by omega)]
    by_cases h1 : tN V ≤ o
    · rw [if_pos h1]
      exact ⟨r, rfl, Fr_rf, fun q hq => ⟨fun x => ⟨x, fun ⟨o', h2, h3, _⟩ => absurd h3.1 (by omega)⟩, fun x => x.1⟩⟩
    · rw [if_neg h1]
      have ho : o < tN V := by omega
      have hf2 := (WB_6 hW ho).2.2
      obtain ⟨r1, g1, g2, g3⟩ := m_takes49 (K := K) (ra := ra) (mo := mo) (z := z) hW ht ho (f_X7_takes_39 K z mo (nI t) nn) z 0 r hM hV (Nat.zero_le _) (by omega)
      obtain ⟨r2, k1, k2, k3⟩ := ih (o + 1) r1 (Fr_ms g2 hM) (by rw [Fr_vr g2 in45s, hV]) (by omega) (by omega)
      refine ⟨r2, by rw [← k1]; exact g1, Fr_tr g2 k2, fun q hq => ?_⟩
      rw [k3 q hq, g3 q hq]
      constructor
      · rintro ⟨a, b⟩
        by_cases h5 : oth V t o ∧ 200 * sr V o + sp V o + 0 ≤ q ∧ q < 200 * sr V o + sp V o + fN V o
        · rw [cif_p h5] at a; exact absurd a (by decide)
        · rw [cif_n h5] at a
          refine ⟨a, fun ⟨o', h6, h7, h8, h9⟩ => ?_⟩
          rcases Nat.lt_or_ge o o' with h10 | h10
          · exact b ⟨o', h10, h7, h8, h9⟩
          · have e : o' = o := by omega
            subst e
            exact h5 ⟨h7, by omega, h9⟩
      · rintro ⟨a, b⟩
        refine ⟨?_, fun ⟨o', h6, h7⟩ => b ⟨o', by omega, h7⟩⟩
        rw [cif_n (fun x => b ⟨o, Nat.le_refl _, x.1, by omega, x.2.2⟩)]
        exact a
theorem m_takes2 (hW : WB V) (hz : 8100 ≤ z) {t : Nat} (ht : t < tN V) : ∀ (nn k : Nat) (r : zS), MS K ra mo r → vr ra mo r = V → k ≤ 8000 → 8000 - k < nn → (∀ q, q < k → (zi r 145 (ra 45) q = 0 ↔ V.1 2 q &&& 3 = 0)) → ∃ r1, f_X7_takes_2 K z mo (nI t) nn r (nI k) = some r1 ∧ Fr [145] r r1 ∧ ∀ q, q < 8000 → (zi r1 145 (ra 45) q = 0 ↔ V.1 2 q &&& 3 = 0 ∧ ¬ ∃ o', oth V t o' ∧ 200 * sr V o' + sp V o' ≤ q ∧ q < 200 * sr V o' + sp V o' + fN V o') := by
  have hN := WB_2 hW
  intro nn
  induction nn with
  | zero => intro k r _ _ hk h; omega
  | succ nn ih =>
    intro k r hM hV hk h hq
    rw [f_X7_takes_2, n8000, iLE (by omega) (by omega)]
    by_cases h1 : 8000 ≤ k
    · rw [if_pos h1]
      obtain ⟨r1, g1, g2, g3⟩ := m_takes39 (K := K) (ra := ra) (mo := mo) (z := z) hW hz ht z 0 r hM hV (Nat.zero_le _) (by omega)
      refine ⟨r1, g1, g2, fun q hq8 => ?_⟩
      rw [g3 q hq8, hq q (by omega)]
      exact ⟨fun x => ⟨x.1, fun ⟨o', y⟩ => x.2 ⟨o', Nat.zero_le _, y⟩⟩, fun x => ⟨x.1, fun ⟨o', _, y⟩ => x.2 ⟨o', y⟩⟩⟩
    · rw [if_neg h1]
      simp only [zq_45 hM, zq_2 hM, zx_8000 (show k < 8000 by omega), cl_ (show k < 8000 by omega), rd_2 (ra := ra) (mo := mo), hV, zlet, nI_1]
      have ST : ∀ v : Int32, (v = 0 ↔ V.1 2 k &&& 3 = 0) → ∃ r1, f_X7_takes_2 K z mo (nI t) nn (zui r 145 (ra 45) k v) (nI (k + 1)) = some r1 ∧ Fr [145] r r1 ∧ ∀ q, q < 8000 → (zi r1 145 (ra 45) q = 0 ↔ V.1 2 q &&& 3 = 0 ∧ ¬ ∃ o', oth V t o' ∧ 200 * sr V o' + sp V o' ≤ q ∧ q < 200 * sr V o' + sp V o' + fN V o') := by
        intro v hv
        obtain ⟨r1, g1, g2, g3⟩ := ih (k + 1) (zui r 145 (ra 45) k v) hM (by rw [vw_45, hV]) (by omega) (by omega) (fun q hq2 => by
          rw [zi_zui]
          by_cases h5 : q = k
          · rw [if_pos ⟨rfl, rfl, h5⟩, h5]; exact hv
          · rw [if_neg (fun x => h5 x.2.2)]; exact hq q (by omega))
        exact ⟨r1, g1, Fr_tr (Fr_up (by decide)) g2, g3⟩
      by_cases h2 : V.1 2 k &&& 3 = 0
      · rw [if_pos h2]; exact ST 0 ⟨fun _ => h2, fun _ => rfl⟩
      · rw [if_neg h2]; exact ST 1 ⟨fun x => absurd x (by decide), fun x => absurd x h2⟩
theorem m_takes (hM : MS K ra mo r) (hV : vr ra mo r = V) (hW : WB V) (hz : 8100 ≤ z) {t : Nat} (ht : t < tN V) : ∃ r1, f_X7_takes K z r mo (nI t) = some r1 ∧ Fr [145] r r1 ∧ ∀ i q, i < 40 → q < 200 → (zi r1 145 (ra 45) (200 * i + q) = 0 ↔ ¬ tk V t i q) := by
  obtain ⟨r1, g1, g2, g3⟩ := m_takes2 (K := K) (ra := ra) (mo := mo) (z := z) hW hz ht z 0 r hM hV (by omega) (by omega) (fun q hq => by omega)
  refine ⟨r1, g1, g2, fun i q hi hq => ?_⟩
  rw [g3 (200 * i + q) (by omega)]
  constructor
  · rintro ⟨a, b⟩ (h1 | ⟨o, h2, h3, h4, h5⟩)
    · exact h1 a
    · exact b ⟨o, h2, by omega, by omega⟩
  · intro h
    refine ⟨Classical.not_not.mp fun x => h (Or.inl x), fun ⟨o, h2, h3, h4⟩ => h (Or.inr ⟨o, h2, ?_⟩)⟩
    obtain ⟨s1, s2, s3, s4⟩ := WB_11 hW h2.1 h2.2.1
    have hpl := (WB_7 hW s2).2
    omega
theorem m_in68 (hM : MS K ra mo r) (hV : vr ra mo r = V) (hW : WB V) (hz : 8100 ≤ z) {t i : Nat} (ht : t < tN V) (hi : i < 40) (hrun : ∀ p, p < pl V i → ∃ m, m ≤ 200 ∧ zi r 146 (ra 46) p = nI m ∧ ∀ l, p + l ≤ pl V i → (∀ q, p ≤ q → q < p + l → ¬ tk V t i q) → l ≤ m) : ∀ (nn p : Nat), p ≤ 201 → 300 - p < nn → f_X7_goodIn_68 K z mo (nI t) (nI i) nn r (nI p) = some (sqr V t i (pl V i + 1 - fN V t - p) p, r) := by
  have htl : t < 200 := Nat.lt_of_lt_of_le ht (WB_2 hW)
  obtain ⟨e10, f1, f2⟩ := WB_6 hW ht
  obtain ⟨e1, hpl⟩ := WB_7 hW hi
  intro nn
  induction nn with
  | zero => intro p hk h; omega
  | succ nn ih =>
    intro p hk h
    rw [f_X7_goodIn_68]
    simp only [zq_10 hM, zq_1 hM, zq_46 hM, zx_2 htl, zx_4 hi, cl_ (show t < 8000 by omega), cl_ (show i < 8000 by omega), cl_ (show p < 8000 by omega), rd_10 (ra := ra) (mo := mo), rd_1 (ra := ra) (mo := mo), hV, zlet, nI_1]
    rw [e10, e1, nI_add, iLT (by omega) (by omega)]
    by_cases h1 : pl V i < p + fN V t
    · rw [if_pos h1, show pl V i + 1 - fN V t - p = 0 by omega, sqr]
    · rw [if_neg h1, zx_201 (by omega)]
      obtain ⟨m, hm, em, hrun2⟩ := hrun p (by omega)
      rw [em, iLT (by omega) (by omega), show pl V i + 1 - fN V t - p = (pl V i + 1 - fN V t - (p + 1)) + 1 by omega, sqr]
      by_cases h2 : m < fN V t
      · rw [if_pos h2, cif_n, ih (p + 1) (by omega) (by omega)]
        intro h3
        have h4 := free_of_ag hW h3 hi (by omega)
        have := hrun2 (fN V t) h4.1 h4.2
        omega
      · rw [if_neg h2, m_against hM hV hW (by omega) ht, zb_s]
        by_cases h3 : ag V t (nI i) (nI p) = 0
        · rw [if_pos h3, cif_p h3, n200, pk_mul, nI_add]
        · rw [if_neg h3, cif_n h3, ih (p + 1) (by omega) (by omega)]
theorem m_in21 (hW : WB V) (hz : 8100 ≤ z) {t i : Nat} (ht : t < tN V) (hi : i < 40) : ∀ (nn k : Nat) (r : zS), MS K ra mo r → vr ra mo r = V → k ≤ pl V i → k < nn → (∀ q, q < 200 → (zi r 145 (ra 45) (200 * i + q) = 0 ↔ ¬ tk V t i q)) → (∀ p, k ≤ p → p ≤ pl V i → ∃ m, m ≤ pl V i - p ∧ zi r 146 (ra 46) p = nI m ∧ ∀ l, p + l ≤ pl V i → (∀ q, p ≤ q → q < p + l → ¬ tk V t i q) → l ≤ m) → ∃ r1, f_X7_goodIn_21 K z mo (nI t) (nI i) nn r (nI k - 1) = some (gIn V t i, r1) ∧ Fr [146] r r1 := by
  obtain ⟨e1, hpl⟩ := WB_7 hW hi
  intro nn
  induction nn with
  | zero => intro k r _ _ hk h; omega
  | succ nn ih =>
    intro k r hM hV hk h htk hrun
    rw [f_X7_goodIn_21]
    rcases Nat.eq_zero_or_pos k with h0 | h0
    · subst h0
      rw [if_pos (by decide)]
      refine ⟨r, ?_, Fr_rf⟩
      have := m_in68 (z := z) hM hV hW hz ht hi (fun p hp => by obtain ⟨m, a, b, c⟩ := hrun p (by omega) (by omega); exact ⟨m, by omega, b, c⟩) z 0 (by omega) (by omega)
      rw [Nat.sub_zero] at this
      exact this
    · obtain ⟨j, rfl⟩ : ∃ j, k = j + 1 := ⟨k - 1, by omega⟩
      rw [nI_pred, if_neg (nI_pos (by omega))]
      have e2 : 200 * nI i + nI j = nI (200 * i + j) := by rw [n200, pk_mul, nI_add]
      have e3 : nI j + (-1) = nI j - 1 := (Int32.sub_eq_add_neg (nI j) 1).symm
      simp only [zq_46 hM, zq_45 hM, e2, e3, zx_8000 (show 200 * i + j < 8000 by omega), zx_201 (show j + 1 < 201 by omega), zx_201 (show j < 201 by omega), cl_ (show 200 * i + j < 8000 by omega), cl_ (show j < 8000 by omega), cl_ (show j + 1 < 8000 by omega), zlet, nI_1]
      have ST : ∀ (m : Nat), m ≤ pl V i - j → (∀ l, j + l ≤ pl V i → (∀ q, j ≤ q → q < j + l → ¬ tk V t i q) → l ≤ m) → ∃ r1, f_X7_goodIn_21 K z mo (nI t) (nI i) nn (zui r 146 (ra 46) j (nI m)) (nI j - 1) = some (gIn V t i, r1) ∧ Fr [146] r r1 := by
        intro m hm hl
        obtain ⟨r1, g1, g2⟩ := ih j (zui r 146 (ra 46) j (nI m)) hM (by rw [vw_46, hV]) (by omega) (by omega) (fun q hq => by
          rw [zi_zui, if_neg (fun x => absurd x.1 (by decide))]; exact htk q hq) (fun p hp1 hp2 => by
          rw [zi_zui]
          by_cases h5 : p = j
          · subst h5; rw [if_pos ⟨rfl, rfl, rfl⟩]; exact ⟨m, hm, rfl, hl⟩
          · rw [if_neg (fun x => h5 x.2.2)]; exact hrun p (by omega) hp2)
        exact ⟨r1, g1, Fr_tr (Fr_up (by decide)) g2⟩
      by_cases h2 : zi r 145 (ra 45) (200 * i + j) = 0
      · rw [if_pos h2]
        obtain ⟨m, a, b, c⟩ := hrun (j + 1) (by omega) (by omega)
        rw [b, nI_1]
        refine ST (m + 1) (by omega) (fun l hl1 hl2 => ?_)
        rcases Nat.eq_zero_or_pos l with h6 | h6
        · omega
        · have := c (l - 1) (by omega) (fun q hq1 hq2 => hl2 q (by omega) (by omega))
          omega
      · rw [if_neg h2]
        refine ST 0 (by omega) (fun l hl1 hl2 => ?_)
        rcases Nat.eq_zero_or_pos l with h6 | h6
        · omega
        · exact absurd ((htk j (by omega)).mpr (hl2 j (by omega) (by omega))) h2
theorem m_goodIn (hM : MS K ra mo r) (hV : vr ra mo r = V) (hW : WB V) (hz : 8100 ≤ z) {t i : Nat} (ht : t < tN V) (hi : i < 40) (htk : ∀ i q, i < 40 → q < 200 → (zi r 145 (ra 45) (200 * i + q) = 0 ↔ ¬ tk V t i q)) : ∃ r1, f_X7_goodIn K z r mo (nI t) (nI i) = some (gIn V t i, r1) ∧ Fr [146] r r1 := by
  obtain ⟨e1, hpl⟩ := WB_7 hW hi
  unfold f_X7_goodIn
  simp only [zq_46 hM, zq_1 hM, zx_4 hi, cl_ (show i < 8000 by omega), rd_1 (ra := ra) (mo := mo), hV, zlet, vw_46, e1, zr_zui, zx_201 (show pl V i < 201 by omega), cl_ (show pl V i < 8000 by omega)]
  obtain ⟨r1, g1, g2⟩ := m_in21 (K := K) (ra := ra) (mo := mo) (z := z) hW hz ht hi z (pl V i) (zui r 146 (ra 46) (pl V i) 0) hM (by rw [vw_46, hV]) (Nat.le_refl _) (by omega) (fun q hq => by
    rw [zi_zui, if_neg (fun x => absurd x.1 (by decide))]; exact htk i q hi hq) (fun p hp1 hp2 => by
    have e : p = pl V i := by omega
    subst e
    rw [zi_zui, if_pos ⟨rfl, rfl, rfl⟩]
    exact ⟨0, by omega, rfl, fun l hl _ => by omega⟩)
  exact ⟨r1, g1, Fr_tr (Fr_up (by decide)) g2⟩
theorem m_good111 (hW : WB V) (hz : 8100 ≤ z) {t : Nat} (ht : t < tN V) : ∀ (nn i : Nat) (r : zS), MS K ra mo r → vr ra mo r = V → i ≤ 40 → 40 - i < nn → (∀ i q, i < 40 → q < 200 → (zi r 145 (ra 45) (200 * i + q) = 0 ↔ ¬ tk V t i q)) → ∃ r1, f_X7_goodSpot_111 K z mo (nI t) nn r (-1) (nI i) = some (sqs V t (40 - i) i, r1) ∧ Fr [146] r r1 := by
  obtain ⟨e10, f1, f2⟩ := WB_6 hW ht
  intro nn
  induction nn with
  | zero => intro i r _ _ hk h; omega
  | succ nn ih =>
    intro i r hM hV hk h htk
    rw [f_X7_goodSpot_111, n40, iLE (by omega) (by omega)]
    by_cases h1 : 40 ≤ i
    · rw [if_pos h1, show 40 - i = 0 by omega, sqs]
      exact ⟨r, rfl, Fr_rf⟩
    · rw [if_neg h1, if_neg m1_lt]
      have hi : i < 40 := by omega
      obtain ⟨e1, hpl⟩ := WB_7 hW hi
      obtain ⟨r1, g1, g2⟩ := m_goodIn hM hV hW hz ht hi htk
      rw [g1, zb2_s, zlet, nI_1, show 40 - i = (40 - (i + 1)) + 1 by omega, sqs]
      have htk1 : ∀ i q, i < 40 → q < 200 → (zi r1 145 (ra 45) (200 * i + q) = 0 ↔ ¬ tk V t i q) := fun i q hi hq => by rw [Fr_zi g2 (by decide)]; exact htk i q hi hq
      rcases sqr_b V t i hi (pl V i + 1 - fN V t) 0 (by omega) with h2 | ⟨q, hq, h2⟩
      · rw [gIn, h2, cif_n m1_lt]
        obtain ⟨r2, k1, k2⟩ := ih (i + 1) r1 (Fr_ms g2 hM) (by rw [Fr_vr g2 in46s, hV]) (by omega) (by omega) htk1
        exact ⟨r2, k1, Fr_tr g2 k2⟩
      · rw [gIn, h2, cif_p (nI_pos' (by omega))]
        obtain ⟨mm, rfl⟩ : ∃ mm, nn = mm + 1 := ⟨nn - 1, by omega⟩
        rw [f_X7_goodSpot_111]
        by_cases h3 : (40 : Int32) ≤ nI (i + 1)
        · rw [if_pos h3]; exact ⟨r1, rfl, g2⟩
        · rw [if_neg h3, if_pos (nI_pos' (by omega))]; exact ⟨r1, rfl, g2⟩
theorem m_good2 (hW : WB V) (hz : 8100 ≤ z) {t : Nat} (ht : t < tN V) (hM : MS K ra mo r) (hV : vr ra mo r = V) : ∀ (nn k : Nat), k ≤ wN V t → wN V t - k < nn → ∃ r1, f_X7_goodSpot_2 K z mo (nI t) nn r (nI k) = some (gsl V t (cif (V.1 19 t = 0 ∨ full V t ∨ outm V t ∨ secd V t) (-1) (gSq V t)) (wN V t - k) k, r1) ∧ Fr [145, 146] r r1 := by
  have htl : t < 200 := Nat.lt_of_lt_of_le ht (WB_2 hW)
  obtain ⟨w1, w2⟩ := WB_22 hW ht
  intro nn
  induction nn with
  | zero => intro k hk h; omega
  | succ nn ih =>
    intro k hk h
    rw [f_X7_goodSpot_2]
    simp only [zq_18 hM, zq_19 hM, zq_16 hM, zq_17 hM, zx_2 htl, cl_ (show t < 8000 by omega), rd_18 (ra := ra) (mo := mo), rd_19 (ra := ra) (mo := mo), hV, zlet, nI_1]
    rw [w1, iLE (by omega) (by omega)]
    by_cases h1 : wN V t ≤ k
    · rw [if_pos h1, show wN V t - k = 0 by omega, gsl]
      by_cases h2 : V.1 19 t = 0
      · rw [if_pos h2, cif_p (Or.inl h2)]; exact ⟨r, rfl, Fr_rf⟩
      · rw [if_neg h2, m_isFull hM hV hW (by omega) ht, zb_s]
        by_cases h3 : full V t
        · rw [oi_p h3, if_neg (by decide), cif_p (Or.inr (Or.inl h3))]; exact ⟨r, rfl, Fr_rf⟩
        · rw [oi_n h3, if_pos rfl, m_outm hM hV hW ht, zb_s]
          by_cases h4 : outm V t
          · rw [oi_p h4, if_neg (by decide), cif_p (Or.inr (Or.inr (Or.inl h4)))]; exact ⟨r, rfl, Fr_rf⟩
          · rw [oi_n h4, if_pos rfl, m_secd hM hV hW (by omega) ht, zb_s]
            by_cases h5 : secd V t
            · rw [oi_p h5, if_neg (by decide), cif_p (Or.inr (Or.inr (Or.inr h5)))]; exact ⟨r, rfl, Fr_rf⟩
            · rw [oi_n h5, if_pos rfl, cif_n (fun x => by rcases x with x | x | x | x; exact h2 x; exact h3 x; exact h4 x; exact h5 x)]
              obtain ⟨r1, g1, g2, g3⟩ := m_takes hM hV hW hz ht
              rw [g1, zb_s]
              obtain ⟨r2, k1, k2⟩ := m_good111 (K := K) (ra := ra) (mo := mo) (z := z) hW hz ht z 0 r1 (Fr_ms g2 hM) (by rw [Fr_vr g2 in45s, hV]) (by omega) (by omega) g3
              exact ⟨r2, k1, Fr_tr (Fr_mono g2 in45) (Fr_mono k2 in46)⟩
    · rw [if_neg h1]
      have e2 : 12 * nI t + nI k = nI (12 * t + k) := by rw [n12, pk_mul, nI_add]
      rw [e2, zx_2400 (by omega), zx_2400 (by omega), zx_2400 (by omega), zx_2400 (by omega), cl_ (by omega), rd_16 (ra := ra) (mo := mo), rd_17 (ra := ra) (mo := mo), hV, m_against hM hV hW (by omega) ht, zb_s, show wN V t - k = (wN V t - (k + 1)) + 1 by omega, gsl]
      by_cases h2 : ag V t (V.1 16 (12 * t + k)) (V.1 17 (12 * t + k)) = 0
      · rw [if_pos h2, cif_p h2]; exact ⟨r, rfl, Fr_rf⟩
      · rw [if_neg h2, cif_n h2]; exact ih (k + 1) (by omega) (by omega)
theorem m_goodSpot (hM : MS K ra mo r) (hV : vr ra mo r = V) (hW : WB V) (hz : 8100 ≤ z) {t : Nat} (ht : t < tN V) : ∃ r1, f_X7_goodSpot K z r mo (nI t) = some (gs V t, r1) ∧ Fr [145, 146] r r1 := by
  have := (WB_22 hW ht).2
  exact m_good2 hW hz ht hM hV z 0 (Nat.zero_le _) (by omega)
end M3
