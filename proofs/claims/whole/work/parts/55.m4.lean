/-! the order of those who wait -/
def bcv (p1 : Int32) : Int32 :=
  zlet (p1 - ((((p1).toUInt32 >>> ((1 : Int32).toUInt32 &&& Int32.toUInt32 31)).toInt32) &&& 1431655765)) fun x1 => zlet ((x1 &&& 858993459) + ((((x1).toUInt32 >>> ((2 : Int32).toUInt32 &&& Int32.toUInt32 31)).toInt32) &&& 858993459)) fun x2 => zlet ((x2 + (((x2).toUInt32 >>> ((4 : Int32).toUInt32 &&& Int32.toUInt32 31)).toInt32)) &&& 252645135) fun x3 => zlet (x3 + (((x3).toUInt32 >>> ((8 : Int32).toUInt32 &&& Int32.toUInt32 31)).toInt32)) fun x4 => zlet (x4 + (((x4).toUInt32 >>> ((16 : Int32).toUInt32 &&& Int32.toUInt32 31)).toInt32)) fun x5 => x5 &&& 63
def b8 (p : Int32) : Int32 := (((((((((0 : Int32) + ((p >>> (((0 : Int32)) &&& 31)) &&& 1)) + ((p >>> (((0 : Int32) + 1) &&& 31)) &&& 1)) + ((p >>> (((0 : Int32) + 1 + 1) &&& 31)) &&& 1)) + ((p >>> (((0 : Int32) + 1 + 1 + 1) &&& 31)) &&& 1)) + ((p >>> (((0 : Int32) + 1 + 1 + 1 + 1) &&& 31)) &&& 1)) + ((p >>> (((0 : Int32) + 1 + 1 + 1 + 1 + 1) &&& 31)) &&& 1)) + ((p >>> (((0 : Int32) + 1 + 1 + 1 + 1 + 1 + 1) &&& 31)) &&& 1)) + ((p >>> (((0 : Int32) + 1 + 1 + 1 + 1 + 1 + 1 + 1) &&& 31)) &&& 1))
theorem b8_bcv : ∀ m, m < 256 → b8 (nI m) = bcv (nI m) := by decide +kernel
theorem bcv_b (x : Int32) : ∃ j, j < 64 ∧ bcv x = nI j := by
  unfold bcv
  simp only [zlet]
  exact pk_andE _ 6 (by decide)
def debt (V : zV) (t : Nat) : Prop := ¬ lg_cmp (V.2 34 t) 5000 ≤ 0
noncomputable def ahU (V : zV) (a b : Nat) : Prop := cif (debt V a ↔ debt V b) (cif (bcv (V.1 31 a) = bcv (V.1 31 b)) (cif (V.1 33 a = V.1 33 b) (V.1 11 a < V.1 11 b) (V.1 33 a < V.1 33 b)) (bcv (V.1 31 b) < bcv (V.1 31 a))) (debt V b)
noncomputable def ah (V : zV) (a b : Nat) : Prop := cif (V.1 23 a = V.1 23 b) (cif (V.1 23 a = 0) (ahU V a b) (V.1 11 a < V.1 11 b)) (¬ V.1 23 a = 0)
/-- the place in the order as one number -/
noncomputable def nU (V : zV) (a : Nat) : Int := ((cif (debt V a) 1 0 * 64 + (63 - (bcv (V.1 31 a)).toInt)) * 4294967296 + ((V.1 33 a).toInt + 2147483648)) * 4294967296 + ((V.1 11 a).toInt + 2147483648)
noncomputable def nO (V : zV) (a : Nat) : Int := cif (V.1 23 a = 0) (nU V a + 4294967296) ((V.1 11 a).toInt + 2147483648)
theorem bcv_i (x : Int32) : 0 ≤ (bcv x).toInt ∧ (bcv x).toInt ≤ 63 := by
  obtain ⟨j, hj, e⟩ := bcv_b x
  rw [e, nI_toInt (by omega)]
  omega
theorem i32b (x : Int32) : -2147483648 ≤ x.toInt ∧ x.toInt < 2147483648 := by
  have h1 := x.le_toInt
  have h2 := x.toInt_lt
  omega
theorem ahU_n (V : zV) (a b : Nat) : ahU V a b ↔ nU V a < nU V b := by
  have b1 := bcv_i (V.1 31 a)
  have b2 := bcv_i (V.1 31 b)
  have l1 := i32b (V.1 33 a)
  have l2 := i32b (V.1 33 b)
  have r1 := i32b (V.1 11 a)
  have r2 := i32b (V.1 11 b)
  unfold ahU nU
  rw [Int32.lt_iff_toInt_lt, Int32.lt_iff_toInt_lt, Int32.lt_iff_toInt_lt, ← Int32.toInt_inj, ← Int32.toInt_inj]
  generalize (bcv (V.1 31 a)).toInt = ba at *
  generalize (bcv (V.1 31 b)).toInt = bb at *
  generalize (V.1 33 a).toInt = la at *
  generalize (V.1 33 b).toInt = lb at *
  generalize (V.1 11 a).toInt = ka at *
  generalize (V.1 11 b).toInt = kb at *
  by_cases h1 : debt V a
  · by_cases h2 : debt V b
    · rw [cif_p (a := (1 : Int)) h1, cif_p (a := (1 : Int)) h2, cif_p (show debt V a ↔ debt V b from ⟨fun _ => h2, fun _ => h1⟩)]
      by_cases h3 : ba = bb
      · rw [cif_p h3]
        by_cases h4 : la = lb
        · rw [cif_p h4]; omega
        · rw [cif_n h4]; omega
      · rw [cif_n h3]; omega
    · rw [cif_p (a := (1 : Int)) h1, cif_n (a := (1 : Int)) h2, cif_n (show ¬ (debt V a ↔ debt V b) from fun x => h2 (x.mp h1))]
      exact ⟨fun x => absurd x h2, fun x => by omega⟩
  · by_cases h2 : debt V b
    · rw [cif_n (a := (1 : Int)) h1, cif_p (a := (1 : Int)) h2, cif_n (show ¬ (debt V a ↔ debt V b) from fun x => h1 (x.mpr h2))]
      exact ⟨fun _ => by omega, fun _ => h2⟩
    · rw [cif_n (a := (1 : Int)) h1, cif_n (a := (1 : Int)) h2, cif_p (show debt V a ↔ debt V b from ⟨fun x => absurd x h1, fun x => absurd x h2⟩)]
      by_cases h3 : ba = bb
      · rw [cif_p h3]
        by_cases h4 : la = lb
        · rw [cif_p h4]; omega
        · rw [cif_n h4]; omega
      · rw [cif_n h3]; omega
theorem nU_0 (V : zV) (a : Nat) : 0 ≤ nU V a := by
  have b1 := bcv_i (V.1 31 a)
  have l1 := i32b (V.1 33 a)
  have r1 := i32b (V.1 11 a)
  unfold nU
  by_cases h1 : debt V a
  · rw [cif_p h1]; omega
  · rw [cif_n h1]; omega
theorem ah_n {V : zV} (hW : WB V) {a b : Nat} (ha : a < tN V) (hb : b < tN V) : ah V a b ↔ nO V a < nO V b := by
  have r1 := i32b (V.1 11 a)
  have r2 := i32b (V.1 11 b)
  have u1 := nU_0 V a
  have u2 := nU_0 V b
  unfold ah nO
  rw [ahU_n, Int32.lt_iff_toInt_lt]
  rcases WB_13 hW ha with h1 | h1 <;> rcases WB_13 hW hb with h2 | h2 <;> rw [h1, h2]
  · rw [cif_p rfl, cif_p rfl, cif_p rfl, cif_p rfl]; omega
  · rw [cif_n (by decide), cif_p rfl, cif_n (by decide)]
    exact ⟨fun x => absurd rfl x, fun x => by omega⟩
  · rw [cif_n (by decide), cif_n (by decide), cif_p rfl]
    exact ⟨fun _ => by omega, fun _ => by decide⟩
  · rw [cif_p rfl, cif_n (by decide), cif_n (by decide), cif_n (by decide)]; omega
theorem nO_inj {V : zV} (hW : WB V) {a b : Nat} (ha : a < tN V) (hb : b < tN V) (hab : a ≠ b) : nO V a ≠ nO V b := by
  have r1 := i32b (V.1 11 a)
  have r2 := i32b (V.1 11 b)
  have u1 := nU_0 V a
  have u2 := nU_0 V b
  have hr := WB_20 hW ha hb hab
  have hr2 : (V.1 11 a).toInt ≠ (V.1 11 b).toInt := fun e => hr (Int32.toInt_inj.mp e)
  unfold nO
  rcases WB_13 hW ha with h1 | h1 <;> rcases WB_13 hW hb with h2 | h2 <;> rw [h1, h2]
  · rw [cif_p rfl, cif_p rfl]
    intro h
    unfold nU at h
    omega
  · rw [cif_p rfl, cif_n (by decide)]; omega
  · rw [cif_n (by decide), cif_p rfl]; omega
  · rw [cif_n (by decide), cif_n (by decide)]; omega
/-! lists in an order -/
def Ls (f : Nat → Int) (W : Nat → Prop) (m : Nat) (s : Nat → Nat) : Prop := (∀ i, i < m → W (s i)) ∧ (∀ i j, i < j → j < m → f (s i) < f (s j)) ∧ ∀ t, W t → ∃ i, i < m ∧ s i = t
theorem Ls_u {f : Nat → Int} {W : Nat → Prop} {m m' : Nat} {s s' : Nat → Nat} (h : Ls f W m s) (h' : Ls f W m' s') : ∀ i, i < m → i < m' → s i = s' i := by
  intro i
  induction i using Nat.strongRecOn with
  | _ i ih =>
    intro hi hi'
    obtain ⟨j, hj, ej⟩ := h'.2.2 (s i) (h.1 i hi)
    obtain ⟨k, hk, ek⟩ := h.2.2 (s' i) (h'.1 i hi')
    have hj1 : ¬ j < i := fun hlt => by
      have e := ih j hlt (by omega) hj
      have := h.2.1 j i hlt hi
      rw [e, ej] at this; omega
    have hk1 : ¬ k < i := fun hlt => by
      have e := ih k hlt hk (by omega)
      have := h'.2.1 k i hlt hi'
      rw [← e, ek] at this; omega
    rcases Nat.lt_or_ge i j with h1 | h1
    · have a1 := h'.2.1 i j h1 hj
      rw [ej] at a1
      rcases Nat.lt_or_ge i k with h2 | h2
      · have a2 := h.2.1 i k h2 hk
        rw [ek] at a2; omega
      · have e : k = i := by omega
        rw [e] at ek; exact ek
    · have e : j = i := by omega
      rw [e] at ej; exact ej.symm
theorem Ls_m {f : Nat → Int} {W : Nat → Prop} {m m' : Nat} {s s' : Nat → Nat} (h : Ls f W m s) (h' : Ls f W m' s') : m = m' := by
  have key : ∀ {m m' : Nat} {s s' : Nat → Nat}, Ls f W m s → Ls f W m' s' → ¬ m < m' := by
    intro m m' s s' h h' hlt
    obtain ⟨j, hj, ej⟩ := h.2.2 (s' m) (h'.1 m hlt)
    have e := Ls_u h h' j hj (by omega)
    have := h'.2.1 j m hj hlt
    rw [← e, ej] at this; omega
  have a := key h h'
  have b := key h' h
  omega
theorem Ls_c {f : Nat → Int} {W W' : Nat → Prop} {m : Nat} {s : Nat → Nat} (h : Ls f W m s) (hw : ∀ t, W t ↔ W' t) : Ls f W' m s := ⟨fun i hi => (hw _).mp (h.1 i hi), h.2.1, fun t ht => h.2.2 t ((hw t).mpr ht)⟩
theorem Ls_s {f : Nat → Int} {W : Nat → Prop} {m : Nat} {s s' : Nat → Nat} (h : Ls f W m s) (hs : ∀ i, i < m → s' i = s i) : Ls f W m s' := ⟨fun i hi => by rw [hs i hi]; exact h.1 i hi, fun i j h1 h2 => by rw [hs i (by omega), hs j h2]; exact h.2.1 i j h1 h2, fun t ht => by obtain ⟨i, h1, h2⟩ := h.2.2 t ht; exact ⟨i, h1, by rw [hs i h1, h2]⟩⟩
theorem Ls_i {f : Nat → Int} {W : Nat → Prop} {m k t : Nat} {s : Nat → Nat} (h : Ls f W m s) (hk : k ≤ m) (h1 : ∀ i, k ≤ i → i < m → f t < f (s i)) (h2 : ∀ i, i < k → f (s i) < f t) : Ls f (fun x => W x ∨ x = t) (m + 1) (fun i => if i < k then s i else if i = k then t else s (i - 1)) := by
  refine ⟨fun i hi => ?_, fun i j hij hj => ?_, fun x hx => ?_⟩
  · show W (if i < k then s i else if i = k then t else s (i - 1)) ∨ (if i < k then s i else if i = k then t else s (i - 1)) = t
    by_cases a : i < k
    · rw [if_pos a]; exact Or.inl (h.1 i (by omega))
    · rw [if_neg a]
      by_cases b : i = k
      · rw [if_pos b]; exact Or.inr rfl
      · rw [if_neg b]; exact Or.inl (h.1 (i - 1) (by omega))
  · show f (if i < k then s i else if i = k then t else s (i - 1)) < f (if j < k then s j else if j = k then t else s (j - 1))
    by_cases a : i < k
    · rw [if_pos a]
      by_cases b : j < k
      · rw [if_pos b]; exact h.2.1 i j hij (by omega)
      · rw [if_neg b]
        by_cases c : j = k
        · rw [if_pos c]; exact h2 i a
        · rw [if_neg c]; exact h.2.1 i (j - 1) (by omega) (by omega)
    · have a2 : ¬ j < k := by omega
      have a3 : ¬ j = k := by omega
      rw [if_neg a, if_neg a2, if_neg a3]
      by_cases c : i = k
      · rw [if_pos c]; exact h1 (j - 1) (by omega) (by omega)
      · rw [if_neg c]; exact h.2.1 (i - 1) (j - 1) (by omega) (by omega)
  · rcases hx with hx | hx
    · obtain ⟨i, hi, ei⟩ := h.2.2 x hx
      by_cases a : i < k
      · exact ⟨i, by omega, by show (if i < k then s i else if i = k then t else s (i - 1)) = x; rw [if_pos a, ei]⟩
      · exact ⟨i + 1, by omega, by show (if i + 1 < k then s (i + 1) else if i + 1 = k then t else s (i + 1 - 1)) = x; rw [if_neg (by omega), if_neg (by omega), Nat.add_sub_cancel, ei]⟩
    · exact ⟨k, by omega, by show (if k < k then s k else if k = k then t else s (k - 1)) = x; rw [if_neg (by omega), if_pos rfl, hx]⟩
/-- the way down: where the walk stops, all ahead are smaller -/
theorem Ls_d {f : Nat → Int} {W : Nat → Prop} {m k : Nat} {s : Nat → Nat} {v : Int} (h : Ls f W m s) (hk : k ≤ m) (h1 : k = 0 ∨ f (s (k - 1)) < v) : ∀ i, i < k → f (s i) < v := by
  intro i hi
  rcases h1 with h1 | h1
  · omega
  · rcases Nat.lt_or_ge i (k - 1) with h2 | h2
    · have := h.2.1 i (k - 1) h2 (by omega); omega
    · rw [show i = k - 1 by omega]; exact h1
section M4
variable {K : Nat → Nat} {ra : Nat → Nat} {mo z n : Nat} {r : zS} {V : zV}
theorem m_bits (hz : 300 ≤ z) (p : Int32) : f_X7_bits K z r p = some (b8 p) := by
  obtain ⟨y, rfl⟩ : ∃ y, z = y + 9 := ⟨z - 9, by omega⟩
  unfold f_X7_bits
  rw [f_X7_bits_4, if_neg (by decide), zlet, zlet]
  rw [f_X7_bits_4, if_neg (by decide), zlet, zlet]
  rw [f_X7_bits_4, if_neg (by decide), zlet, zlet]
  rw [f_X7_bits_4, if_neg (by decide), zlet, zlet]
  rw [f_X7_bits_4, if_neg (by decide), zlet, zlet]
  rw [f_X7_bits_4, if_neg (by decide), zlet, zlet]
  rw [f_X7_bits_4, if_neg (by decide), zlet, zlet]
  rw [f_X7_bits_4, if_neg (by decide), zlet, zlet]
  rw [f_X7_bits_4, if_pos (by decide)]
  rfl
theorem m_bitsN (hz : 300 ≤ z) {p : Int32} {m : Nat} (hm : m < 256) (e : p = nI m) : f_X7_bits K z r p = some (bcv p) := by rw [m_bits hz, e, b8_bcv m hm]
theorem m_isAhead (hM : MS K ra mo r) (hV : vr ra mo r = V) (hW : WB V) (hz : 300 ≤ z) {a b : Nat} (ha : a < tN V) (hb : b < tN V) : f_X7_isAhead K z r mo (nI a) (nI b) = some (oi (ahU V a b)) := by
  have hal : a < 200 := Nat.lt_of_lt_of_le ha (WB_2 hW)
  have hbl : b < 200 := Nat.lt_of_lt_of_le hb (WB_2 hW)
  obtain ⟨⟨ma, ma1, ma2⟩, -⟩ := WB_18 hW ha
  obtain ⟨⟨mb, mb1, mb2⟩, -⟩ := WB_18 hW hb
  have k38 : ∀ v3 s0 s1 : Int32, f_X7_isAhead_38 K z r mo (nI a) (nI b) v3 s0 s1 = some (if s0 = s1 then oi (cif (bcv (V.1 31 a) = bcv (V.1 31 b)) (cif (V.1 33 a = V.1 33 b) (V.1 11 a < V.1 11 b) (V.1 33 a < V.1 33 b)) (bcv (V.1 31 b) < bcv (V.1 31 a))) else if v3 = 0 then 1 else 0) := by
    intro v3 s0 s1
    unfold f_X7_isAhead_38
    by_cases h : s0 = s1
    · rw [if_pos h, if_pos h]
      simp only [zq_31 hM, zq_33 hM, zq_11 hM, zx_2 hal, zx_2 hbl, cl_ (show a < 8000 by omega), cl_ (show b < 8000 by omega), rd_31 (ra := ra) (mo := mo), rd_33 (ra := ra) (mo := mo), rd_11 (ra := ra) (mo := mo), hV]
      rw [m_bitsN hz ma1 ma2, zb_s, m_bitsN hz mb1 mb2, zb_s]
      by_cases h1 : bcv (V.1 31 a) = bcv (V.1 31 b)
      · rw [if_pos h1, cif_p h1]
        by_cases h2 : V.1 33 a = V.1 33 b
        · rw [if_pos h2, cif_p h2]
          by_cases h3 : V.1 11 b ≤ V.1 11 a
          · rw [if_pos h3, oi_n (Int32.not_lt.mpr h3)]
          · rw [if_neg h3, oi_p (Int32.not_le.mp h3)]
        · rw [if_neg h2, cif_n h2]
          by_cases h3 : V.1 33 b ≤ V.1 33 a
          · rw [if_pos h3, oi_n (Int32.not_lt.mpr h3)]
          · rw [if_neg h3, oi_p (Int32.not_le.mp h3)]
      · rw [if_neg h1, cif_n h1]
        by_cases h3 : bcv (V.1 31 a) ≤ bcv (V.1 31 b)
        · rw [if_pos h3, oi_n (Int32.not_lt.mpr h3)]
        · rw [if_neg h3, oi_p (Int32.not_le.mp h3)]
    · rw [if_neg h, if_neg h]
      split <;> rfl
  unfold f_X7_isAhead f_X7_isAhead_18
  simp only [zq_34 hM, zx_2 hal, zx_2 hbl, cl_ (show a < 8000 by omega), cl_ (show b < 8000 by omega), rd_34 (ra := ra) (mo := mo), hV, k38]
  unfold ahU
  by_cases h1 : lg_cmp (V.2 34 a) 5000 ≤ 0
  · have d1 : ¬ debt V a := fun x => x h1
    rw [if_pos h1]
    by_cases h2 : lg_cmp (V.2 34 b) 5000 ≤ 0
    · have d2 : ¬ debt V b := fun x => x h2
      rw [if_pos h2, if_pos trivial, cif_p (show debt V a ↔ debt V b from ⟨fun x => absurd x d1, fun x => absurd x d2⟩)]
    · have d2 : debt V b := h2
      rw [if_neg h2, if_neg (by decide), if_pos trivial, cif_n (show ¬ (debt V a ↔ debt V b) from fun x => d1 (x.mpr d2)), oi_p d2]
  · have d1 : debt V a := h1
    rw [if_neg h1]
    by_cases h2 : lg_cmp (V.2 34 b) 5000 ≤ 0
    · have d2 : ¬ debt V b := fun x => x h2
      rw [if_pos h2, if_neg (by decide), if_neg (by decide), cif_n (show ¬ (debt V a ↔ debt V b) from fun x => d2 (x.mp d1)), oi_n d2]
    · have d2 : debt V b := h2
      rw [if_neg h2, if_pos trivial, cif_p (show debt V a ↔ debt V b from ⟨fun _ => d2, fun _ => d1⟩)]
theorem m_comesAhead (hM : MS K ra mo r) (hV : vr ra mo r = V) (hW : WB V) (hz : 300 ≤ z) {a b : Nat} (ha : a < tN V) (hb : b < tN V) : f_X7_comesAhead K z r mo (nI a) (nI b) = some (oi (ah V a b)) := by
  have hal : a < 200 := Nat.lt_of_lt_of_le ha (WB_2 hW)
  have hbl : b < 200 := Nat.lt_of_lt_of_le hb (WB_2 hW)
  unfold f_X7_comesAhead
  simp only [zq_23 hM, zq_11 hM, zx_2 hal, zx_2 hbl, cl_ (show a < 8000 by omega), cl_ (show b < 8000 by omega), rd_23 (ra := ra) (mo := mo), rd_11 (ra := ra) (mo := mo), hV, m_isAhead hM hV hW hz ha hb, zb_s]
  unfold ah
  by_cases h1 : V.1 23 a = V.1 23 b
  · rw [if_pos h1, cif_p h1]
    by_cases h2 : V.1 23 a = 0
    · rw [if_pos h2, cif_p h2, zz_p oi_b]
    · rw [if_neg h2, cif_n h2]
      by_cases h3 : V.1 11 b ≤ V.1 11 a
      · rw [if_pos h3, oi_n (Int32.not_lt.mpr h3)]
      · rw [if_neg h3, oi_p (Int32.not_le.mp h3)]
  · rw [if_neg h1, cif_n h1, zz_p (WB_13 hW ha)]
    rcases WB_13 hW ha with h2 | h2
    · rw [h2, oi_n (fun x => x rfl)]
    · rw [h2, oi_p (by decide)]
/-- who waits -/
def wt (V : zV) (t : Nat) : Prop := t < tN V ∧ ¬ V.1 21 t = 0 ∧ ¬ st V t ∧ V.1 25 t = 0
theorem m_lines58 (hW : WB V) (hz : 300 ≤ z) {t m : Nat} (ht : t < tN V) {s : Nat → Nat} {W : Nat → Prop} (hL : Ls (nO V) W m s) (hWt : ∀ x, W x → x < t) (hm : m ≤ t) (rec7 : zS → Int32 → Option zS) : ∀ (nn k : Nat) (r : zS), MS K ra mo r → vr ra mo r = V → k ≤ m → k < nn → (∀ i, i < k → zi r 147 (ra 47) i = nI (s i)) → (∀ i, k < i → i ≤ m → zi r 147 (ra 47) i = nI (s (i - 1))) → (∀ i, k ≤ i → i < m → nO V t < nO V (s i)) → ∃ (r1 : zS) (k1 : Nat), f_X7_lines_58 K z mo rec7 nn r (nI t) (nI k) = rec7 (zui (zui r1 147 (ra 47) k1 (nI t)) 48 mo 0 (zi r 48 mo 0 + 1)) (nI (t + 1)) ∧ Fr [147] r r1 ∧ k1 ≤ m ∧ (∀ i, i < k1 → zi r1 147 (ra 47) i = nI (s i)) ∧ (∀ i, k1 < i → i ≤ m → zi r1 147 (ra 47) i = nI (s (i - 1))) ∧ (∀ i, k1 ≤ i → i < m → nO V t < nO V (s i)) ∧ (∀ i, i < k1 → nO V (s i) < nO V t) := by
  have htl : t < 200 := Nat.lt_of_lt_of_le ht (WB_2 hW)
  intro nn
  induction nn with
  | zero => intro k r _ _ hk h; omega
  | succ nn ih =>
    intro k r hM hV hk h h1 h2 h3
    rw [f_X7_lines_58]
    have STOP : (k = 0 ∨ nO V (s (k - 1)) < nO V t) → ∃ (r1 : zS) (k1 : Nat), f_X7_lines_98 K z mo rec7 (f_X7_lines_58 K z mo rec7 nn) r (nI t) (nI k) = rec7 (zui (zui r1 147 (ra 47) k1 (nI t)) 48 mo 0 (zi r 48 mo 0 + 1)) (nI (t + 1)) ∧ Fr [147] r r1 ∧ k1 ≤ m ∧ (∀ i, i < k1 → zi r1 147 (ra 47) i = nI (s i)) ∧ (∀ i, k1 < i → i ≤ m → zi r1 147 (ra 47) i = nI (s (i - 1))) ∧ (∀ i, k1 ≤ i → i < m → nO V t < nO V (s i)) ∧ (∀ i, i < k1 → nO V (s i) < nO V t) := by
      intro h4
      refine ⟨r, k, ?_, Fr_rf, hk, h1, h2, h3, Ls_d hL hk h4⟩
      unfold f_X7_lines_98
      simp only [zq_47 hM, zx_2 (show k < 200 by omega), cl_ (show k < 8000 by omega), zlet, nI_1]
      rfl
    rcases Nat.eq_zero_or_pos k with h0 | h0
    · subst h0
      rw [if_pos (by decide)]
      exact STOP (Or.inl rfl)
    · obtain ⟨j, rfl⟩ : ∃ j, k = j + 1 := ⟨k - 1, by omega⟩
      have hsj := hL.1 j (by omega)
      have hsjt := hWt _ hsj
      rw [if_neg (nI_nle (by omega) (by omega)), nI_pred]
      simp only [zq_47 hM, zx_2 (show j < 200 by omega), zx_2 (show j + 1 < 200 by omega), cl_ (show j < 8000 by omega), cl_ (show j + 1 < 8000 by omega), zlet]
      rw [h1 j (by omega), m_comesAhead hM hV hW hz ht (by omega), zb_s]
      by_cases h4 : ah V t (s j)
      · rw [oi_p h4, if_neg (by decide), pk_m1]
        have h5 := (ah_n hW ht (by omega)).mp h4
        obtain ⟨r1, k1, g1, g2, g3⟩ := ih j (zui r 147 (ra 47) (j + 1) (nI (s j))) hM (by rw [vw_47, hV]) (by omega) (by omega) (fun i hi => by
          rw [zi_zui, if_neg (fun x => by omega)]; exact h1 i (by omega)) (fun i hi1 hi2 => by
          rw [zi_zui]
          by_cases h6 : i = j + 1
          · rw [if_pos ⟨rfl, rfl, h6⟩, h6, Nat.add_sub_cancel]
          · rw [if_neg (fun x => h6 x.2.2)]; exact h2 i (by omega) hi2) (fun i hi1 hi2 => by
          rcases Nat.lt_or_ge j i with h6 | h6
          · exact h3 i h6 hi2
          · rw [show i = j by omega]; exact h5)
        exact ⟨r1, k1, g1, Fr_tr (Fr_up (by decide)) g2, g3⟩
      · rw [oi_n h4, if_pos rfl]
        refine STOP (Or.inr ?_)
        have h5 : ¬ nO V t < nO V (s j) := fun x => h4 ((ah_n hW ht (by omega)).mpr x)
        have h6 := nO_inj hW (show s j < tN V by omega) ht (by omega)
        rw [Nat.add_sub_cancel]
        omega
theorem m_lines7 (hW : WB V) (hz : 300 ≤ z) (h3 : V.1 37 0 = 3) : ∀ (nn t : Nat) (r : zS), MS K ra mo r → vr ra mo r = V → t ≤ tN V → tN V - t < nn → ∀ (m : Nat) (s : Nat → Nat), m ≤ t → zi r 48 mo 0 = nI m → (∀ i, i < m → zi r 147 (ra 47) i = nI (s i)) → Ls (nO V) (fun x => x < t ∧ wt V x) m s → ∃ r1, f_X7_lines_7 K z mo nn r (nI t) = some r1 ∧ Fr [147, 48] r r1 ∧ ∃ (m1 : Nat) (s1 : Nat → Nat), m1 ≤ 200 ∧ zi r1 48 mo 0 = nI m1 ∧ (∀ i, i < m1 → zi r1 147 (ra 47) i = nI (s1 i)) ∧ Ls (nO V) (wt V) m1 s1 := by
  have hN := WB_2 hW
  intro nn
  induction nn with
  | zero => intro t r _ _ hk h; omega
  | succ nn ih =>
    intro t r hM hV hk h m s hm e48 e47 hL
    rw [f_X7_lines_7, rd_35 (ra := ra) (mo := mo), hV, WB_1 hW, iLE (by omega) (by omega)]
    by_cases h1 : tN V ≤ t
    · rw [if_pos h1]
      exact ⟨r, rfl, Fr_rf, m, s, by omega, e48, e47, Ls_c hL (fun x => ⟨fun y => y.2, fun y => ⟨by have := y.1; omega, y⟩⟩)⟩
    · rw [if_neg h1, rd_37 (ra := ra) (mo := mo), hV, if_pos h3]
      have ht : t < tN V := by omega
      simp only [zq_21 hM, zq_27 hM, zq_25 hM, zx_2 (show t < 200 by omega), cl_ (show t < 8000 by omega), rd_21 (ra := ra) (mo := mo), rd_27 (ra := ra) (mo := mo), rd_25 (ra := ra) (mo := mo), hV, zlet, nI_1]
      have SKIP : ¬ wt V t → ∃ r1, f_X7_lines_7 K z mo nn r (nI (t + 1)) = some r1 ∧ Fr [147, 48] r r1 ∧ ∃ (m1 : Nat) (s1 : Nat → Nat), m1 ≤ 200 ∧ zi r1 48 mo 0 = nI m1 ∧ (∀ i, i < m1 → zi r1 147 (ra 47) i = nI (s1 i)) ∧ Ls (nO V) (wt V) m1 s1 := fun hn => ih (t + 1) r hM hV (by omega) (by omega) m s (by omega) e48 e47 (Ls_c hL (fun x => ⟨fun y => ⟨by omega, y.2⟩, fun y => ⟨by
        rcases Nat.lt_or_ge x t with h5 | h5
        · exact h5
        · exact absurd y.2 (by rw [show x = t by omega]; exact hn), y.2⟩⟩))
      by_cases h4 : V.1 21 t = 0
      · rw [if_pos h4]; exact SKIP (fun x => x.2.1 h4)
      · rw [if_neg h4]
        by_cases h5 : V.1 27 t = 0
        · rw [if_pos h5]
          by_cases h6 : V.1 25 t = 0
          · rw [if_pos h6, e48]
            have hw : wt V t := ⟨ht, h4, fun x => x h5, h6⟩
            obtain ⟨r1, k1, g1, g2, g3, g4, g5, g6, g7⟩ := m_lines58 (K := K) (ra := ra) (mo := mo) (z := z) hW hz ht hL (fun x hx => hx.1) hm (f_X7_lines_7 K z mo nn) z m r hM hV (Nat.le_refl _) (by omega) e47 (fun i a b => by omega) (fun i a b => by omega)
            rw [g1, e48, nI_1]
            have hM1 : MS K ra mo (zui (zui r1 147 (ra 47) k1 (nI t)) 48 mo 0 (nI (m + 1))) := MS_zui (MS_zui (Fr_ms g2 hM))
            obtain ⟨r2, a1, a2, a3⟩ := ih (t + 1) (zui (zui r1 147 (ra 47) k1 (nI t)) 48 mo 0 (nI (m + 1))) hM1 (by rw [vw_48, vw_47, Fr_vr g2 (by decide), hV]) (by omega) (by omega) (m + 1) (fun i => if i < k1 then s i else if i = k1 then t else s (i - 1)) (by omega) (by rw [zi_zui, if_pos ⟨rfl, rfl, rfl⟩]) (fun i hi => by
              rw [zi_zui, if_neg (fun x => absurd x.1 (by decide)), zi_zui]
              by_cases b1 : i < k1
              · rw [if_neg (fun x => by omega)]; show _ = nI (if i < k1 then s i else if i = k1 then t else s (i - 1)); rw [if_pos b1]; exact g4 i b1
              · by_cases b2 : i = k1
                · rw [if_pos ⟨rfl, rfl, b2⟩]; show _ = nI (if i < k1 then s i else if i = k1 then t else s (i - 1)); rw [if_neg b1, if_pos b2]
                · rw [if_neg (fun x => b2 x.2.2)]; show _ = nI (if i < k1 then s i else if i = k1 then t else s (i - 1)); rw [if_neg b1, if_neg b2]; exact g5 i (by omega) (by omega))
              (Ls_c (Ls_i hL g3 g6 g7) (fun x => ⟨fun y => by
                rcases y with y | y
                · exact ⟨by have := y.1; omega, y.2⟩
                · rw [y]; exact ⟨by omega, hw⟩, fun y => by
                rcases Nat.lt_or_ge x t with b | b
                · exact Or.inl ⟨b, y.2⟩
                · exact Or.inr (by have := y.1; omega)⟩))
            exact ⟨r2, a1, Fr_tr (Fr_mono g2 (by decide)) (Fr_tr (Fr_tr (Fr_up (by decide)) (Fr_up (by decide))) a2), a3⟩
          · rw [if_neg h6]; exact SKIP (fun x => h6 x.2.2.2)
        · rw [if_neg h5]; exact SKIP (fun x => x.2.2.1 h5)
theorem m_lines (hM : MS K ra mo r) (hV : vr ra mo r = V) (hW : WB V) (hz : 300 ≤ z) (h3 : V.1 37 0 = 3) : ∃ r1, f_X7_lines K z r mo = some r1 ∧ Fr [147, 48] r r1 ∧ ∃ (m1 : Nat) (s1 : Nat → Nat), m1 ≤ 200 ∧ zi r1 48 mo 0 = nI m1 ∧ (∀ i, i < m1 → zi r1 147 (ra 47) i = nI (s1 i)) ∧ Ls (nO V) (wt V) m1 s1 := by
  have hN := WB_2 hW
  unfold f_X7_lines
  rw [zlet]
  obtain ⟨r1, a, b, c⟩ := m_lines7 (K := K) (ra := ra) (mo := mo) (z := z) hW hz h3 z 0 (zui r 48 mo 0 0) hM (by rw [vw_48, hV]) (Nat.zero_le _) (by omega) 0 (fun _ => 0) (Nat.le_refl _) (by rw [zi_zui, if_pos ⟨rfl, rfl, rfl⟩]; rfl) (fun i hi => by omega) ⟨fun i hi => by omega, fun i j a b => by omega, fun t x => by have := x.1; omega⟩
  exact ⟨r1, a, Fr_tr (Fr_up (by decide)) b, c⟩
/-- where nobody is in line -/
theorem m_linesN (hM : MS K ra mo r) (hV : vr ra mo r = V) (hW : WB V) (hz : 300 ≤ z) (h3 : ¬ V.1 37 0 = 3) : ∃ r1, f_X7_lines K z r mo = some r1 ∧ Fr [147, 48] r r1 ∧ zi r1 48 mo 0 = 0 := by
  obtain ⟨y, rfl⟩ : ∃ y, z = y + 1 := ⟨z - 1, by omega⟩
  unfold f_X7_lines
  rw [zlet, f_X7_lines_7]
  have e : zi (zui r 48 mo 0 0) 37 mo 0 = V.1 37 0 := by rw [← hV]; rfl
  refine ⟨zui r 48 mo 0 0, ?_, Fr_up (by decide), by rw [zi_zui, if_pos ⟨rfl, rfl, rfl⟩]⟩
  split
  · rfl
  · rw [e, if_neg h3]
def rkI (V : zV) (t : Nat) : Int := (V.1 11 t).toInt
theorem m_ranks12 (hW : WB V) {t m : Nat} (ht : t < tN V) {s : Nat → Nat} {W : Nat → Prop} (hL : Ls (rkI V) W m s) (hWt : ∀ x, W x → x < t) (hm : m ≤ t) (rec2 : zS → Int32 → Option zS) : ∀ (nn k : Nat) (r : zS), MS K ra mo r → vr ra mo r = V → k ≤ m → k < nn → (∀ i, i < k → zi r 149 (ra 49) i = nI (s i)) → (∀ i, k < i → i ≤ m → zi r 149 (ra 49) i = nI (s (i - 1))) → (∀ i, k ≤ i → i < m → rkI V t < rkI V (s i)) → ∃ (r1 : zS) (k1 : Nat), f_X7_ranks_12 K z mo rec2 nn r (nI t) (nI k) = rec2 (zui r1 149 (ra 49) k1 (nI t)) (nI (t + 1)) ∧ Fr [149] r r1 ∧ k1 ≤ m ∧ (∀ i, i < k1 → zi r1 149 (ra 49) i = nI (s i)) ∧ (∀ i, k1 < i → i ≤ m → zi r1 149 (ra 49) i = nI (s (i - 1))) ∧ (∀ i, k1 ≤ i → i < m → rkI V t < rkI V (s i)) ∧ (∀ i, i < k1 → rkI V (s i) < rkI V t) := by
  have htl : t < 200 := Nat.lt_of_lt_of_le ht (WB_2 hW)
  intro nn
  induction nn with
  | zero => intro k r _ _ hk h; omega
  | succ nn ih =>
    intro k r hM hV hk h h1 h2 h3
    rw [f_X7_ranks_12]
    have STOP : (k = 0 ∨ rkI V (s (k - 1)) < rkI V t) → ∃ (r1 : zS) (k1 : Nat), f_X7_ranks_58 K z mo rec2 (f_X7_ranks_12 K z mo rec2 nn) r (nI t) (nI k) = rec2 (zui r1 149 (ra 49) k1 (nI t)) (nI (t + 1)) ∧ Fr [149] r r1 ∧ k1 ≤ m ∧ (∀ i, i < k1 → zi r1 149 (ra 49) i = nI (s i)) ∧ (∀ i, k1 < i → i ≤ m → zi r1 149 (ra 49) i = nI (s (i - 1))) ∧ (∀ i, k1 ≤ i → i < m → rkI V t < rkI V (s i)) ∧ (∀ i, i < k1 → rkI V (s i) < rkI V t) := by
      intro h4
      refine ⟨r, k, ?_, Fr_rf, hk, h1, h2, h3, Ls_d hL hk h4⟩
      unfold f_X7_ranks_58
      simp only [zq_49 hM, zx_2 (show k < 200 by omega), cl_ (show k < 8000 by omega), zlet, nI_1]
    rcases Nat.eq_zero_or_pos k with h0 | h0
    · subst h0
      rw [if_pos (by decide)]
      exact STOP (Or.inl rfl)
    · obtain ⟨j, rfl⟩ : ∃ j, k = j + 1 := ⟨k - 1, by omega⟩
      have hsj := hL.1 j (by omega)
      have hsjt := hWt _ hsj
      rw [if_neg (nI_nle (by omega) (by omega)), nI_pred]
      simp only [zq_49 hM, zq_11 hM, zx_2 (show j < 200 by omega), zx_2 (show j + 1 < 200 by omega), zx_2 htl, cl_ (show j < 8000 by omega), cl_ (show j + 1 < 8000 by omega), cl_ (show t < 8000 by omega), h1 j (by omega), zx_2 (show s j < 200 by omega), cl_ (show s j < 8000 by omega), rd_11 (ra := ra) (mo := mo), hV, zlet]
      by_cases h4 : V.1 11 (s j) ≤ V.1 11 t
      · rw [if_pos h4]
        refine STOP (Or.inr ?_)
        have h5 := Int32.le_iff_toInt_le.mp h4
        have h6 : (V.1 11 (s j)).toInt ≠ (V.1 11 t).toInt := fun e => WB_20 hW (show s j < tN V by omega) ht (by omega) (Int32.toInt_inj.mp e)
        rw [Nat.add_sub_cancel]
        unfold rkI
        omega
      · rw [if_neg h4, pk_m1]
        have h5 := Int32.lt_iff_toInt_lt.mp (Int32.not_le.mp h4)
        obtain ⟨r1, k1, g1, g2, g3⟩ := ih j (zui r 149 (ra 49) (j + 1) (nI (s j))) hM (by rw [vw_49, hV]) (by omega) (by omega) (fun i hi => by
          rw [zi_zui, if_neg (fun x => by omega)]; exact h1 i (by omega)) (fun i hi1 hi2 => by
          rw [zi_zui]
          by_cases h6 : i = j + 1
          · rw [if_pos ⟨rfl, rfl, h6⟩, h6, Nat.add_sub_cancel]
          · rw [if_neg (fun x => h6 x.2.2)]; exact h2 i (by omega) hi2) (fun i hi1 hi2 => by
          rcases Nat.lt_or_ge j i with h6 | h6
          · exact h3 i h6 hi2
          · rw [show i = j by omega]; exact h5)
        exact ⟨r1, k1, g1, Fr_tr (Fr_up (by decide)) g2, g3⟩
theorem m_ranks2 (hW : WB V) (hz : 300 ≤ z) : ∀ (nn t : Nat) (r : zS), MS K ra mo r → vr ra mo r = V → t ≤ tN V → tN V - t < nn → ∀ (s : Nat → Nat), (∀ i, i < t → zi r 149 (ra 49) i = nI (s i)) → Ls (rkI V) (fun x => x < t) t s → ∃ r1, f_X7_ranks_2 K z mo nn r (nI t) = some r1 ∧ Fr [149] r r1 ∧ ∃ s1 : Nat → Nat, (∀ i, i < tN V → zi r1 149 (ra 49) i = nI (s1 i)) ∧ Ls (rkI V) (fun x => x < tN V) (tN V) s1 := by
  have hN := WB_2 hW
  intro nn
  induction nn with
  | zero => intro t r _ _ hk h; omega
  | succ nn ih =>
    intro t r hM hV hk h s e49 hL
    rw [f_X7_ranks_2, rd_35 (ra := ra) (mo := mo), hV, WB_1 hW, iLE (by omega) (by omega)]
    by_cases h1 : tN V ≤ t
    · have e : t = tN V := by omega
      subst e
      rw [if_pos h1]
      exact ⟨r, rfl, Fr_rf, s, e49, hL⟩
    · rw [if_neg h1]
      have ht : t < tN V := by omega
      obtain ⟨r1, k1, g1, g2, g3, g4, g5, g6, g7⟩ := m_ranks12 (K := K) (ra := ra) (mo := mo) (z := z) hW ht hL (fun x hx => hx) (Nat.le_refl _) (f_X7_ranks_2 K z mo nn) z t r hM hV (Nat.le_refl _) (by omega) e49 (fun i a b => by omega) (fun i a b => by omega)
      rw [g1]
      have hM1 : MS K ra mo (zui r1 149 (ra 49) k1 (nI t)) := MS_zui (Fr_ms g2 hM)
      obtain ⟨r2, a1, a2, a3⟩ := ih (t + 1) (zui r1 149 (ra 49) k1 (nI t)) hM1 (by rw [vw_49, Fr_vr g2 (by decide), hV]) (by omega) (by omega) (fun i => if i < k1 then s i else if i = k1 then t else s (i - 1)) (fun i hi => by
        rw [zi_zui]
        by_cases b1 : i < k1
        · rw [if_neg (fun x => by omega)]; show _ = nI (if i < k1 then s i else if i = k1 then t else s (i - 1)); rw [if_pos b1]; exact g4 i b1
        · by_cases b2 : i = k1
          · rw [if_pos ⟨rfl, rfl, b2⟩]; show _ = nI (if i < k1 then s i else if i = k1 then t else s (i - 1)); rw [if_neg b1, if_pos b2]
          · rw [if_neg (fun x => b2 x.2.2)]; show _ = nI (if i < k1 then s i else if i = k1 then t else s (i - 1)); rw [if_neg b1, if_neg b2]; exact g5 i (by omega) (by omega))
        (Ls_c (Ls_i hL g3 g6 g7) (fun x => ⟨fun y => by
          show x < t + 1
          rcases y with y | y
          · have y2 : x < t := y
            omega
          · omega, fun y => by
          have y2 : x < t + 1 := y
          rcases Nat.lt_or_ge x t with b | b
          · exact Or.inl b
          · exact Or.inr (by omega)⟩))
      exact ⟨r2, a1, Fr_tr g2 (Fr_tr (Fr_up (by decide)) a2), a3⟩
theorem m_ranks (hM : MS K ra mo r) (hV : vr ra mo r = V) (hW : WB V) (hz : 300 ≤ z) : ∃ r1, f_X7_ranks K z r mo = some r1 ∧ Fr [149] r r1 ∧ ∃ s1 : Nat → Nat, (∀ i, i < tN V → zi r1 149 (ra 49) i = nI (s1 i)) ∧ Ls (rkI V) (fun x => x < tN V) (tN V) s1 := by
  have hN := WB_2 hW
  exact m_ranks2 hW hz z 0 r hM hV (Nat.zero_le _) (by omega) (fun _ => 0) (fun i hi => by omega) ⟨fun i hi => by omega, fun i j a b => by omega, fun t x => absurd x (Nat.not_lt_zero _)⟩
end M4
