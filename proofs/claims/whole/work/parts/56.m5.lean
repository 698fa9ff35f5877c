/-! stalls that come and go, the rests, the heirs: by the reference -/
def cmV (V : zV) (t : Nat) (ρ π : Int32) : zV := uV (uV (uV (uV (uV V 27 t 1) 26 t 1) 28 t ρ) 29 t π) 30 t (V.1 39 0)
def feV (V : zV) (t : Nat) : Int32 := if V.1 8 t = 4 then 0 else ((V.1 10 t + 1) / 2) * (if 1 ≤ V.1 39 0 - V.1 30 t then V.1 39 0 - V.1 30 t else 1) * V.1 3 (tr V t)
def goV (V : zV) (t : Nat) : zV := uL (uL (uV V 27 t 0) 34 t (V.2 34 t + Int32.toInt64 (feV V t))) 43 0 (V.2 43 0 + Int32.toInt64 (feV V t))
def rsP (V : zV) (m : Nat) : zV := (fun k x => if (21 ≤ k ∧ k ≤ 26) ∧ x < m then 0 else V.1 k x, V.2)
noncomputable def cs (V : zV) (t : Nat) : Prop := (∃ i, i < 40 ∧ V.1 13 t = nI i ∧ ¬ V.1 1 i ≤ 0) ∧ ¬ outm V t
def cand (V : zV) (F : Int32) (k : Nat) : Prop := V.1 8 k = 1 ∧ ¬ V.1 20 k = 0 ∧ V.1 12 k = 0 ∧ V.1 10 k ≤ F
noncomputable def hrS (V : zV) (F : Int32) : Nat → Option Nat
  | 0 => none
  | k + 1 => cif (cand V F k) (match hrS V F k with
    | none => some k
    | some x => cif (ahU V k x) (some k) (some x)) (hrS V F k)
theorem hrS_b (V : zV) (F : Int32) : ∀ k x, hrS V F k = some x → x < k ∧ cand V F x := by
  intro k
  induction k with
  | zero => intro x h; cases h
  | succ k ih =>
    intro x h
    rw [hrS] at h
    by_cases hc : cand V F k
    · rw [cif_p hc] at h
      cases e : hrS V F k with
      | none => rw [e] at h; cases h; exact ⟨Nat.lt_succ_self _, hc⟩
      | some y =>
        rw [e] at h
        obtain ⟨a, b⟩ := ih y e
        by_cases h2 : ahU V k y
        · have h3 : cif (ahU V k y) (some k) (some y) = some x := h
          rw [cif_p h2] at h3; cases h3; exact ⟨Nat.lt_succ_self _, hc⟩
        · have h3 : cif (ahU V k y) (some k) (some y) = some x := h
          rw [cif_n h2] at h3; cases h3; exact ⟨by omega, b⟩
    · rw [cif_n hc] at h
      obtain ⟨a, b⟩ := ih x h
      exact ⟨by omega, b⟩
def enc : Option Nat → Int32
  | none => -1
  | some x => nI x
def lsA (V : zV) (t : Nat) : zV := uV (uV (uV V 12 t 0) 32 t 0) 41 0 (V.1 41 0 + 1)
def lsH (V : zV) (t h : Nat) : zV := uV (uV (uV (uV (uV (uV (uV V 42 0 (V.1 42 0 + 1)) 8 h 0) 12 h 1) 13 h (V.1 13 t)) 14 h (V.1 14 t)) 11 h (V.1 36 0)) 36 0 (V.1 36 0 + 1)
noncomputable def lsV (V : zV) (t : Nat) : zV := match hrS (lsA V t) (V.1 10 t) (tN V) with
  | none => lsA V t
  | some h => lsH (lsA V t) t h
section M5
variable {K : Nat → Nat} {ra : Nat → Nat} {mo z n : Nat} {r : zS} {V : zV}
theorem m_comes (hM : MS K ra mo r) (hV : vr ra mo r = V) {t : Nat} (ht : t < 200) (ρ π : Int32) : ∃ r1, f_X7_comes K z r mo (nI t) ρ π = some r1 ∧ Fr [127, 126, 128, 129, 130] r r1 ∧ vr ra mo r1 = cmV V t ρ π := by
  have e39 : zi r 39 mo 0 = V.1 39 0 := by rw [← hV]; rfl
  unfold f_X7_comes
  simp only [zlet, zr_zui, zq_27 hM, zq_26 hM, zq_28 hM, zq_29 hM, zq_30 hM, zx_2 ht, cl_ (show t < 8000 by omega)]
  refine ⟨_, rfl, ?_, ?_⟩
  · exact Fr_tr (Fr_tr (Fr_tr (Fr_tr (Fr_up (by decide)) (Fr_up (by decide))) (Fr_up (by decide))) (Fr_up (by decide))) (Fr_up (by decide))
  · rw [vw_30, vw_29, vw_28, vw_26, vw_27, hV, zi_zui, if_neg (fun x => absurd x.1 (by decide)), zi_zui, if_neg (fun x => absurd x.1 (by decide)), zi_zui, if_neg (fun x => absurd x.1 (by decide)), zi_zui, if_neg (fun x => absurd x.1 (by decide)), e39]
    rfl
theorem Fr_thr {S : List Nat} {r r1 : zS} {mo : Nat} (h : Fr S r r1) (hs : 0 ∉ S) : zi r1 0 mo 0 = zi r 0 mo 0 := Fr_zi h hs mo 0
theorem m_goes69 (hM : MS K ra mo r) (hV : vr ra mo r = V) {t : Nat} (ht : t < 200) (w : Int32) : ∃ r1, f_X7_goes_69 K z mo (nI t) r w = some (w, r1) ∧ MS K ra mo r1 ∧ vr ra mo r1 = uL (uL (uV V 27 t 0) 34 t (V.2 34 t + Int32.toInt64 w)) 43 0 (V.2 43 0 + Int32.toInt64 w) ∧ zi r1 0 mo 0 = zi r 0 mo 0 := by
  have e34 : ∀ j, zl r 134 (ra 34) j = V.2 34 j := fun j => by rw [← hV]; rfl
  have e43 : zl r 43 mo 0 = V.2 43 0 := by rw [← hV]; rfl
  unfold f_X7_goes_69
  simp only [zlet, zr_zui, zr_zul, zq_27 hM, zq_34 hM, zx_2 ht, cl_ (show t < 8000 by omega), zl_zui]
  refine ⟨_, rfl, hM, ?_, ?_⟩
  · rw [vw_43, vr_al, vw_27, hV, zl_zul, if_neg (fun x => absurd x.1 (by decide)), zl_zui, e34, e43]
  · rw [zi_zul, zi_zul, zi_zui, if_neg (fun x => absurd x.1 (by decide))]
theorem m_goes (hM : MS K ra mo r) (hV : vr ra mo r = V) (hW : WB V) {t : Nat} (ht : t < tN V) : ∃ r1, f_X7_goes K z r mo (nI t) = some (feV V t, r1) ∧ MS K ra mo r1 ∧ vr ra mo r1 = goV V t ∧ zi r1 0 mo 0 = zi r 0 mo 0 := by
  have htl : t < 200 := Nat.lt_of_lt_of_le ht (WB_2 hW)
  obtain ⟨t1, t2⟩ := WB_5 hW ht
  have hr := WB_4 hW
  have k30 : ∀ w : Int32, f_X7_goes_30 K z mo (nI t) r w = f_X7_goes_69 K z mo (nI t) r (if V.1 8 t = 4 then 0 else ((V.1 10 t + 1) / 2) * w * V.1 3 (tr V t)) := by
    intro w
    unfold f_X7_goes_30
    simp only [zq_8 hM, zq_10 hM, zq_3 hM, zq_9 hM, zx_2 htl, cl_ (show t < 8000 by omega), rd_8 (ra := ra) (mo := mo), rd_10 (ra := ra) (mo := mo), rd_9 (ra := ra) (mo := mo), rd_3 (ra := ra) (mo := mo), hV, t1, zx_20 (show tr V t < 20 by omega), cl_ (show tr V t < 8000 by omega)]
    by_cases h : V.1 8 t = 4
    · rw [if_pos h, if_pos h]
    · rw [if_neg h, if_neg h]
  unfold f_X7_goes
  simp only [zq_30 hM, zx_2 htl, cl_ (show t < 8000 by omega), rd_30 (ra := ra) (mo := mo), rd_39 (ra := ra) (mo := mo), hV, k30]
  by_cases h : 1 ≤ V.1 39 0 - V.1 30 t
  · rw [if_pos h]
    have e : feV V t = (if V.1 8 t = 4 then 0 else ((V.1 10 t + 1) / 2) * (V.1 39 0 - V.1 30 t) * V.1 3 (tr V t)) := by rw [feV, if_pos h]
    rw [← e]
    exact m_goes69 hM hV htl _
  · rw [if_neg h]
    have e : feV V t = (if V.1 8 t = 4 then 0 else ((V.1 10 t + 1) / 2) * 1 * V.1 3 (tr V t)) := by rw [feV, if_neg h]
    rw [← e]
    exact m_goes69 hM hV htl _
theorem rsP_s (V : zV) (m : Nat) : uV (uV (uV (uV (uV (uV (rsP V m) 21 m 0) 22 m 0) 23 m 0) 24 m 0) 25 m 0) 26 m 0 = rsP V (m + 1) := by
  refine zV_ext (fun k x => ?_) (fun _ _ => rfl)
  rw [uV_1, uV_1, uV_1, uV_1, uV_1, uV_1]
  show (if k = 26 ∧ x = m then (0 : Int32) else if k = 25 ∧ x = m then 0 else if k = 24 ∧ x = m then 0 else if k = 23 ∧ x = m then 0 else if k = 22 ∧ x = m then 0 else if k = 21 ∧ x = m then 0 else if (21 ≤ k ∧ k ≤ 26) ∧ x < m then 0 else V.1 k x) = if (21 ≤ k ∧ k ≤ 26) ∧ x < m + 1 then 0 else V.1 k x
  by_cases h : (21 ≤ k ∧ k ≤ 26) ∧ x < m + 1
  · rw [if_pos h]
    repeat' split
    all_goals first | rfl | (exfalso; omega)
  · rw [if_neg h]
    repeat' split
    all_goals first | rfl | (exfalso; omega)
theorem m_rests2 : ∀ (nn m : Nat) (r : zS), MS K ra mo r → vr ra mo r = rsP V m → m ≤ 200 → 200 - m < nn → ∃ r1, f_X7_rests_2 K z mo nn r (nI m) = some r1 ∧ MS K ra mo r1 ∧ vr ra mo r1 = rsP V 200 ∧ zi r1 0 mo 0 = zi r 0 mo 0 := by
  intro nn
  induction nn with
  | zero => intro m r _ _ hk h; omega
  | succ nn ih =>
    intro m r hM hV hk h
    rw [f_X7_rests_2, n200, iLE (by omega) (by omega)]
    by_cases h1 : 200 ≤ m
    · rw [if_pos h1]
      exact ⟨r, rfl, hM, by rw [hV, show m = 200 by omega], rfl⟩
    · rw [if_neg h1]
      simp only [zlet, zr_zui, zq_21 hM, zq_22 hM, zq_23 hM, zq_24 hM, zq_25 hM, zq_26 hM, zx_2 (show m < 200 by omega), cl_ (show m < 8000 by omega), nI_1]
      obtain ⟨r1, g1, g2, g3, g4⟩ := ih (m + 1) (zui (zui (zui (zui (zui (zui r 121 (ra 21) m 0) 122 (ra 22) m 0) 123 (ra 23) m 0) 124 (ra 24) m 0) 125 (ra 25) m 0) 126 (ra 26) m 0) hM (by rw [vw_26, vw_25, vw_24, vw_23, vw_22, vw_21, hV, rsP_s]) (by omega) (by omega)
      refine ⟨r1, g1, g2, g3, ?_⟩
      rw [g4, zi_zui, if_neg (fun x => absurd x.1 (by decide)), zi_zui, if_neg (fun x => absurd x.1 (by decide)), zi_zui, if_neg (fun x => absurd x.1 (by decide)), zi_zui, if_neg (fun x => absurd x.1 (by decide)), zi_zui, if_neg (fun x => absurd x.1 (by decide)), zi_zui, if_neg (fun x => absurd x.1 (by decide))]
theorem rsP_0 (V : zV) : rsP V 0 = V := zV_ext (fun k x => if_neg (fun h => by omega)) (fun _ _ => rfl)
theorem m_rests (hM : MS K ra mo r) (hV : vr ra mo r = V) (hz : 300 ≤ z) : ∃ r1, f_X7_rests K z r mo = some r1 ∧ MS K ra mo r1 ∧ vr ra mo r1 = rsP V 200 ∧ zi r1 0 mo 0 = zi r 0 mo 0 :=
  m_rests2 z 0 r hM (by rw [rsP_0, hV]) (by omega) (by omega)
theorem m_couldStand (hM : MS K ra mo r) (hV : vr ra mo r = V) (hW : WB V) {t : Nat} (ht : t < tN V) : f_X7_couldStand K z r mo (nI t) = some (oi (cs V t)) := by
  have htl : t < 200 := Nat.lt_of_lt_of_le ht (WB_2 hW)
  unfold f_X7_couldStand
  simp only [zq_13 hM, zx_2 htl, cl_ (show t < 8000 by omega), rd_13 (ra := ra) (mo := mo), hV]
  rcases in_of (p := V.1 13 t) (N := 40) (n := 40) rfl (by decide) with ⟨i, hi, ei⟩ | h
  · rw [ei, m_isRow hM hV hi, zb_s]
    by_cases h1 : V.1 1 i ≤ 0
    · rw [if_pos h1, if_pos rfl, oi_n]
      rintro ⟨⟨i', hi', ei', h2⟩, -⟩
      have : i' = i := ((nI_eq (by omega) (by omega)).mp (ei.symm.trans ei')).symm
      subst this
      exact h2 h1
    · rw [if_neg h1, if_neg (by decide), m_outm hM hV hW ht, zb_s]
      by_cases h2 : outm V t
      · rw [oi_p h2, if_neg (by decide), oi_n (fun x => x.2 h2)]
      · rw [oi_n h2, if_pos rfl, oi_p ⟨⟨i, hi, ei, h1⟩, h2⟩]
  · rw [m_isRowO h, zb_s, if_pos rfl, oi_n]
    rintro ⟨⟨i', hi', ei', h2⟩, -⟩
    exact no_row h hi' ei'
theorem enc_neg (x : Option Nat) (hx : ∀ y, x = some y → y < 200) : (enc x < 0) = (x = none) := by
  cases x with
  | none => exact propext ⟨fun _ => rfl, fun _ => by decide⟩
  | some y => exact propext ⟨fun h => absurd h (nI_pos (by have := hx y rfl; omega)), fun h => by cases h⟩
theorem m_heir4 (hM : MS K ra mo r) (hV : vr ra mo r = V) (hW : WB V) (hz : 300 ≤ z) {t : Nat} (ht : t < tN V) : ∀ (nn k : Nat), k ≤ tN V → tN V - k < nn → f_X7_heir_4 K z r mo (nI t) nn (enc (hrS V (V.1 10 t) k)) (nI k) = some (enc (hrS V (V.1 10 t) (tN V))) := by
  have htl : t < 200 := Nat.lt_of_lt_of_le ht (WB_2 hW)
  have hN := WB_2 hW
  intro nn
  induction nn with
  | zero => intro k hk h; omega
  | succ nn ih =>
    intro k hk h
    rw [f_X7_heir_4, rd_35 (ra := ra) (mo := mo), hV, WB_1 hW, iLE (by omega) (by omega)]
    by_cases h1 : tN V ≤ k
    · rw [if_pos h1, show k = tN V by omega]
    · rw [if_neg h1]
      have hk2 : k < 200 := by omega
      have ih1 := ih (k + 1) (by omega) (by omega)
      rw [hrS] at ih1
      simp only [zq_8 hM, zq_20 hM, zq_12 hM, zq_10 hM, zx_2 hk2, zx_2 htl, cl_ (show k < 8000 by omega), cl_ (show t < 8000 by omega), rd_8 (ra := ra) (mo := mo), rd_20 (ra := ra) (mo := mo), rd_12 (ra := ra) (mo := mo), rd_10 (ra := ra) (mo := mo), hV, zlet, nI_1]
      by_cases c1 : V.1 8 k = 1
      · rw [if_pos c1]
        by_cases c2 : V.1 20 k = 0
        · rw [if_pos c2]
          rw [cif_n (fun x => x.2.1 c2)] at ih1
          exact ih1
        · rw [if_neg c2]
          by_cases c3 : V.1 12 k = 0
          · rw [if_pos c3]
            by_cases c4 : V.1 10 k ≤ V.1 10 t
            · rw [if_pos c4, iP (enc_neg _ (fun y hy => by have := (hrS_b _ _ _ _ hy).1; omega))]
              rw [cif_p ⟨c1, c2, c3, c4⟩] at ih1
              cases e : hrS V (V.1 10 t) k with
              | none =>
                rw [e] at ih1
                rw [if_pos rfl]
                exact ih1
              | some y =>
                rw [e] at ih1
                have hy := (hrS_b _ _ _ _ e).1
                rw [if_neg (fun x => by cases x)]
                show zb (f_X7_isAhead K z r mo (nI k) (nI y)) _ = _
                rw [m_isAhead hM hV hW hz (show k < tN V by omega) (show y < tN V by omega), zb_s]
                by_cases c5 : ahU V k y
                · have ih2 : f_X7_heir_4 K z r mo (nI t) nn (enc (cif (ahU V k y) (some k) (some y))) (nI (k + 1)) = _ := ih1
                  rw [cif_p c5] at ih2
                  rw [oi_p c5, if_neg (by decide)]
                  exact ih2
                · have ih2 : f_X7_heir_4 K z r mo (nI t) nn (enc (cif (ahU V k y) (some k) (some y))) (nI (k + 1)) = _ := ih1
                  rw [cif_n c5] at ih2
                  rw [oi_n c5, if_pos rfl]
                  exact ih2
            · rw [if_neg c4]
              rw [cif_n (fun x => c4 x.2.2.2)] at ih1
              exact ih1
          · rw [if_neg c3]
            rw [cif_n (fun x => c3 x.2.2.1)] at ih1
            exact ih1
      · rw [if_neg c1]
        rw [cif_n (fun x => c1 x.1)] at ih1
        exact ih1
theorem m_heir (hM : MS K ra mo r) (hV : vr ra mo r = V) (hW : WB V) (hz : 300 ≤ z) {t : Nat} (ht : t < tN V) : f_X7_heir K z r mo (nI t) = some (enc (hrS V (V.1 10 t) (tN V))) := by
  have hN := WB_2 hW
  exact m_heir4 hM hV hW hz ht z 0 (Nat.zero_le _) (by omega)
theorem lsA_W (hW : WB V) {t : Nat} (ht : t < tN V) : WB (lsA V t) := by
  have E : ∀ k, k ≠ 12 → k ≠ 32 → k ≠ 41 → (lsA V t).1 k = V.1 k := fun k h1 h2 h3 => by unfold lsA; rw [uV_o h3, uV_o h2, uV_o h1]
  have e2 : (lsA V t).2 = V.2 := rfl
  obtain ⟨w1, w2, w3, w4, w5, w6, w7, w8, w9, w10, w11, w12, w13, w18, w20, w22, w23, w24⟩ := hW
  refine ⟨W1_c (E 35 (by decide) (by decide) (by decide)) w1, W2_c (E 35 (by decide) (by decide) (by decide)) w2, W3_c (E 7 (by decide) (by decide) (by decide)) w3, W4_c (E 7 (by decide) (by decide) (by decide)) w4, W5_c (E 7 (by decide) (by decide) (by decide)) (E 9 (by decide) (by decide) (by decide)) (E 35 (by decide) (by decide) (by decide)) w5, W6_c (E 10 (by decide) (by decide) (by decide)) (E 35 (by decide) (by decide) (by decide)) w6, W7_c (E 1 (by decide) (by decide) (by decide)) w7, W8_c (E 2 (by decide) (by decide) (by decide)) w8, W9_c (E 6 (by decide) (by decide) (by decide)) w9, W10_c (E 5 (by decide) (by decide) (by decide)) w10, W11_c (E 1 (by decide) (by decide) (by decide)) (E 10 (by decide) (by decide) (by decide)) (E 27 (by decide) (by decide) (by decide)) (E 28 (by decide) (by decide) (by decide)) (E 29 (by decide) (by decide) (by decide)) (E 35 (by decide) (by decide) (by decide)) w11, W12_c (E 10 (by decide) (by decide) (by decide)) (E 27 (by decide) (by decide) (by decide)) (E 28 (by decide) (by decide) (by decide)) (E 29 (by decide) (by decide) (by decide)) (E 35 (by decide) (by decide) (by decide)) w12, W13_c (E 21 (by decide) (by decide) (by decide)) (E 23 (by decide) (by decide) (by decide)) (E 35 (by decide) (by decide) (by decide)) w13, ?_, W20_c (E 11 (by decide) (by decide) (by decide)) (E 35 (by decide) (by decide) (by decide)) w20, W22_c (E 18 (by decide) (by decide) (by decide)) (E 35 (by decide) (by decide) (by decide)) w22, ?_, W24_c (E 6 (by decide) (by decide) (by decide)) (E 7 (by decide) (by decide) (by decide)) w24⟩
  · intro a ha
    obtain ⟨h1, h2⟩ := w18 a ha
    rw [E 31 (by decide) (by decide) (by decide)]
    refine ⟨h1, ?_⟩
    unfold lsA
    rw [uV_o (by decide)]
    by_cases h3 : a = t
    · exact ⟨0, by omega, by rw [h3, uV_s]; rfl⟩
    · rw [uV_t h3, uV_o (by decide)]; exact h2
  · intro a ha h2
    have ha2 : tN V ≤ a := ha
    have h := w23 a ha2 h2
    have hne : a ≠ t := by omega
    have e12 : (lsA V t).1 12 a = V.1 12 a := by unfold lsA; rw [uV_o (by decide), uV_o (by decide), uV_t hne]
    have e32 : (lsA V t).1 32 a = V.1 32 a := by unfold lsA; rw [uV_o (by decide), uV_t hne, uV_o (by decide)]
    rw [e12, e32, e2, E 13 (by decide) (by decide) (by decide), E 14 (by decide) (by decide) (by decide), E 18 (by decide) (by decide) (by decide), E 19 (by decide) (by decide) (by decide), E 20 (by decide) (by decide) (by decide), E 21 (by decide) (by decide) (by decide), E 22 (by decide) (by decide) (by decide), E 23 (by decide) (by decide) (by decide), E 24 (by decide) (by decide) (by decide), E 25 (by decide) (by decide) (by decide), E 26 (by decide) (by decide) (by decide), E 27 (by decide) (by decide) (by decide), E 28 (by decide) (by decide) (by decide), E 29 (by decide) (by decide) (by decide), E 30 (by decide) (by decide) (by decide), E 31 (by decide) (by decide) (by decide), E 16 (by decide) (by decide) (by decide), E 17 (by decide) (by decide) (by decide)]
    exact h
theorem m_loses (hM : MS K ra mo r) (hV : vr ra mo r = V) (hW : WB V) (hz : 300 ≤ z) {t : Nat} (ht : t < tN V) : ∃ r1, f_X7_loses K z r mo (nI t) = some r1 ∧ MS K ra mo r1 ∧ vr ra mo r1 = lsV V t ∧ zi r1 0 mo 0 = zi r 0 mo 0 ∧ (∀ j, zi r1 149 (ra 49) j = zi r 149 (ra 49) j) ∧ ∀ j, zi r1 150 (ra 50) j = zi r 150 (ra 50) j := by
  have htl : t < 200 := Nat.lt_of_lt_of_le ht (WB_2 hW)
  have hN := WB_2 hW
  have e41 : zi r 41 mo 0 = V.1 41 0 := by rw [← hV]; rfl
  have hVA : vr ra mo (zui (zui (zui r 112 (ra 12) t 0) 132 (ra 32) t 0) 41 mo 0 (zi r 41 mo 0 + 1)) = lsA V t := by rw [vw_41, vw_32, vw_12, hV, e41]; rfl
  have hMA : MS K ra mo (zui (zui (zui r 112 (ra 12) t 0) 132 (ra 32) t 0) 41 mo 0 (zi r 41 mo 0 + 1)) := hM
  have hWA := lsA_W hW ht
  have eN : tN (lsA V t) = tN V := rfl
  have e10 : (lsA V t).1 10 = V.1 10 := rfl
  have hh := m_heir (z := z) hMA hVA hWA hz (t := t) (by rw [eN]; exact ht)
  rw [e10, eN] at hh
  have e41b : zi (zui (zui r 112 (ra 12) t 0) 132 (ra 32) t 0) 41 mo 0 = zi r 41 mo 0 := by rw [zi_zui, if_neg (fun x => absurd x.1 (by decide)), zi_zui, if_neg (fun x => absurd x.1 (by decide))]
  unfold f_X7_loses lsV
  simp only [zlet, zr_zui, zq_12 hM, zq_32 hM, zx_2 htl, cl_ (show t < 8000 by omega), e41b, hh, zb_s]
  generalize hrA : zui (zui (zui r 112 (ra 12) t 0) 132 (ra 32) t 0) 41 mo 0 (zi r 41 mo 0 + 1) = rA at *
  have t0 : zi rA 0 mo 0 = zi r 0 mo 0 := by rw [← hrA, zi_zui, if_neg (fun x => absurd x.1 (by decide)), zi_zui, if_neg (fun x => absurd x.1 (by decide)), zi_zui, if_neg (fun x => absurd x.1 (by decide))]
  have t1 : ∀ j, zi rA 149 (ra 49) j = zi r 149 (ra 49) j := fun j => by rw [← hrA, zi_zui, if_neg (fun x => absurd x.1 (by decide)), zi_zui, if_neg (fun x => absurd x.1 (by decide)), zi_zui, if_neg (fun x => absurd x.1 (by decide))]
  have t2 : ∀ j, zi rA 150 (ra 50) j = zi r 150 (ra 50) j := fun j => by rw [← hrA, zi_zui, if_neg (fun x => absurd x.1 (by decide)), zi_zui, if_neg (fun x => absurd x.1 (by decide)), zi_zui, if_neg (fun x => absurd x.1 (by decide))]
  cases e : hrS (lsA V t) (V.1 10 t) (tN V) with
  | none =>
    show ∃ r1, (if (0 : Int32) ≤ -1 then _ else some rA) = some r1 ∧ _
    rw [if_neg m1_lt]
    exact ⟨rA, rfl, hMA, hVA, t0, t1, t2⟩
  | some h =>
    have hhl := (hrS_b _ _ _ _ e).1
    have hh2 : h < 200 := by omega
    show ∃ r1, (if (0 : Int32) ≤ nI h then _ else some rA) = some r1 ∧ _
    rw [if_pos (nI_pos' (by omega))]
    have a42 : zi rA 42 mo 0 = (lsA V t).1 42 0 := by rw [← hVA]; rfl
    have a36 : zi rA 36 mo 0 = (lsA V t).1 36 0 := by rw [← hVA]; rfl
    have a13 : zi rA 113 (ra 13) t = (lsA V t).1 13 t := by rw [← hVA]; rfl
    have a14 : zi rA 114 (ra 14) t = (lsA V t).1 14 t := by rw [← hVA]; rfl
    simp only [enc, zr_zui, zq_8 hM, zq_12 hM, zq_13 hM, zq_14 hM, zq_11 hM, zx_2 htl, zx_2 hh2, cl_ (show t < 8000 by omega), cl_ (show h < 8000 by omega), zi_zui, Nat.reduceEqDiff, false_and, reduceIte, a42, a36, a13, a14]
    refine ⟨_, rfl, hMA, ?_, ?_, ?_, ?_⟩
    · rw [vw_36, vw_11, vw_14, vw_13, vw_12, vw_8, vw_42, hVA]; rfl
    · simp only [zi_zui, Nat.reduceEqDiff, false_and, reduceIte]; exact t0
    · intro j; simp only [zi_zui, Nat.reduceEqDiff, false_and, reduceIte]; exact t1 j
    · intro j; simp only [zi_zui, Nat.reduceEqDiff, false_and, reduceIte]; exact t2 j
end M5
