noncomputable def cntV (V : zV) (p : Int32) : Int64 := if p = 0 then Int32.toInt64 (V.1 7 0) else if p = 1 then Int32.toInt64 (V.1 35 0) else if p = 2 then Int32.toInt64 (V.1 37 0) else if p = 3 then Int32.toInt64 (V.1 40 0) else if p = 4 then Int32.toInt64 (V.1 39 0) else if p = 5 then Int32.toInt64 (nI (cn (fun o => st V o) (tN V))) else if p = 6 then V.2 43 0 - V.2 44 0 else if p = 7 then V.2 43 0 else if p = 8 then V.2 44 0 else if p = 9 then Int32.toInt64 (V.1 41 0) else if p = 10 then Int32.toInt64 (V.1 42 0) else -1
section CT
variable {K : Nat → Nat} {A : Nat → Nat → Nat} {ra : Nat → Nat} {c r : zS} {V : zV} {ms mo z : Nat}
theorem m_cnt98 (hM : MS K ra mo r) (hV : vr ra mo r = V) (hW : WB V) (p1 : Int32) : ∀ (nn k : Nat), k ≤ tN V → tN V - k < nn → f_X7_count_98 K z mo p1 nn r (nI (cn (fun o => st V o) k)) (nI k) = some (Int32.toInt64 (nI (cn (fun o => st V o) (tN V))), r) := by
  have hN := WB_2 hW
  intro nn
  induction nn with
  | zero => intro k hk h; omega
  | succ nn ih =>
    intro k hk h
    rw [f_X7_count_98, rd_35 (ra := ra) (mo := mo), hV, WB_1 hW, iLE (by omega) (by omega)]
    by_cases h1 : tN V ≤ k
    · rw [if_pos h1, show k = tN V by omega]
    · have ih1 := ih (k + 1) (by omega) (by omega)
      rw [cn] at ih1
      rw [if_neg h1, zq_27 hM, zx_2 (by omega), cl_ (by omega), rd_27 (ra := ra) (mo := mo), hV]
      unfold f_X7_one
      by_cases h2 : V.1 27 k = 0
      · rw [if_pos h2, zb_s, zlet, zlet, Int32.add_zero, nI_1]
        rw [cif_n (fun x => x h2), Nat.add_zero] at ih1
        exact ih1
      · rw [if_neg h2, zb_s, zlet, zlet, nI_1, nI_1]
        rw [cif_p (show st V k from h2)] at ih1
        exact ih1
theorem m_count (hM : MS K ra mo r) (hV : vr ra mo r = V) (hW : WB V) (hz : 300 ≤ z) (p1 : Int32) : f_X7_count K z r mo p1 = some (cntV V p1, zui r 0 mo 0 0) := by
  have hN := WB_2 hW
  have hV1 : vr ra mo (zui r 0 mo 0 0) = V := by rw [vw_0, hV]
  have hM1 : MS K ra mo (zui r 0 mo 0 0) := hM
  have e5 := m_cnt98 (z := z) hM1 hV1 hW p1 z 0 (Nat.zero_le _) (by omega)
  have e5' : f_X7_count_98 K z mo p1 z (zui r 0 mo 0 0) 0 0 = some (Int32.toInt64 (nI (cn (fun o => st V o) (tN V))), zui r 0 mo 0 0) := e5
  unfold f_X7_count cntV
  rw [zlet, e5', rd_7 (ra := ra) (mo := mo), rd_35 (ra := ra) (mo := mo), rd_37 (ra := ra) (mo := mo), rd_40 (ra := ra) (mo := mo), rd_39 (ra := ra) (mo := mo), rd_43 (ra := ra) (mo := mo), rd_44 (ra := ra) (mo := mo), rd_41 (ra := ra) (mo := mo), rd_42 (ra := ra) (mo := mo), hV1]
  by_cases c0 : p1 = 0
  · rw [if_pos c0, if_pos c0]
  rw [if_neg c0, if_neg c0]
  by_cases c1 : p1 = 1
  · rw [if_pos c1, if_pos c1]
  rw [if_neg c1, if_neg c1]
  by_cases c2 : p1 = 2
  · rw [if_pos c2, if_pos c2]
  rw [if_neg c2, if_neg c2]
  by_cases c3 : p1 = 3
  · rw [if_pos c3, if_pos c3]
  rw [if_neg c3, if_neg c3]
  by_cases c4 : p1 = 4
  · rw [if_pos c4, if_pos c4]
  rw [if_neg c4, if_neg c4]
  by_cases c5 : p1 = 5
  · rw [if_pos c5, if_pos c5]
  rw [if_neg c5, if_neg c5]
  by_cases c6 : p1 = 6
  · rw [if_pos c6, if_pos c6]
  rw [if_neg c6, if_neg c6]
  by_cases c7 : p1 = 7
  · rw [if_pos c7, if_pos c7]
  rw [if_neg c7, if_neg c7]
  by_cases c8 : p1 = 8
  · rw [if_pos c8, if_pos c8]
  rw [if_neg c8, if_neg c8]
  by_cases c9 : p1 = 9
  · rw [if_pos c9, if_pos c9]
  rw [if_neg c9, if_neg c9]
  by_cases c10 : p1 = 10
  · rw [if_pos c10, if_pos c10]
  rw [if_neg c10, if_neg c10]
theorem k_count (h : RC K A c V ms) (p1 : Int32) : f_X6_count K z c ms p1 = some (cntV V p1) := by
  obtain ⟨a1, a2, a3, a4, a5, a6, a7, a8, a9, a10, a11⟩ := C10 h
  unfold f_X6_count cntV
  rw [a1, a2, a4, a5, a7, a8, a9, a10, a11, (C12 h).1]
  by_cases c0 : p1 = 0
  · rw [if_pos c0, if_pos c0]
  rw [if_neg c0, if_neg c0]
  by_cases c1 : p1 = 1
  · rw [if_pos c1, if_pos c1]
  rw [if_neg c1, if_neg c1]
  by_cases c2 : p1 = 2
  · rw [if_pos c2, if_pos c2]
  rw [if_neg c2, if_neg c2]
  by_cases c3 : p1 = 3
  · rw [if_pos c3, if_pos c3]
  rw [if_neg c3, if_neg c3]
  by_cases c4 : p1 = 4
  · rw [if_pos c4, if_pos c4]
  rw [if_neg c4, if_neg c4]
  by_cases c5 : p1 = 5
  · rw [if_pos c5, if_pos c5]
  rw [if_neg c5, if_neg c5]
  by_cases c6 : p1 = 6
  · rw [if_pos c6, if_pos c6]
  rw [if_neg c6, if_neg c6]
  by_cases c7 : p1 = 7
  · rw [if_pos c7, if_pos c7]
  rw [if_neg c7, if_neg c7]
  by_cases c8 : p1 = 8
  · rw [if_pos c8, if_pos c8]
  rw [if_neg c8, if_neg c8]
  by_cases c9 : p1 = 9
  · rw [if_pos c9, if_pos c9]
  rw [if_neg c9, if_neg c9]
  by_cases c10 : p1 = 10
  · rw [if_pos c10, if_pos c10]
  rw [if_neg c10, if_neg c10]
end CT

section SX
variable {ra : Nat → Nat} {ms mo ou z : Nat}
theorem s_29 (hz : 8100 ≤ z) : S_29 (IN ms mo ou ra) z ms mo ou := by
  intro n K L c r p1 hn hI
  obtain ⟨q1, q2, q3, A, h, hW, hM⟩ := hI
  generalize hV : vr ra mo r = V at h hW
  have hB := hW.1
  have hM1 : MS K ra mo (zui r 0 mo 0 0) := hM
  have hV1 : vr ra mo (zui r 0 mo 0 0) = V := by rw [vw_0, hV]
  have hT1 : zi (zui r 0 mo 0 0) 37 mo 0 = V.1 37 0 := by rw [← hV1]; rfl
  have t01 : zi (zui r 0 mo 0 0) 0 mo 0 = 0 := zi_thr
  have hW1 : WV (400 * (n + 1)) V := WV_mono (by omega) hW
  have THR : ∀ e : Int32, IN ms mo ou ra (n + 1) K L c (zui (zui r 0 mo 0 0) 0 mo 0 e) := fun e => IN_mk q1 q2 q3 h hW1 hM (by rw [vw_0, hV1])
  exact ⟨cntV V p1, k_count h p1, cntV V p1, _, m_count hM hV hB (by omega) p1, rfl, IN_mk q1 q2 q3 h hW1 hM1 hV1⟩

end SX

def lookV (V : zV) (t : Nat) (p : Int32) : Int32 := if p = 0 then V.1 8 t else if p = 1 then V.1 9 t else if p = 2 then V.1 10 t else if p = 3 then V.1 11 t else if p = 4 then (if V.1 12 t = 0 then -1 else 200 * V.1 13 t + V.1 14 t) else if p = 5 then (if V.1 27 t = 0 then -1 else 200 * V.1 28 t + V.1 29 t) else if p = 6 then (if V.1 21 t = 0 then 0 else 1) else if p = 7 then (if V.1 22 t = 0 then 0 else if V.1 21 t = 0 then 1 else 0) else if p = 8 then (if V.1 23 t = 0 then 0 else 1) else if p = 9 then (if V.1 24 t = 0 then 0 else 1) else if p = 10 then (if V.1 25 t = 0 then 0 else 1) else if p = 11 then bcv (V.1 31 t) else if p = 12 then V.1 33 t else if p = 13 then bcv (V.1 32 t) else if p = 14 then V.1 18 t else if p = 15 then (if V.1 19 t = 0 then 0 else 1) else if p = 16 then (if V.1 20 t = 0 then 0 else 1) else 0

section LK
variable {K : Nat → Nat} {A : Nat → Nat → Nat} {ra : Nat → Nat} {c r : zS} {V : zV} {ms mo z : Nat}
theorem m_one (x : Int32) : f_X7_one K z r x = some (if x = 0 then 0 else 1) := by
  unfold f_X7_one
  split <;> rfl
def no17 (p : Int32) : Prop := ¬ (p = 0 ∨ p = 1 ∨ p = 2 ∨ p = 3 ∨ p = 4 ∨ p = 5 ∨ p = 6 ∨ p = 7 ∨ p = 8 ∨ p = 9 ∨ p = 10 ∨ p = 11 ∨ p = 12 ∨ p = 13 ∨ p = 14 ∨ p = 15 ∨ p = 16)
theorem k_look (h : RC K A c V ms) (hW : WB V) {t : Nat} (ht : t < tN V) {p2 : Int32} (h17 : ¬ no17 p2) : f_X6_look K z c ms (nI t) p2 = some (.inl (lookV V t p2)) := by
  unfold f_X6_look lookV
  rw [k_trIn h hW ht, zt_l, zn_s (K4 h ht)]
  by_cases c0 : p2 = 0
  · rw [if_pos c0, if_pos c0]
    rw [rt_86_4 h ht]
  rw [if_neg c0, if_neg c0]
  by_cases c1 : p2 = 1
  · rw [if_pos c1, if_pos c1]
    rw [kn_81 h hW ht, (C8 h _ (WB_5 hW ht).2).1, (WB_5 hW ht).1]
  rw [if_neg c1, if_neg c1]
  by_cases c2 : p2 = 2
  · rw [if_pos c2, if_pos c2]
    rw [rt_82_4 h ht]
  rw [if_neg c2, if_neg c2]
  by_cases c3 : p2 = 3
  · rw [if_pos c3, if_pos c3]
    rw [rt_87_4 h ht]
  rw [if_neg c3, if_neg c3]
  by_cases c4 : p2 = 4
  · rw [if_pos c4, if_pos c4]
    rw [kn_83 h ht]
    unfold f_X1_code
    rw [rt_20_5 h ht, rt_21_5 h ht, rt_22_5 h ht]
    by_cases d : V.1 12 t = 0
    · rw [if_pos d, if_pos d, zb_s]
    · rw [if_neg d, if_neg d, zb_s, Int32.mul_comm]
  rw [if_neg c4, if_neg c4]
  by_cases c5 : p2 = 5
  · rw [if_pos c5, if_pos c5]
    rw [kn_85 h ht, kn_40 h ht]
    unfold f_X1_code
    rw [rt_20_10 h ht, rt_21_10 h ht, rt_22_10 h ht]
    by_cases d : V.1 27 t = 0
    · rw [if_pos d, if_pos d, zb_s]
    · rw [if_neg d, if_neg d, zb_s, Int32.mul_comm]
  rw [if_neg c5, if_neg c5]
  by_cases c6 : p2 = 6
  · rw [if_pos c6, if_pos c6]
    rw [kn_85 h ht, rt_42_9 h ht, k_oneIf, zb_s]
  rw [if_neg c6, if_neg c6]
  by_cases c7 : p2 = 7
  · rw [if_pos c7, if_pos c7]
    rw [kn_85 h ht, (C9 h t ht).2.1, k_oneIf, zb_s]
    by_cases d : V.1 21 t = 0
    · rw [if_pos d, if_pos d]
    · rw [if_neg d, if_pos rfl, if_neg d]
      by_cases d2 : V.1 22 t = 0
      · rw [if_pos d2]
      · rw [if_neg d2]
  rw [if_neg c7, if_neg c7]
  by_cases c8 : p2 = 8
  · rw [if_pos c8, if_pos c8]
    rw [kn_85 h ht, rt_44_9 h ht, k_oneIf, zb_s]
  rw [if_neg c8, if_neg c8]
  by_cases c9 : p2 = 9
  · rw [if_pos c9, if_pos c9]
    rw [kn_85 h ht, rt_45_9 h ht, k_oneIf, zb_s]
  rw [if_neg c9, if_neg c9]
  by_cases c10 : p2 = 10
  · rw [if_pos c10, if_pos c10]
    rw [kn_85 h ht, rt_46_9 h ht, k_oneIf, zb_s]
  rw [if_neg c10, if_neg c10]
  by_cases c11 : p2 = 11
  · rw [if_pos c11, if_pos c11]
    rw [rt_90_4 h ht, k_bits, zb_s]
  rw [if_neg c11, if_neg c11]
  by_cases c12 : p2 = 12
  · rw [if_pos c12, if_pos c12]
    rw [rt_92_4 h ht]
  rw [if_neg c12, if_neg c12]
  by_cases c13 : p2 = 13
  · rw [if_pos c13, if_pos c13]
    rw [rt_91_4 h ht, k_bits, zb_s]
  rw [if_neg c13, if_neg c13]
  by_cases c14 : p2 = 14
  · rw [if_pos c14, if_pos c14]
    rw [kn_84 h ht, rt_102_6 h ht]
  rw [if_neg c14, if_neg c14]
  by_cases c15 : p2 = 15
  · rw [if_pos c15, if_pos c15]
    rw [kn_84 h ht, rt_103_6 h ht, k_oneIf, zb_s]
  rw [if_neg c15, if_neg c15]
  by_cases c16 : p2 = 16
  · rw [if_pos c16, if_pos c16]
    rw [rt_89_4 h ht, k_oneIf, zb_s]
  rw [if_neg c16, if_neg c16]
  exact absurd (fun x => by rcases x with x | x | x | x | x | x | x | x | x | x | x | x | x | x | x | x | x <;> contradiction) h17
theorem k_lookN (h : RC K A c V ms) (hW : WB V) {t : Nat} (ht : t < tN V) {p2 : Int32} (h17 : no17 p2) : f_X6_look K z c ms (nI t) p2 = some (.inr 2) := by
  unfold no17 at h17
  unfold f_X6_look
  rw [k_trIn h hW ht, zt_l, zn_s (K4 h ht)]
  simp only [not_or] at h17
  obtain ⟨c0, c1, c2, c3, c4, c5, c6, c7, c8, c9, c10, c11, c12, c13, c14, c15, c16⟩ := h17
  rw [if_neg c0, if_neg c1, if_neg c2, if_neg c3, if_neg c4, if_neg c5, if_neg c6, if_neg c7, if_neg c8, if_neg c9, if_neg c10, if_neg c11, if_neg c12, if_neg c13, if_neg c14, if_neg c15, if_neg c16]
theorem m_look (hM : MS K ra mo r) (hV : vr ra mo r = V) (hW : WB V) (hz : 300 ≤ z) {t : Nat} (ht : t < tN V) {p2 : Int32} (h17 : ¬ no17 p2) : f_X7_look K z r mo (nI t) p2 = some (lookV V t p2, zui r 0 mo 0 0) := by
  have hV1 : vr ra mo (zui r 0 mo 0 0) = V := by rw [vw_0, hV]
  have hM1 : MS K ra mo (zui r 0 mo 0 0) := hM
  unfold f_X7_look lookV
  rw [zlet, m_noTr hV1 hW ht, zb_s, m_thr0, zb2_s, if_pos rfl]
  generalize zui r 0 mo 0 0 = r1 at hV1 hM1 ⊢
  clear hM hV
  have hM := hM1
  have hV := hV1
  have ht2 : t < 200 := Nat.lt_of_lt_of_le ht (WB_2 hW)
  have ht8 : t < 8000 := by omega
  obtain ⟨⟨m31, m31a, m31b⟩, m32, m32a, m32b⟩ := WB_18 hW ht
  by_cases c0 : p2 = 0
  · rw [if_pos c0, if_pos c0]
    rw [zq_8 hM, zx_2 ht2, cl_ ht8, rd_8 (ra := ra) (mo := mo), hV]
  rw [if_neg c0, if_neg c0]
  by_cases c1 : p2 = 1
  · rw [if_pos c1, if_pos c1]
    rw [zq_9 hM, zx_2 ht2, cl_ ht8, rd_9 (ra := ra) (mo := mo), hV]
  rw [if_neg c1, if_neg c1]
  by_cases c2 : p2 = 2
  · rw [if_pos c2, if_pos c2]
    rw [zq_10 hM, zx_2 ht2, cl_ ht8, rd_10 (ra := ra) (mo := mo), hV]
  rw [if_neg c2, if_neg c2]
  by_cases c3 : p2 = 3
  · rw [if_pos c3, if_pos c3]
    rw [zq_11 hM, zx_2 ht2, cl_ ht8, rd_11 (ra := ra) (mo := mo), hV]
  rw [if_neg c3, if_neg c3]
  by_cases c4 : p2 = 4
  · rw [if_pos c4, if_pos c4]
    rw [zq_12 hM, zx_2 ht2, zq_13 hM, zx_2 ht2, zq_14 hM, zx_2 ht2, cl_ ht8, rd_12 (ra := ra) (mo := mo), rd_13 (ra := ra) (mo := mo), rd_14 (ra := ra) (mo := mo), hV]
    by_cases d : V.1 12 t = 0
    · rw [if_pos d, if_pos d]
    · rw [if_neg d, if_neg d]
  rw [if_neg c4, if_neg c4]
  by_cases c5 : p2 = 5
  · rw [if_pos c5, if_pos c5]
    rw [zq_27 hM, zx_2 ht2, zq_28 hM, zx_2 ht2, zq_29 hM, zx_2 ht2, cl_ ht8, rd_27 (ra := ra) (mo := mo), rd_28 (ra := ra) (mo := mo), rd_29 (ra := ra) (mo := mo), hV]
    by_cases d : V.1 27 t = 0
    · rw [if_pos d, if_pos d]
    · rw [if_neg d, if_neg d]
  rw [if_neg c5, if_neg c5]
  by_cases c6 : p2 = 6
  · rw [if_pos c6, if_pos c6]
    rw [zq_21 hM, zx_2 ht2, cl_ ht8, rd_21 (ra := ra) (mo := mo), hV, m_one, zb_s]
  rw [if_neg c6, if_neg c6]
  by_cases c7 : p2 = 7
  · rw [if_pos c7, if_pos c7]
    rw [zq_22 hM, zx_2 ht2, zq_21 hM, zx_2 ht2, cl_ ht8, rd_22 (ra := ra) (mo := mo), rd_21 (ra := ra) (mo := mo), hV, m_one, m_one, zb_s, zb_s]
    by_cases d : V.1 22 t = 0
    · rw [if_pos d, if_pos d, if_pos rfl]
    · rw [if_neg d, if_neg d]
      by_cases d2 : V.1 21 t = 0
      · rw [if_pos d2, if_pos d2, if_neg (by decide)]
      · rw [if_neg d2, if_neg d2, if_pos rfl]
  rw [if_neg c7, if_neg c7]
  by_cases c8 : p2 = 8
  · rw [if_pos c8, if_pos c8]
    rw [zq_23 hM, zx_2 ht2, cl_ ht8, rd_23 (ra := ra) (mo := mo), hV, m_one, zb_s]
  rw [if_neg c8, if_neg c8]
  by_cases c9 : p2 = 9
  · rw [if_pos c9, if_pos c9]
    rw [zq_24 hM, zx_2 ht2, cl_ ht8, rd_24 (ra := ra) (mo := mo), hV, m_one, zb_s]
  rw [if_neg c9, if_neg c9]
  by_cases c10 : p2 = 10
  · rw [if_pos c10, if_pos c10]
    rw [zq_25 hM, zx_2 ht2, cl_ ht8, rd_25 (ra := ra) (mo := mo), hV, m_one, zb_s]
  rw [if_neg c10, if_neg c10]
  by_cases c11 : p2 = 11
  · rw [if_pos c11, if_pos c11]
    rw [zq_31 hM, zx_2 ht2, cl_ ht8, rd_31 (ra := ra) (mo := mo), hV, m_bitsN hz m31a m31b, zb_s]
  rw [if_neg c11, if_neg c11]
  by_cases c12 : p2 = 12
  · rw [if_pos c12, if_pos c12]
    rw [zq_33 hM, zx_2 ht2, cl_ ht8, rd_33 (ra := ra) (mo := mo), hV]
  rw [if_neg c12, if_neg c12]
  by_cases c13 : p2 = 13
  · rw [if_pos c13, if_pos c13]
    rw [zq_32 hM, zx_2 ht2, cl_ ht8, rd_32 (ra := ra) (mo := mo), hV, m_bitsN hz m32a m32b, zb_s]
  rw [if_neg c13, if_neg c13]
  by_cases c14 : p2 = 14
  · rw [if_pos c14, if_pos c14]
    rw [zq_18 hM, zx_2 ht2, cl_ ht8, rd_18 (ra := ra) (mo := mo), hV]
  rw [if_neg c14, if_neg c14]
  by_cases c15 : p2 = 15
  · rw [if_pos c15, if_pos c15]
    rw [zq_19 hM, zx_2 ht2, cl_ ht8, rd_19 (ra := ra) (mo := mo), hV, m_one, zb_s]
  rw [if_neg c15, if_neg c15]
  by_cases c16 : p2 = 16
  · rw [if_pos c16, if_pos c16]
    rw [zq_20 hM, zx_2 ht2, cl_ ht8, rd_20 (ra := ra) (mo := mo), hV, m_one, zb_s]
  rw [if_neg c16, if_neg c16]
  exact absurd (fun x => by rcases x with x | x | x | x | x | x | x | x | x | x | x | x | x | x | x | x | x <;> contradiction) h17
theorem m_lookN (hM : MS K ra mo r) (hV : vr ra mo r = V) (hW : WB V) {t : Nat} (ht : t < tN V) {p2 : Int32} (h17 : no17 p2) : f_X7_look K z r mo (nI t) p2 = some (0, zui (zui r 0 mo 0 0) 0 mo 0 2) := by
  have hV1 : vr ra mo (zui r 0 mo 0 0) = V := by rw [vw_0, hV]
  unfold no17 at h17
  unfold f_X7_look
  rw [zlet, m_noTr hV1 hW ht, zb_s, m_thr0, zb2_s, if_pos rfl]
  simp only [not_or] at h17
  obtain ⟨c0, c1, c2, c3, c4, c5, c6, c7, c8, c9, c10, c11, c12, c13, c14, c15, c16⟩ := h17
  rw [if_neg c0, if_neg c1, if_neg c2, if_neg c3, if_neg c4, if_neg c5, if_neg c6, if_neg c7, if_neg c8, if_neg c9, if_neg c10, if_neg c11, if_neg c12, if_neg c13, if_neg c14, if_neg c15, if_neg c16, zlet]
end LK

section SX
variable {ra : Nat → Nat} {ms mo ou z : Nat}
theorem s_25 (hz : 8100 ≤ z) : S_25 (IN ms mo ou ra) z ms mo ou := by
  intro n K L c r p1 p2 hn hI
  obtain ⟨q1, q2, q3, A, h, hW, hM⟩ := hI
  generalize hV : vr ra mo r = V at h hW
  have hB := hW.1
  have hM1 : MS K ra mo (zui r 0 mo 0 0) := hM
  have hV1 : vr ra mo (zui r 0 mo 0 0) = V := by rw [vw_0, hV]
  have hT1 : zi (zui r 0 mo 0 0) 37 mo 0 = V.1 37 0 := by rw [← hV1]; rfl
  have t01 : zi (zui r 0 mo 0 0) 0 mo 0 = 0 := zi_thr
  have hW1 : WV (400 * (n + 1)) V := WV_mono (by omega) hW
  have THR : ∀ e : Int32, IN ms mo ou ra (n + 1) K L c (zui (zui r 0 mo 0 0) 0 mo 0 e) := fun e => IN_mk q1 q2 q3 h hW1 hM (by rw [vw_0, hV1])
  have hN := WB_2 hB
  rcases tr_in hB p1 with ⟨t, ht, rfl⟩ | hp1
  · have ht2 : t < 200 := by omega
    have ht8 : t < 8000 := by omega
    by_cases h17 : no17 p2
    · refine ⟨.inr 2, (k_lookN h hB ht h17), fun x hx => by have e9 := Sum.inr.inj hx; omega, fun rr u h9 => ?_⟩
      have hu : rr = 2 ∧ u = (K, L, c) := by
        rcases h9 with ⟨_, e9, _⟩ | ⟨e9, h9⟩ | ⟨e9, h9⟩
        · cases e9
        · exact absurd (Sum.inr.inj e9) (by decide)
        · exact h9
      obtain ⟨rfl, rfl⟩ := hu
      exact ⟨0, _, (m_lookN hM hV hB ht h17), zi_thr, fun x => absurd x (by decide), THR 2⟩
    · refine ⟨.inl (lookV V t p2), (k_look h hB ht h17), fun x hx => (by cases hx), fun rr u h9 => ?_⟩
      have hu : rr = 0 ∧ u = (K, L, (zul c 170 ou 0 (Int32.toInt64 (lookV V t p2)))) := by
        rcases h9 with ⟨x9, e9, h9⟩ | ⟨e9, _⟩ | ⟨e9, _⟩
        · cases e9; exact h9
        · cases e9
        · cases e9
      obtain ⟨rfl, rfl⟩ := hu
      exact ⟨lookV V t p2, _, m_look hM hV hB (by omega) ht h17, t01, (fun _ => by rw [zl_zul, if_pos ⟨rfl, rfl, rfl⟩]), IN_mk q1 q2 q3 (RC_zl h) hW1 hM1 hV1⟩
  · refine ⟨.inr 1, (by rw [f_X6_look, k_trOut h hB hp1, zt_r]), fun x hx => by have e9 := Sum.inr.inj hx; omega, fun rr u h9 => ?_⟩
    have hu : rr = 1 ∧ u = (K, L, c) := by
      rcases h9 with ⟨_, e9, _⟩ | ⟨e9, h9⟩ | ⟨e9, h9⟩
      · cases e9
      · exact h9
      · exact absurd (Sum.inr.inj e9) (by decide)
    obtain ⟨rfl, rfl⟩ := hu
    exact ⟨0, _, (by rw [f_X7_look, zlet, m_noTrO hV1 hp1, zb_s, m_thr1, zb2_s, if_neg (by decide)]), zi_thr, fun x => absurd x (by decide), THR 1⟩

end SX

