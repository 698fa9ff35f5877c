theorem i12 (p : Int32) : (p < 12) = (p ≤ 11) := by
  rw [Int32.lt_iff_toInt_lt, Int32.le_iff_toInt_le]
  have a : (12 : Int32).toInt = 12 := by decide
  have b : (11 : Int32).toInt = 11 := by decide
  rw [a, b]
  exact propext ⟨fun h => by omega, fun h => by omega⟩
def dayV (V : zV) (p : Int32) : zV := uV (uV (uV (uV V 38 0 p) 37 0 1) 39 0 0) 40 0 (V.1 40 0 + 1)
theorem dayV_o {V : zV} {p : Int32} (k : Nat) (hk : k ≠ 38 ∧ k ≠ 37 ∧ k ≠ 39 ∧ k ≠ 40) : (dayV V p).1 k = V.1 k := by unfold dayV; rw [uV_o hk.2.2.2, uV_o hk.2.2.1, uV_o hk.2.1, uV_o hk.1]
theorem WV_dayV {n : Nat} {V : zV} (hW : WV n V) (h0 : V.1 37 0 = 0) {p : Int32} : WV n (dayV V p) := by
  have E : ∀ g, (g ≠ 38 ∧ g ≠ 37 ∧ g ≠ 39 ∧ g ≠ 40) → (dayV V p).1 g = V.1 g := fun g hg => dayV_o g hg
  have E2 : ∀ g, g ≠ 200 → (dayV V p).2 g = V.2 g := fun _ _ => rfl
  have e37 : (dayV V p).1 37 0 = 1 := by unfold dayV; rw [uV_o (by decide), uV_o (by decide), uV_s]
  have h15 := hW
  obtain ⟨⟨w1, w2, w3, w4, w5, w6, w7, w8, w9, w10, w11, w12, w13, w18, w20, w22, w23, w24⟩, w14, w15, w16, w17, w19, w21⟩ := hW
  refine ⟨⟨W1_c (E 35 (by decide)) w1, W2_c (E 35 (by decide)) w2, W3_c (E 7 (by decide)) w3, W4_c (E 7 (by decide)) w4, W5_c (E 7 (by decide)) (E 9 (by decide)) (E 35 (by decide)) w5, W6_c (E 10 (by decide)) (E 35 (by decide)) w6, W7_c (E 1 (by decide)) w7, W8_c (E 2 (by decide)) w8, W9_c (E 6 (by decide)) w9, W10_c (E 5 (by decide)) w10, W11_c (E 1 (by decide)) (E 10 (by decide)) (E 27 (by decide)) (E 28 (by decide)) (E 29 (by decide)) (E 35 (by decide)) w11, W12_c (E 10 (by decide)) (E 27 (by decide)) (E 28 (by decide)) (E 29 (by decide)) (E 35 (by decide)) w12, W13_c (E 21 (by decide)) (E 23 (by decide)) (E 35 (by decide)) w13, W18_c (E 31 (by decide)) (E 32 (by decide)) (E 35 (by decide)) w18, W20_c (E 11 (by decide)) (E 35 (by decide)) w20, W22_c (E 18 (by decide)) (E 35 (by decide)) w22, W23_c (E 12 (by decide)) (E 13 (by decide)) (E 14 (by decide)) (E 16 (by decide)) (E 17 (by decide)) (E 18 (by decide)) (E 19 (by decide)) (E 20 (by decide)) (E 21 (by decide)) (E 22 (by decide)) (E 23 (by decide)) (E 24 (by decide)) (E 25 (by decide)) (E 26 (by decide)) (E 27 (by decide)) (E 28 (by decide)) (E 29 (by decide)) (E 30 (by decide)) (E 31 (by decide)) (E 32 (by decide)) (E 35 (by decide)) (E2 34 (by decide)) w23, W24_c (E 6 (by decide)) (E 7 (by decide)) w24⟩, ?_, ?_, ?_, W17_c (E 25 (by decide)) (E 26 (by decide)) (E 27 (by decide)) (E 35 (by decide)) w17, W19_c (E 11 (by decide)) (E 35 (by decide)) (E 36 (by decide)) w19, W21_c (E 41 (by decide)) (E 42 (by decide)) w21⟩
  · exact ⟨1, by decide, e37⟩
  · intro e
    rw [e37] at e
    exact absurd e (by decide)
  · intro _ t ht
    rw [E 25 (by decide), E 26 (by decide), E 27 (by decide)]
    have := WV_15 h15 h0 ht
    exact ⟨this.2.2.2.2.1, this.2.2.2.2.2.1, this.2.2.2.2.2.2⟩
theorem rs_dayV {n : Nat} {V : zV} (hW : WV n V) (h0 : V.1 37 0 = 0) {p : Int32} : rsP (dayV V p) 200 = dayV V p := by
  refine zV_ext (fun k x => ?_) (fun _ _ => rfl)
  show (if (21 ≤ k ∧ k ≤ 26) ∧ x < 200 then 0 else (dayV V p).1 k x) = (dayV V p).1 k x
  by_cases h : (21 ≤ k ∧ k ≤ 26) ∧ x < 200
  · rw [if_pos h, dayV_o k (by omega)]
    have := WV_15 hW h0 h.2
    rcases (show k = 21 ∨ k = 22 ∨ k = 23 ∨ k = 24 ∨ k = 25 ∨ k = 26 by omega) with rfl | rfl | rfl | rfl | rfl | rfl
    · exact this.1.symm
    · exact this.2.1.symm
    · exact this.2.2.1.symm
    · exact this.2.2.2.1.symm
    · exact this.2.2.2.2.1.symm
    · exact this.2.2.2.2.2.1.symm
  · rw [if_neg h]
theorem RC_day {K : Nat → Nat} {A : Nat → Nat → Nat} {c : zS} {V : zV} {ms : Nat} {p : Int32} (h : RC K A c V ms) : RC K A (zui (zui (zui (zui c 130 ms 0 p) 131 ms 0 0) 128 ms 0 1) 129 ms 0 (V.1 40 0 + 1)) (dayV V p) ms := by
  generalize hc : zui (zui (zui (zui c 130 ms 0 p) 131 ms 0 0) 128 ms 0 1) 129 ms 0 (V.1 40 0 + 1) = c'
  have Ez : ∀ g, (g ≠ 130 ∧ g ≠ 131 ∧ g ≠ 128 ∧ g ≠ 129) → zi c' g = zi c g := fun g hg => by rw [← hc, zi_o hg.2.2.2, zi_o hg.2.2.1, zi_o hg.2.1, zi_o hg.1]
  have El : ∀ g, g ≠ 1000 → zl c' g = zl c g := fun _ _ => by rw [← hc]; rfl
  have Er : ∀ g, g ≠ 1000 → zr c' g = zr c g := fun _ _ => by rw [← hc]; rfl
  have E : ∀ g, (g ≠ 38 ∧ g ≠ 37 ∧ g ≠ 39 ∧ g ≠ 40) → (dayV V p).1 g = V.1 g := fun g hg => dayV_o g hg
  have E2 : ∀ g, g ≠ 200 → (dayV V p).2 g = V.2 g := fun _ _ => rfl
  refine ⟨h.1, R1_c (E 7 (by decide)) (E 35 (by decide)) (C1 h), R2_c (Er 0 (by decide)) (Er 1 (by decide)) (Er 120 (by decide)) (Er 121 (by decide)) (Er 122 (by decide)) (Er 123 (by decide)) (Er 124 (by decide)) (Er 143 (by decide)) (C2 h), R3_c (Er 144 (by decide)) (Er 145 (by decide)) (E 7 (by decide)) (E 35 (by decide)) (C3 h), R4_c (Er 40 (by decide)) (Er 81 (by decide)) (Er 83 (by decide)) (Er 84 (by decide)) (Er 85 (by decide)) (Er 100 (by decide)) (Er 101 (by decide)) (E 9 (by decide)) (E 35 (by decide)) (C4 h), R5_c (Ez 20 (by decide)) (Ez 21 (by decide)) (Ez 22 (by decide)) (Ez 41 (by decide)) (Ez 42 (by decide)) (Ez 44 (by decide)) (Ez 45 (by decide)) (Ez 46 (by decide)) (Ez 82 (by decide)) (Ez 86 (by decide)) (Ez 87 (by decide)) (Ez 88 (by decide)) (Ez 89 (by decide)) (Ez 90 (by decide)) (Ez 91 (by decide)) (Ez 92 (by decide)) (Ez 102 (by decide)) (Ez 103 (by decide)) (E 8 (by decide)) (E 10 (by decide)) (E 11 (by decide)) (E 12 (by decide)) (E 13 (by decide)) (E 14 (by decide)) (E 15 (by decide)) (E 18 (by decide)) (E 19 (by decide)) (E 20 (by decide)) (E 21 (by decide)) (E 23 (by decide)) (E 24 (by decide)) (E 25 (by decide)) (E 27 (by decide)) (E 28 (by decide)) (E 29 (by decide)) (E 30 (by decide)) (E 31 (by decide)) (E 32 (by decide)) (E 33 (by decide)) (E 35 (by decide)) (C5 h), R6_c (Ez 141 (by decide)) (Ez 142 (by decide)) (E 16 (by decide)) (E 17 (by decide)) (E 35 (by decide)) (C6 h), R7_c (Ez 2 (by decide)) (Ez 140 (by decide)) (E 1 (by decide)) (E 2 (by decide)) (C7 h), R8_c (Ez 60 (by decide)) (Ez 61 (by decide)) (Ez 62 (by decide)) (Ez 63 (by decide)) (Ez 64 (by decide)) (E 3 (by decide)) (E 4 (by decide)) (E 5 (by decide)) (E 6 (by decide)) (E 7 (by decide)) (C8 h), R9_c (Ez 43 (by decide)) (Ez 80 (by decide)) (El 93 (by decide)) (E 21 (by decide)) (E 22 (by decide)) (E 35 (by decide)) (E2 34 (by decide)) (C9 h), ?_, R11_c (Ez 65 (by decide)) (E 7 (by decide)) (E 9 (by decide)) (E 27 (by decide)) (E 35 (by decide)) (C11 h), R12_c (Ez 132 (by decide)) (Ez 133 (by decide)) (E 8 (by decide)) (E 27 (by decide)) (E 35 (by decide)) (C12 h), R13_c (Er 148 (by decide)) (E 10 (by decide)) (E 27 (by decide)) (E 28 (by decide)) (E 29 (by decide)) (E 35 (by decide)) (C13 h), R14_c (Er 146 (by decide)) (E 11 (by decide)) (E 35 (by decide)) (C14 h), R15_c (Ez 47 (by decide)) (E 35 (by decide)) (E 60 (by decide)) (C15 h)⟩
  obtain ⟨a1, a2, a3, a4, a5, a6, a7, a8, a9, a10, a11⟩ := C10 h
  refine ⟨by rw [Ez 125 (by decide), E 7 (by decide)]; exact a1, by rw [Ez 126 (by decide), E 35 (by decide)]; exact a2, by rw [Ez 127 (by decide), E 36 (by decide)]; exact a3, ?_, ?_, ?_, ?_, by rw [El 134 (by decide), E2 43 (by decide)]; exact a8, by rw [El 135 (by decide), E2 44 (by decide)]; exact a9, by rw [El 136 (by decide), E 41 (by decide)]; exact a10, by rw [El 137 (by decide), E 42 (by decide)]; exact a11⟩
  · rw [← hc, zi_o (by decide), zi_zui, if_pos ⟨rfl, rfl, rfl⟩]; unfold dayV; rw [uV_o (by decide), uV_o (by decide), uV_s]
  · rw [← hc, zi_zui, if_pos ⟨rfl, rfl, rfl⟩]; unfold dayV; rw [uV_s]
  · rw [← hc, zi_o (by decide), zi_o (by decide), zi_o (by decide), zi_zui, if_pos ⟨rfl, rfl, rfl⟩]; unfold dayV; rw [uV_o (by decide), uV_o (by decide), uV_o (by decide), uV_s]
  · rw [← hc, zi_o (by decide), zi_o (by decide), zi_zui, if_pos ⟨rfl, rfl, rfl⟩]; unfold dayV; rw [uV_o (by decide), uV_s]
section SX
variable {ra : Nat → Nat} {ms mo ou z : Nat}
theorem s_10 (hz : 8100 ≤ z) : S_10 (IN ms mo ou ra) z ms mo ou := by
  intro n K L c r p1 hn hI
  obtain ⟨q1, q2, q3, A, h, hW, hM⟩ := hI
  generalize hV : vr ra mo r = V at h hW
  have hB := hW.1
  have hM1 : MS K ra mo (zui r 0 mo 0 0) := hM
  have hV1 : vr ra mo (zui r 0 mo 0 0) = V := by rw [vw_0, hV]
  have hT1 : zi (zui r 0 mo 0 0) 37 mo 0 = V.1 37 0 := by rw [← hV1]; rfl
  have t01 : zi (zui r 0 mo 0 0) 0 mo 0 = 0 := zi_thr
  have hW1 : WV (400 * (n + 1)) V := WV_mono (by omega) hW
  have THR : ∀ e : Int32, IN ms mo ou ra (n + 1) K L c (zui (zui r 0 mo 0 0) 0 mo 0 e) := fun e => IN_mk q1 q2 q3 h hW1 hM (by rw [vw_0, hV1])
  by_cases c1 : p1 < 0
  · refine ⟨.inr 2, (by rw [f_X6_day, if_pos c1]), fun x hx => by have e9 := Sum.inr.inj hx; omega, fun rr u h9 => ?_⟩
    have hu : rr = 1 ∧ u = (K, L, c) := by
      rcases h9 with ⟨_, _, e9, _⟩ | ⟨e9, h9⟩ | ⟨e9, h9⟩
      · cases e9
      · exact h9
      · exact absurd (Sum.inr.inj e9) (by decide)
    obtain ⟨rfl, rfl⟩ := hu
    exact ⟨0, _, (by rw [f_X7_day, zlet, if_pos c1, f_X7_day_16, f_X7_day_21, m_thr1, zb2_s, if_neg (by decide)]), zi_thr, fun x => absurd x (by decide), THR 1⟩
  · by_cases c2 : p1 ≤ 11
    · have c3 : p1 < 12 := by rw [i12]; exact c2
      rcases tm4 hW with c4 | c4
      · have hM2 : MS K ra mo (zui (zui (zui (zui (zui r 0 mo 0 0) 38 mo 0 p1) 37 mo 0 1) 39 mo 0 0) 40 mo 0 (V.1 40 0 + 1)) := hM
        obtain ⟨r9, g1, g2, g3, g4⟩ := m_rests (z := z) hM2 (V := dayV V p1) (by rw [vw_40, vw_39, vw_37, vw_38, hV1]; rfl) (by omega)
        rw [rs_dayV hW c4] at g3
        have e40 : zi (zui (zui (zui (zui r 0 mo 0 0) 38 mo 0 p1) 37 mo 0 1) 39 mo 0 0) 40 mo 0 = V.1 40 0 := by rw [zi_o (by decide), zi_o (by decide), zi_o (by decide), rd_40 (ra := ra) (mo := mo), hV1]
        have e40b : zi r9 40 mo 0 - 1 = V.1 40 0 := by rw [rd_40 (ra := ra) (mo := mo), g3]; unfold dayV; rw [uV_s, Int32.add_sub_cancel]
        have t9 : zi r9 0 mo 0 = 0 := by rw [g4, zi_o (by decide), zi_o (by decide), zi_o (by decide), zi_o (by decide), t01]
        have x40 : zi (zui (zui (zui c 130 ms 0 p1) 131 ms 0 0) 128 ms 0 1) 129 ms 0 = V.1 40 0 := by rw [zi_o (by decide), zi_o (by decide), zi_o (by decide), (C10 h).2.2.2.2.1]
        refine ⟨.inl (V.1 40 0, zui (zui (zui (zui c 130 ms 0 p1) 131 ms 0 0) 128 ms 0 1) 129 ms 0 (V.1 40 0 + 1)), (by rw [f_X6_day, if_neg c1, if_pos c3, k_tm h, c4, if_neg (by decide), if_pos (by decide), zt_l, zlet, zlet, zlet, x40, zlet, zlet]), fun x hx => (by cases hx), fun rr u h9 => ?_⟩
        have hu : rr = 0 ∧ u = (K, L, (zul (zui (zui (zui (zui c 130 ms 0 p1) 131 ms 0 0) 128 ms 0 1) 129 ms 0 (V.1 40 0 + 1)) 170 ou 0 (Int32.toInt64 (V.1 40 0)))) := by
          rcases h9 with ⟨x9, c9, e9, h9⟩ | ⟨e9, _⟩ | ⟨e9, _⟩
          · cases e9; exact h9
          · cases e9
          · cases e9
        obtain ⟨rfl, rfl⟩ := hu
        exact ⟨V.1 40 0, r9, (by rw [f_X7_day, zlet, if_neg c1, if_pos c2, f_X7_day_21, m_thr0, zb2_s, if_pos rfl, hT1, c4, if_pos rfl, f_X7_day_41, m_thr0, zb2_s, if_pos rfl, zlet, zlet, zlet, e40, zlet, g1, zb_s, e40b]), t9, (fun _ => by rw [zl_zul, if_pos ⟨rfl, rfl, rfl⟩]), IN_mk q1 q2 q3 (RC_zl (RC_day h)) (WV_dayV hW1 c4) g2 g3⟩
      · have c5 : ¬ V.1 37 0 = 0 := by rcases c4 with c4 | c4 | c4 <;> rw [c4] <;> decide
        have c6 : ¬ V.1 37 0 < 0 := by rcases c4 with c4 | c4 | c4 <;> rw [c4] <;> decide
        have c7 : ¬ V.1 37 0 ≤ 0 := by rcases c4 with c4 | c4 | c4 <;> rw [c4] <;> decide
        refine ⟨.inr 3, (by rw [f_X6_day, if_neg c1, if_pos c3, k_tm h, if_neg c6, if_neg c7, zt_r]), fun x hx => by have e9 := Sum.inr.inj hx; omega, fun rr u h9 => ?_⟩
        have hu : rr = 2 ∧ u = (K, L, c) := by
          rcases h9 with ⟨_, _, e9, _⟩ | ⟨e9, h9⟩ | ⟨e9, h9⟩
          · cases e9
          · exact absurd (Sum.inr.inj e9) (by decide)
          · exact h9
        obtain ⟨rfl, rfl⟩ := hu
        exact ⟨0, _, (by rw [f_X7_day, zlet, if_neg c1, if_pos c2, f_X7_day_21, m_thr0, zb2_s, if_pos rfl, hT1, if_neg c5, f_X7_day_41, m_thr1, zb2_s, if_neg (by decide)]), zi_thr, fun x => absurd x (by decide), THR 2⟩
    · have c3 : ¬ p1 < 12 := by rw [i12]; exact c2
      refine ⟨.inr 2, (by rw [f_X6_day, if_neg c1, if_neg c3]), fun x hx => by have e9 := Sum.inr.inj hx; omega, fun rr u h9 => ?_⟩
      have hu : rr = 1 ∧ u = (K, L, c) := by
        rcases h9 with ⟨_, _, e9, _⟩ | ⟨e9, h9⟩ | ⟨e9, h9⟩
        · cases e9
        · exact h9
        · exact absurd (Sum.inr.inj e9) (by decide)
      obtain ⟨rfl, rfl⟩ := hu
      exact ⟨0, _, (by rw [f_X7_day, zlet, if_neg c1, if_neg c2, f_X7_day_16, f_X7_day_21, m_thr1, zb2_s, if_neg (by decide)]), zi_thr, fun x => absurd x (by decide), THR 1⟩

end SX

def zci (c : zS) (a m : Nat) : zS := (fun f b j => if f = 140 ∧ b = a ∧ j < m then 0 else c.1 f b j, c.2)
theorem zi_zci (c : zS) (a m f b j : Nat) : zi (zci c a m) f b j = if f = 140 ∧ b = a ∧ j < m then 0 else zi c f b j := rfl
theorem zci_0 (c : zS) (a : Nat) : zci c a 0 = c := Prod.ext (by funext f b j; exact if_neg (fun h => by omega)) rfl
theorem zci_s (c : zS) (a m : Nat) : zui (zci c a m) 140 a m 0 = zci c a (m + 1) := by
  refine Prod.ext ?_ rfl
  funext f b j
  show (if f = 140 ∧ b = a ∧ j = m then (0 : Int32) else if f = 140 ∧ b = a ∧ j < m then 0 else c.1 f b j) = if f = 140 ∧ b = a ∧ j < m + 1 then 0 else c.1 f b j
  by_cases h1 : f = 140 ∧ b = a ∧ j < m + 1
  · rw [if_pos h1]
    split
    · rfl
    · rw [if_pos ⟨h1.1, h1.2.1, by omega⟩]
  · rw [if_neg h1, if_neg (fun x => h1 ⟨x.1, x.2.1, by omega⟩), if_neg (fun x => h1 ⟨x.1, x.2.1, by omega⟩)]
def rwP (V : zV) (i : Nat) (p : Int32) (m : Nat) : zV := (fun k t => if k = 1 ∧ t = i then p else if k = 2 ∧ 200 * i ≤ t ∧ t < 200 * i + m then 0 else V.1 k t, V.2)
theorem rwP_s (V : zV) (i : Nat) (p : Int32) (m : Nat) : uV (rwP V i p m) 2 (200 * i + m) 0 = rwP V i p (m + 1) := by
  refine zV_ext (fun k x => ?_) (fun _ _ => rfl)
  rw [uV_1]
  show (if k = 2 ∧ x = 200 * i + m then (0 : Int32) else if k = 1 ∧ x = i then p else if k = 2 ∧ 200 * i ≤ x ∧ x < 200 * i + m then 0 else V.1 k x) = if k = 1 ∧ x = i then p else if k = 2 ∧ 200 * i ≤ x ∧ x < 200 * i + (m + 1) then 0 else V.1 k x
  repeat' split
  all_goals first | rfl | (exfalso; omega)
theorem rwP_0 (V : zV) (i : Nat) (p : Int32) : rwP V i p 0 = uV V 1 i p := by
  refine zV_ext (fun k x => ?_) (fun _ _ => rfl)
  rw [uV_1]
  show (if k = 1 ∧ x = i then p else if k = 2 ∧ 200 * i ≤ x ∧ x < 200 * i + 0 then 0 else V.1 k x) = _
  rw [if_neg (show ¬ (k = 2 ∧ 200 * i ≤ x ∧ x < 200 * i + 0) from fun h => by omega)]
theorem rwP_o {V : zV} {i : Nat} {p : Int32} {m k : Nat} (hk : k ≠ 1 ∧ k ≠ 2) : (rwP V i p m).1 k = V.1 k := by
  funext x
  show (if k = 1 ∧ x = i then p else if k = 2 ∧ 200 * i ≤ x ∧ x < 200 * i + m then 0 else V.1 k x) = _
  rw [if_neg (fun h => hk.1 h.1), if_neg (fun h => hk.2 h.1)]
section RO
variable {K : Nat → Nat} {A : Nat → Nat → Nat} {ra : Nat → Nat} {c r : zS} {V : zV} {ms mo z : Nat}
theorem k_lay7 (h : RC K A c V ms) {i : Nat} (hi : i < 40) (p : Int32) : ∀ (nn k : Nat), k ≤ 200 → 200 - k < nn → f_X0_lay_7 K z (A 0 i) p nn (zci (zui c 2 (A 0 i) 0 p) (A 1 i) k) (nI k) = some (zci (zui c 2 (A 0 i) 0 p) (A 1 i) 200) := by
  intro nn
  induction nn with
  | zero => intro k hk h; omega
  | succ nn ih =>
    intro k hk hh
    rw [f_X0_lay_7, n200, iLE (by omega) (by omega)]
    by_cases h1 : 200 ≤ k
    · rw [if_pos h1, show k = 200 by omega]
    · have e : zn K (zr (zci (zui c 2 (A 0 i) 0 p) (A 1 i) k) 0 (A 0 i) 0) 8 (fun a2 => zx (nI k) 200 <| zlet (zui (zci (zui c 2 (A 0 i) 0 p) (A 1 i) k) 140 a2 (Int32.toNatClampNeg (nI k)) 0) fun c3 => zlet (nI k + 1) fun x4 => f_X0_lay_7 K z (A 0 i) p nn c3 x4) = (zx (nI k) 200 <| zlet (zui (zci (zui c 2 (A 0 i) 0 p) (A 1 i) k) 140 (A 1 i) (Int32.toNatClampNeg (nI k)) 0) fun c3 => zlet (nI k + 1) fun x4 => f_X0_lay_7 K z (A 0 i) p nn c3 x4) := kn_0 h hi _
      rw [if_neg h1]
      refine e.trans ?_
      rw [zx_2 (by omega), cl_ (by omega), zlet, zci_s, zlet, nI_1]
      exact ih (k + 1) (by omega) (by omega)
theorem m_row71 {i : Nat} (hi : i < 40) (p : Int32) : ∀ (nn m : Nat) (r : zS), MS K ra mo r → vr ra mo r = rwP V i p m → m ≤ 200 → 200 - m < nn → ∃ r1, f_X7_row_71 K z mo (nI i) p nn r (nI m) = some r1 ∧ MS K ra mo r1 ∧ vr ra mo r1 = rwP V i p 200 ∧ zi r1 0 mo 0 = zi r 0 mo 0 := by
  intro nn
  induction nn with
  | zero => intro m r _ _ hk h; omega
  | succ nn ih =>
    intro m r hM hV hk h
    rw [f_X7_row_71, n200, iLE (by omega) (by omega)]
    by_cases h1 : 200 ≤ m
    · rw [if_pos h1]
      exact ⟨r, rfl, hM, by rw [hV, show m = 200 by omega], rfl⟩
    · rw [if_neg h1, pk_mul, nI_add, zq_2 hM, zx_8000 (by omega), cl_ (by omega), zlet, zlet, nI_1]
      have e0 : Int8.toInt32 (Int32.toInt8 0) = 0 := by decide
      rw [e0]
      obtain ⟨r1, g1, g2, g3, g4⟩ := ih (m + 1) (zui r 102 (ra 2) (200 * i + m) 0) (by exact hM) (by rw [vw_2, hV, rwP_s]) (by omega) (by omega)
      exact ⟨r1, g1, g2, g3, by rw [g4, zi_o (by decide)]⟩
theorem RC_row (h : RC K A c V ms) {i : Nat} (hi : i < 40) (p : Int32) : RC K A (zci (zui c 2 (A 0 i) 0 p) (A 1 i) 200) (rwP V i p 200) ms := by
  have Ez : ∀ g, (g ≠ 2 ∧ g ≠ 140) → zi (zci (zui c 2 (A 0 i) 0 p) (A 1 i) 200) g = zi c g := fun g hg => by
    funext b j
    rw [zi_zci, if_neg (fun x => hg.2 x.1), zi_o hg.1]
  have El : ∀ g, g ≠ 1000 → zl (zci (zui c 2 (A 0 i) 0 p) (A 1 i) 200) g = zl c g := fun _ _ => rfl
  have Er : ∀ g, g ≠ 1000 → zr (zci (zui c 2 (A 0 i) 0 p) (A 1 i) 200) g = zr c g := fun _ _ => rfl
  have E : ∀ g, (g ≠ 1 ∧ g ≠ 2) → (rwP V i p 200).1 g = V.1 g := fun g hg => rwP_o hg
  have E2 : ∀ g, g ≠ 200 → (rwP V i p 200).2 g = V.2 g := fun _ _ => rfl
  refine ⟨h.1, R1_c (E 7 (by decide)) (E 35 (by decide)) (C1 h), R2_c (Er 0 (by decide)) (Er 1 (by decide)) (Er 120 (by decide)) (Er 121 (by decide)) (Er 122 (by decide)) (Er 123 (by decide)) (Er 124 (by decide)) (Er 143 (by decide)) (C2 h), R3_c (Er 144 (by decide)) (Er 145 (by decide)) (E 7 (by decide)) (E 35 (by decide)) (C3 h), R4_c (Er 40 (by decide)) (Er 81 (by decide)) (Er 83 (by decide)) (Er 84 (by decide)) (Er 85 (by decide)) (Er 100 (by decide)) (Er 101 (by decide)) (E 9 (by decide)) (E 35 (by decide)) (C4 h), R5_c (Ez 20 (by decide)) (Ez 21 (by decide)) (Ez 22 (by decide)) (Ez 41 (by decide)) (Ez 42 (by decide)) (Ez 44 (by decide)) (Ez 45 (by decide)) (Ez 46 (by decide)) (Ez 82 (by decide)) (Ez 86 (by decide)) (Ez 87 (by decide)) (Ez 88 (by decide)) (Ez 89 (by decide)) (Ez 90 (by decide)) (Ez 91 (by decide)) (Ez 92 (by decide)) (Ez 102 (by decide)) (Ez 103 (by decide)) (E 8 (by decide)) (E 10 (by decide)) (E 11 (by decide)) (E 12 (by decide)) (E 13 (by decide)) (E 14 (by decide)) (E 15 (by decide)) (E 18 (by decide)) (E 19 (by decide)) (E 20 (by decide)) (E 21 (by decide)) (E 23 (by decide)) (E 24 (by decide)) (E 25 (by decide)) (E 27 (by decide)) (E 28 (by decide)) (E 29 (by decide)) (E 30 (by decide)) (E 31 (by decide)) (E 32 (by decide)) (E 33 (by decide)) (E 35 (by decide)) (C5 h), R6_c (Ez 141 (by decide)) (Ez 142 (by decide)) (E 16 (by decide)) (E 17 (by decide)) (E 35 (by decide)) (C6 h), ?_, R8_c (Ez 60 (by decide)) (Ez 61 (by decide)) (Ez 62 (by decide)) (Ez 63 (by decide)) (Ez 64 (by decide)) (E 3 (by decide)) (E 4 (by decide)) (E 5 (by decide)) (E 6 (by decide)) (E 7 (by decide)) (C8 h), R9_c (Ez 43 (by decide)) (Ez 80 (by decide)) (El 93 (by decide)) (E 21 (by decide)) (E 22 (by decide)) (E 35 (by decide)) (E2 34 (by decide)) (C9 h), R10_c (Ez 125 (by decide)) (Ez 126 (by decide)) (Ez 127 (by decide)) (Ez 128 (by decide)) (Ez 129 (by decide)) (Ez 130 (by decide)) (Ez 131 (by decide)) (El 134 (by decide)) (El 135 (by decide)) (El 136 (by decide)) (El 137 (by decide)) (E 7 (by decide)) (E 35 (by decide)) (E 36 (by decide)) (E 37 (by decide)) (E 38 (by decide)) (E 39 (by decide)) (E 40 (by decide)) (E 41 (by decide)) (E 42 (by decide)) (E2 43 (by decide)) (E2 44 (by decide)) (C10 h), R11_c (Ez 65 (by decide)) (E 7 (by decide)) (E 9 (by decide)) (E 27 (by decide)) (E 35 (by decide)) (C11 h), R12_c (Ez 132 (by decide)) (Ez 133 (by decide)) (E 8 (by decide)) (E 27 (by decide)) (E 35 (by decide)) (C12 h), R13_c (Er 148 (by decide)) (E 10 (by decide)) (E 27 (by decide)) (E 28 (by decide)) (E 29 (by decide)) (E 35 (by decide)) (C13 h), R14_c (Er 146 (by decide)) (E 11 (by decide)) (E 35 (by decide)) (C14 h), R15_c (Ez 47 (by decide)) (E 35 (by decide)) (E 60 (by decide)) (C15 h)⟩
  intro j hj
  obtain ⟨a, b⟩ := C7 h j hj
  refine ⟨?_, fun q hq => ?_⟩
  · rw [zi_zci, if_neg (fun x => absurd x.1 (by decide)), zi_zui]
    show _ = if 1 = 1 ∧ j = i then p else if 1 = 2 ∧ 200 * i ≤ j ∧ j < 200 * i + 200 then 0 else V.1 1 j
    by_cases e : j = i
    · rw [if_pos ⟨rfl, by rw [e], rfl⟩, if_pos ⟨rfl, e⟩]
    · rw [if_neg (fun x => e (h.1 _ _ _ _ x.2.1).2), if_neg (fun x => e x.2), if_neg (fun x => absurd x.1 (by decide))]; exact a
  · rw [zi_zci]
    show _ = if 2 = 1 ∧ 200 * j + q = i then p else if 2 = 2 ∧ 200 * i ≤ 200 * j + q ∧ 200 * j + q < 200 * i + 200 then 0 else V.1 2 (200 * j + q)
    rw [if_neg (show ¬ (2 = 1 ∧ 200 * j + q = i) from fun x => absurd x.1 (by decide))]
    by_cases e : j = i
    · rw [if_pos ⟨rfl, by rw [e], hq⟩, if_pos ⟨rfl, by omega, by omega⟩]
    · rw [if_neg (fun x => e (h.1 _ _ _ _ x.2.1).2), if_neg (fun x => by omega), zi_o (by decide)]; exact b q hq
theorem WV_row {n : Nat} (hW : WV n V) (h0 : V.1 37 0 = 0) {i p : Nat} (hp : p ≤ 200) : WV n (rwP V i (nI p) 200) := by
  have E : ∀ g, (g ≠ 1 ∧ g ≠ 2) → (rwP V i (nI p) 200).1 g = V.1 g := fun g hg => rwP_o hg
  have E2 : ∀ g, g ≠ 200 → (rwP V i (nI p) 200).2 g = V.2 g := fun _ _ => rfl
  have h15 := hW
  obtain ⟨⟨w1, w2, w3, w4, w5, w6, w7, w8, w9, w10, w11, w12, w13, w18, w20, w22, w23, w24⟩, w14, w15, w16, w17, w19, w21⟩ := hW
  refine ⟨⟨W1_c (E 35 (by decide)) w1, W2_c (E 35 (by decide)) w2, W3_c (E 7 (by decide)) w3, W4_c (E 7 (by decide)) w4, W5_c (E 7 (by decide)) (E 9 (by decide)) (E 35 (by decide)) w5, W6_c (E 10 (by decide)) (E 35 (by decide)) w6, ?_, ?_, W9_c (E 6 (by decide)) w9, W10_c (E 5 (by decide)) w10, ?_, W12_c (E 10 (by decide)) (E 27 (by decide)) (E 28 (by decide)) (E 29 (by decide)) (E 35 (by decide)) w12, W13_c (E 21 (by decide)) (E 23 (by decide)) (E 35 (by decide)) w13, W18_c (E 31 (by decide)) (E 32 (by decide)) (E 35 (by decide)) w18, W20_c (E 11 (by decide)) (E 35 (by decide)) w20, W22_c (E 18 (by decide)) (E 35 (by decide)) w22, W23_c (E 12 (by decide)) (E 13 (by decide)) (E 14 (by decide)) (E 16 (by decide)) (E 17 (by decide)) (E 18 (by decide)) (E 19 (by decide)) (E 20 (by decide)) (E 21 (by decide)) (E 22 (by decide)) (E 23 (by decide)) (E 24 (by decide)) (E 25 (by decide)) (E 26 (by decide)) (E 27 (by decide)) (E 28 (by decide)) (E 29 (by decide)) (E 30 (by decide)) (E 31 (by decide)) (E 32 (by decide)) (E 35 (by decide)) (E2 34 (by decide)) w23, W24_c (E 6 (by decide)) (E 7 (by decide)) w24⟩, W14_c (E 37 (by decide)) w14, W15_c (E 21 (by decide)) (E 22 (by decide)) (E 23 (by decide)) (E 24 (by decide)) (E 25 (by decide)) (E 26 (by decide)) (E 27 (by decide)) (E 37 (by decide)) w15, W16_c (E 25 (by decide)) (E 26 (by decide)) (E 27 (by decide)) (E 37 (by decide)) w16, W17_c (E 25 (by decide)) (E 26 (by decide)) (E 27 (by decide)) (E 35 (by decide)) w17, W19_c (E 11 (by decide)) (E 35 (by decide)) (E 36 (by decide)) w19, W21_c (E 41 (by decide)) (E 42 (by decide)) w21⟩
  · intro j hj
    unfold pl
    show (if 1 = 1 ∧ j = i then nI p else if 1 = 2 ∧ 200 * i ≤ j ∧ j < 200 * i + 200 then 0 else V.1 1 j) = nI (if 1 = 1 ∧ j = i then nI p else if 1 = 2 ∧ 200 * i ≤ j ∧ j < 200 * i + 200 then 0 else V.1 1 j).toNatClampNeg ∧ (if 1 = 1 ∧ j = i then nI p else if 1 = 2 ∧ 200 * i ≤ j ∧ j < 200 * i + 200 then 0 else V.1 1 j).toNatClampNeg ≤ 200
    by_cases e : j = i
    · rw [if_pos ⟨rfl, e⟩, nI_clamp (by omega)]; exact ⟨rfl, hp⟩
    · rw [if_neg (fun x => e x.2), if_neg (fun x => absurd x.1 (by decide))]; exact w7 j hj
  · intro q hq
    show ∃ m, m < 8 ∧ (if 2 = 1 ∧ q = i then nI p else if 2 = 2 ∧ 200 * i ≤ q ∧ q < 200 * i + 200 then 0 else V.1 2 q) = nI m
    rw [if_neg (fun x => absurd x.1 (by decide))]
    by_cases e : 200 * i ≤ q ∧ q < 200 * i + 200
    · rw [if_pos ⟨rfl, e⟩]; exact ⟨0, by decide, rfl⟩
    · rw [if_neg (fun x => e x.2)]; exact w8 q hq
  · intro t ht hs
    have hN := WB_2 h15.1
    have ht2 : t < tN V := ht
    exact absurd (WV_15 h15 h0 (show t < 200 by omega)).2.2.2.2.2.2 hs
end RO
section SX
variable {ra : Nat → Nat} {ms mo ou z : Nat}
theorem s_0 (hz : 8100 ≤ z) : S_0 (IN ms mo ou ra) z ms mo ou := by
  intro n K L c r p1 p2 hn hI
  obtain ⟨q1, q2, q3, A, h, hW, hM⟩ := hI
  generalize hV : vr ra mo r = V at h hW
  have hB := hW.1
  have hM1 : MS K ra mo (zui r 0 mo 0 0) := hM
  have hV1 : vr ra mo (zui r 0 mo 0 0) = V := by rw [vw_0, hV]
  have hT1 : zi (zui r 0 mo 0 0) 37 mo 0 = V.1 37 0 := by rw [← hV1]; rfl
  have t01 : zi (zui r 0 mo 0 0) 0 mo 0 = 0 := zi_thr
  have hW1 : WV (400 * (n + 1)) V := WV_mono (by omega) hW
  have THR : ∀ e : Int32, IN ms mo ou ra (n + 1) K L c (zui (zui r 0 mo 0 0) 0 mo 0 e) := fun e => IN_mk q1 q2 q3 h hW1 hM (by rw [vw_0, hV1])
  rcases in_of (p := p1) (N := 40) (n := 40) rfl (by decide) with ⟨i, hi, rfl⟩ | hp1
  · have K0 : K (A 0 i) = 0 := ((C1 h).1 i hi).1
    by_cases c1 : p2 < 0
    · refine ⟨.inr 2, (by rw [f_X6_row, k_rwIn h hi, zt_l, zn_s K0, if_pos c1]), fun x hx => by have e9 := Sum.inr.inj hx; omega, fun rr u h9 => ?_⟩
      have hu : rr = 2 ∧ u = (K, L, c) := by
        rcases h9 with ⟨_, e9, _⟩ | ⟨e9, h9⟩ | ⟨e9, h9⟩ | ⟨e9, h9⟩
        · cases e9
        · exact absurd (Sum.inr.inj e9) (by decide)
        · exact h9
        · exact absurd (Sum.inr.inj e9) (by decide)
      obtain ⟨rfl, rfl⟩ := hu
      exact ⟨_, (by rw [f_X7_row, zlet, m_noRowI hi, zb_s, m_thr0, zb2_s, if_pos rfl, if_pos c1, f_X7_row_29, f_X7_row_34, m_thr1, zb2_s, if_neg (by decide)]), zi_thr, THR 2⟩
    · by_cases c2 : p2 ≤ 200
      · rcases tm4 hW with c4 | c4
        · obtain ⟨p, hp, rfl⟩ := nI_of c1
          have hp2 : p ≤ 200 := (nI_leI (b := 200) hp (by decide)).mp c2
          have hM2 : MS K ra mo (zui (zui r 0 mo 0 0) 101 (ra 1) i (nI p)) := hM
          obtain ⟨r9, g1, g2, g3, g4⟩ := m_row71 (K := K) (z := z) (V := V) hi (nI p) z 0 _ hM2 (by rw [vw_1, hV1, rwP_0]) (by omega) (by omega)
          have LY := k_lay7 (z := z) h hi (nI p) z 0 (by omega) (by omega)
          rw [zci_0] at LY
          have t9 : zi r9 0 mo 0 = 0 := by rw [g4, zi_o (by decide), t01]
          refine ⟨.inl (zci (zui c 2 (A 0 i) 0 (nI p)) (A 1 i) 200), (by rw [f_X6_row, k_rwIn h hi, zt_l, zn_s K0, if_neg c1, if_pos c2, k_tm h, c4, if_neg (by decide), if_pos (by decide), zt_l, f_X0_lay, zlet, ← nI_0, LY, zb_s]), fun x hx => (by cases hx), fun rr u h9 => ?_⟩
          have hu : rr = 0 ∧ u = (K, L, (zci (zui c 2 (A 0 i) 0 (nI p)) (A 1 i) 200)) := by
            rcases h9 with ⟨c9, e9, h9⟩ | ⟨e9, _⟩ | ⟨e9, _⟩ | ⟨e9, _⟩
            · cases e9; exact h9
            · cases e9
            · cases e9
            · cases e9
          obtain ⟨rfl, rfl⟩ := hu
          exact ⟨r9, (by rw [f_X7_row, zlet, m_noRowI hi, zb_s, m_thr0, zb2_s, if_pos rfl, if_neg c1, if_pos c2, f_X7_row_34, m_thr0, zb2_s, if_pos rfl, hT1, c4, if_pos rfl, f_X7_row_54, m_thr0, zb2_s, if_pos rfl, zq_1 hM1, zx_4 hi, zlet, cl_ (by omega)]; exact g1), t9, IN_mk q1 q2 q3 (RC_row h hi _) (WV_row hW1 c4 hp2) g2 g3⟩
        · have c5 : ¬ V.1 37 0 = 0 := by rcases c4 with c4 | c4 | c4 <;> rw [c4] <;> decide
          have c6 : ¬ V.1 37 0 < 0 := by rcases c4 with c4 | c4 | c4 <;> rw [c4] <;> decide
          have c7 : ¬ V.1 37 0 ≤ 0 := by rcases c4 with c4 | c4 | c4 <;> rw [c4] <;> decide
          refine ⟨.inr 3, (by rw [f_X6_row, k_rwIn h hi, zt_l, zn_s K0, if_neg c1, if_pos c2, k_tm h, if_neg c6, if_neg c7, zt_r]), fun x hx => by have e9 := Sum.inr.inj hx; omega, fun rr u h9 => ?_⟩
          have hu : rr = 3 ∧ u = (K, L, c) := by
            rcases h9 with ⟨_, e9, _⟩ | ⟨e9, h9⟩ | ⟨e9, h9⟩ | ⟨e9, h9⟩
            · cases e9
            · exact absurd (Sum.inr.inj e9) (by decide)
            · exact absurd (Sum.inr.inj e9) (by decide)
            · exact h9
          obtain ⟨rfl, rfl⟩ := hu
          exact ⟨_, (by rw [f_X7_row, zlet, m_noRowI hi, zb_s, m_thr0, zb2_s, if_pos rfl, if_neg c1, if_pos c2, f_X7_row_34, m_thr0, zb2_s, if_pos rfl, hT1, if_neg c5, f_X7_row_54, m_thr1, zb2_s, if_neg (by decide)]), zi_thr, THR 3⟩
      · refine ⟨.inr 2, (by rw [f_X6_row, k_rwIn h hi, zt_l, zn_s K0, if_neg c1, if_neg c2]), fun x hx => by have e9 := Sum.inr.inj hx; omega, fun rr u h9 => ?_⟩
        have hu : rr = 2 ∧ u = (K, L, c) := by
          rcases h9 with ⟨_, e9, _⟩ | ⟨e9, h9⟩ | ⟨e9, h9⟩ | ⟨e9, h9⟩
          · cases e9
          · exact absurd (Sum.inr.inj e9) (by decide)
          · exact h9
          · exact absurd (Sum.inr.inj e9) (by decide)
        obtain ⟨rfl, rfl⟩ := hu
        exact ⟨_, (by rw [f_X7_row, zlet, m_noRowI hi, zb_s, m_thr0, zb2_s, if_pos rfl, if_neg c1, if_neg c2, f_X7_row_29, f_X7_row_34, m_thr1, zb2_s, if_neg (by decide)]), zi_thr, THR 2⟩
  · refine ⟨.inr 1, (by rw [f_X6_row, k_rwOut hp1, zt_r]), fun x hx => by have e9 := Sum.inr.inj hx; omega, fun rr u h9 => ?_⟩
    have hu : rr = 1 ∧ u = (K, L, c) := by
      rcases h9 with ⟨_, e9, _⟩ | ⟨e9, h9⟩ | ⟨e9, h9⟩ | ⟨e9, h9⟩
      · cases e9
      · exact h9
      · exact absurd (Sum.inr.inj e9) (by decide)
      · exact absurd (Sum.inr.inj e9) (by decide)
    obtain ⟨rfl, rfl⟩ := hu
    exact ⟨_, (by rw [f_X7_row, zlet, m_noRow hp1, zb_s, m_thr1, zb2_s, if_neg (by decide)]), zi_thr, THR 1⟩

end SX

