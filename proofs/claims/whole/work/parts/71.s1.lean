theorem uV_n {V : zV} {k t a : Nat} {v : Int32} (h : a ≠ t) (g : Nat) : (uV V k t v).1 g a = V.1 g a := by rw [uV_1, if_neg (fun x => h x.2)]
/-- a number of a trader that nothing else rests on -/
theorem WV_u {n : Nat} {V : zV} (hW : WV n V) {k t : Nat} {v : Int32} (hk : k ∈ [12, 13, 14, 15, 19, 20]) (ht : t < tN V) : WV n (uV V k t v) := by
  have E : ∀ g, (g ≠ 12 ∧ g ≠ 13 ∧ g ≠ 14 ∧ g ≠ 15 ∧ g ≠ 19 ∧ g ≠ 20) → (uV V k t v).1 g = V.1 g := fun g hg => uV_o (fun e => by
    subst e
    simp only [List.mem_cons, List.not_mem_nil, or_false] at hk
    omega)
  have E2 : ∀ g, g ≠ 200 → (uV V k t v).2 g = V.2 g := fun _ _ => rfl
  obtain ⟨⟨w1, w2, w3, w4, w5, w6, w7, w8, w9, w10, w11, w12, w13, w18, w20, w22, w23, w24⟩, w14, w15, w16, w17, w19, w21⟩ := hW
  have eN : tN (uV V k t v) = tN V := by unfold tN; rw [E 35 (by decide)]
  refine ⟨⟨W1_c (E 35 (by decide)) w1, W2_c (E 35 (by decide)) w2, W3_c (E 7 (by decide)) w3, W4_c (E 7 (by decide)) w4, W5_c (E 7 (by decide)) (E 9 (by decide)) (E 35 (by decide)) w5, W6_c (E 10 (by decide)) (E 35 (by decide)) w6, W7_c (E 1 (by decide)) w7, W8_c (E 2 (by decide)) w8, W9_c (E 6 (by decide)) w9, W10_c (E 5 (by decide)) w10, W11_c (E 1 (by decide)) (E 10 (by decide)) (E 27 (by decide)) (E 28 (by decide)) (E 29 (by decide)) (E 35 (by decide)) w11, W12_c (E 10 (by decide)) (E 27 (by decide)) (E 28 (by decide)) (E 29 (by decide)) (E 35 (by decide)) w12, W13_c (E 21 (by decide)) (E 23 (by decide)) (E 35 (by decide)) w13, W18_c (E 31 (by decide)) (E 32 (by decide)) (E 35 (by decide)) w18, W20_c (E 11 (by decide)) (E 35 (by decide)) w20, W22_c (E 18 (by decide)) (E 35 (by decide)) w22, ?_, W24_c (E 6 (by decide)) (E 7 (by decide)) w24⟩, W14_c (E 37 (by decide)) w14, W15_c (E 21 (by decide)) (E 22 (by decide)) (E 23 (by decide)) (E 24 (by decide)) (E 25 (by decide)) (E 26 (by decide)) (E 27 (by decide)) (E 37 (by decide)) w15, W16_c (E 25 (by decide)) (E 26 (by decide)) (E 27 (by decide)) (E 37 (by decide)) w16, W17_c (E 25 (by decide)) (E 26 (by decide)) (E 27 (by decide)) (E 35 (by decide)) w17, W19_c (E 11 (by decide)) (E 35 (by decide)) (E 36 (by decide)) w19, W21_c (E 41 (by decide)) (E 42 (by decide)) w21⟩
  intro a ha h2
  rw [eN] at ha
  have hne : a ≠ t := by omega
  have h := w23 a ha h2
  simp only [uV_n hne, E 16 (by decide), E 17 (by decide)]
  exact h
theorem hc_zz (p : Int32) : (if p = 0 then (0 : Int32) else 1) = 0 ∨ (if p = 0 then (0 : Int32) else 1) = 1 := by
  by_cases h : p = 0
  · rw [if_pos h]; exact Or.inl rfl
  · rw [if_neg h]; exact Or.inr rfl
section SX
variable {ra : Nat → Nat} {ms mo ou z : Nat}
theorem s_6 (hz : 8100 ≤ z) : S_6 (IN ms mo ou ra) z ms mo ou := by
  intro n K L c r p1 p2 hn hI
  obtain ⟨q1, q2, q3, A, h, hW, hM⟩ := hI
  generalize hV : vr ra mo r = V at h hW
  have hB := hW.1
  have hM1 : MS K ra mo (zui r 0 mo 0 0) := hM
  have hV1 : vr ra mo (zui r 0 mo 0 0) = V := by rw [vw_0, hV]
  have hT1 : zi (zui r 0 mo 0 0) 37 mo 0 = V.1 37 0 := by rw [← hV1]; rfl
  have t01 : zi (zui r 0 mo 0 0) 0 mo 0 = 0 := zi_thr
  have hW1 : WV (400 * (n + 1)) V := WV_mono (by omega) hW
  have THR : ∀ e : Int32, IN ms mo ou ra (n + 1) K L c (zui (zui r 0 mo 0 0) 0 mo 0 e) := fun e => IN_mk q1 q2 q3 h hW1 hM (by rw [vw_0, hV1])
  have hN := WB_2 hB
  rcases tr_in hB p1 with ⟨t, ht, rfl⟩ | hp1
  · have ht2 : t < 200 := by omega
    have ht8 : t < 8000 := by omega
    have e8 : zi (zui r 0 mo 0 0) 108 (ra 8) t = V.1 8 t := by rw [← hV1]; rfl
    by_cases c1 : V.1 8 t = 2
    · by_cases c2 : p2 < 0
      · refine ⟨.inr 2, (by rw [f_X6_months, k_trIn h hB ht, zt_l, zn_s (K4 h ht), rt_86_4 h ht, if_pos c1, if_pos c2]), fun x hx => by have e9 := Sum.inr.inj hx; omega, fun rr u h9 => ?_⟩
        have hu : rr = 2 ∧ u = (K, L, c) := by
          rcases h9 with ⟨_, e9, _⟩ | ⟨e9, h9⟩ | ⟨e9, h9⟩ | ⟨e9, h9⟩
          · cases e9
          · exact absurd (Sum.inr.inj e9) (by decide)
          · exact h9
          · exact absurd (Sum.inr.inj e9) (by decide)
        obtain ⟨rfl, rfl⟩ := hu
        exact ⟨_, (by rw [f_X7_months, zlet, m_noTr hV1 hB ht, zb_s, m_thr0, zb2_s, if_pos rfl, zq_8 hM1, zx_2 ht2, cl_ ht8, e8, if_pos c1, if_pos c2, f_X7_months_40, f_X7_months_45, m_thr1, zb2_s, if_neg (by decide)]), zi_thr, THR 2⟩
      · by_cases c3 : p2 ≤ 4095
        · rcases tm4 hW with c4 | c4
          · refine ⟨.inl (zui c 88 (A 4 t) 0 p2), (by rw [f_X6_months, k_trIn h hB ht, zt_l, zn_s (K4 h ht), rt_86_4 h ht, if_pos c1, if_neg c2, if_pos c3, k_tm h, c4, if_neg (by decide), if_pos (by decide), zt_l, zlet]), fun x hx => (by cases hx), fun rr u h9 => ?_⟩
            have hu : rr = 0 ∧ u = (K, L, (zui c 88 (A 4 t) 0 p2)) := by
              rcases h9 with ⟨c9, e9, h9⟩ | ⟨e9, _⟩ | ⟨e9, _⟩ | ⟨e9, _⟩
              · cases e9; exact h9
              · cases e9
              · cases e9
              · cases e9
            obtain ⟨rfl, rfl⟩ := hu
            exact ⟨_, (by rw [f_X7_months, zlet, m_noTr hV1 hB ht, zb_s, m_thr0, zb2_s, if_pos rfl, zq_8 hM1, zx_2 ht2, cl_ ht8, e8, if_pos c1, if_neg c2, if_pos c3, f_X7_months_45, m_thr0, zb2_s, if_pos rfl, hT1, c4, if_pos rfl, f_X7_months_65, m_thr0, zb2_s, if_pos rfl, zq_15 hM1, zx_2 ht2, zlet, cl_ ht8]), (by rw [zi_zui, if_neg (fun x => absurd x.1 (by decide)), t01]), IN_mk (V' := uV V 15 t p2) q1 q2 q3 (RC_u h (by decide) (by decide) (by decide)) (WV_u hW1 (by decide) ht) (by exact hM) (by rw [vw_15, hV1])⟩
          · have c5 : ¬ V.1 37 0 = 0 := by rcases c4 with c4 | c4 | c4 <;> rw [c4] <;> decide
            have c6 : ¬ V.1 37 0 < 0 := by rcases c4 with c4 | c4 | c4 <;> rw [c4] <;> decide
            have c7 : ¬ V.1 37 0 ≤ 0 := by rcases c4 with c4 | c4 | c4 <;> rw [c4] <;> decide
            refine ⟨.inr 3, (by rw [f_X6_months, k_trIn h hB ht, zt_l, zn_s (K4 h ht), rt_86_4 h ht, if_pos c1, if_neg c2, if_pos c3, k_tm h, if_neg c6, if_neg c7, zt_r]), fun x hx => by have e9 := Sum.inr.inj hx; omega, fun rr u h9 => ?_⟩
            have hu : rr = 3 ∧ u = (K, L, c) := by
              rcases h9 with ⟨_, e9, _⟩ | ⟨e9, h9⟩ | ⟨e9, h9⟩ | ⟨e9, h9⟩
              · cases e9
              · exact absurd (Sum.inr.inj e9) (by decide)
              · exact absurd (Sum.inr.inj e9) (by decide)
              · exact h9
            obtain ⟨rfl, rfl⟩ := hu
            exact ⟨_, (by rw [f_X7_months, zlet, m_noTr hV1 hB ht, zb_s, m_thr0, zb2_s, if_pos rfl, zq_8 hM1, zx_2 ht2, cl_ ht8, e8, if_pos c1, if_neg c2, if_pos c3, f_X7_months_45, m_thr0, zb2_s, if_pos rfl, hT1, if_neg c5, f_X7_months_65, m_thr1, zb2_s, if_neg (by decide)]), zi_thr, THR 3⟩
        · refine ⟨.inr 2, (by rw [f_X6_months, k_trIn h hB ht, zt_l, zn_s (K4 h ht), rt_86_4 h ht, if_pos c1, if_neg c2, if_neg c3]), fun x hx => by have e9 := Sum.inr.inj hx; omega, fun rr u h9 => ?_⟩
          have hu : rr = 2 ∧ u = (K, L, c) := by
            rcases h9 with ⟨_, e9, _⟩ | ⟨e9, h9⟩ | ⟨e9, h9⟩ | ⟨e9, h9⟩
            · cases e9
            · exact absurd (Sum.inr.inj e9) (by decide)
            · exact h9
            · exact absurd (Sum.inr.inj e9) (by decide)
          obtain ⟨rfl, rfl⟩ := hu
          exact ⟨_, (by rw [f_X7_months, zlet, m_noTr hV1 hB ht, zb_s, m_thr0, zb2_s, if_pos rfl, zq_8 hM1, zx_2 ht2, cl_ ht8, e8, if_pos c1, if_neg c2, if_neg c3, f_X7_months_40, f_X7_months_45, m_thr1, zb2_s, if_neg (by decide)]), zi_thr, THR 2⟩
    · refine ⟨.inr 2, (by rw [f_X6_months, k_trIn h hB ht, zt_l, zn_s (K4 h ht), rt_86_4 h ht, if_neg c1]), fun x hx => by have e9 := Sum.inr.inj hx; omega, fun rr u h9 => ?_⟩
      have hu : rr = 2 ∧ u = (K, L, c) := by
        rcases h9 with ⟨_, e9, _⟩ | ⟨e9, h9⟩ | ⟨e9, h9⟩ | ⟨e9, h9⟩
        · cases e9
        · exact absurd (Sum.inr.inj e9) (by decide)
        · exact h9
        · exact absurd (Sum.inr.inj e9) (by decide)
      obtain ⟨rfl, rfl⟩ := hu
      exact ⟨_, (by rw [f_X7_months, zlet, m_noTr hV1 hB ht, zb_s, m_thr0, zb2_s, if_pos rfl, zq_8 hM1, zx_2 ht2, cl_ ht8, e8, if_neg c1, f_X7_months_40, f_X7_months_45, m_thr1, zb2_s, if_neg (by decide)]), zi_thr, THR 2⟩
  · refine ⟨.inr 1, (by rw [f_X6_months, k_trOut h hB hp1, zt_r]), fun x hx => by have e9 := Sum.inr.inj hx; omega, fun rr u h9 => ?_⟩
    have hu : rr = 1 ∧ u = (K, L, c) := by
      rcases h9 with ⟨_, e9, _⟩ | ⟨e9, h9⟩ | ⟨e9, h9⟩ | ⟨e9, h9⟩
      · cases e9
      · exact h9
      · exact absurd (Sum.inr.inj e9) (by decide)
      · exact absurd (Sum.inr.inj e9) (by decide)
    obtain ⟨rfl, rfl⟩ := hu
    exact ⟨_, (by rw [f_X7_months, zlet, m_noTrO hV1 hp1, zb_s, m_thr1, zb2_s, if_neg (by decide)]), zi_thr, THR 1⟩

end SX

section SX
variable {ra : Nat → Nat} {ms mo ou z : Nat}
theorem s_9 (hz : 8100 ≤ z) : S_9 (IN ms mo ou ra) z ms mo ou := by
  intro n K L c r p1 p2 hn hI
  obtain ⟨q1, q2, q3, A, h, hW, hM⟩ := hI
  generalize hV : vr ra mo r = V at h hW
  have hB := hW.1
  have hM1 : MS K ra mo (zui r 0 mo 0 0) := hM
  have hV1 : vr ra mo (zui r 0 mo 0 0) = V := by rw [vw_0, hV]
  have hT1 : zi (zui r 0 mo 0 0) 37 mo 0 = V.1 37 0 := by rw [← hV1]; rfl
  have t01 : zi (zui r 0 mo 0 0) 0 mo 0 = 0 := zi_thr
  have hW1 : WV (400 * (n + 1)) V := WV_mono (by omega) hW
  have THR : ∀ e : Int32, IN ms mo ou ra (n + 1) K L c (zui (zui r 0 mo 0 0) 0 mo 0 e) := fun e => IN_mk q1 q2 q3 h hW1 hM (by rw [vw_0, hV1])
  have hN := WB_2 hB
  rcases tr_in hB p1 with ⟨t, ht, rfl⟩ | hp1
  · have ht2 : t < 200 := by omega
    have ht8 : t < 8000 := by omega
    refine ⟨.inl (zui c 89 (A 4 t) 0 (if p2 = 0 then 0 else 1)), (by rw [f_X6_want, k_trIn h hB ht, zt_l, zn_s (K4 h ht), zz_p (hc_zz p2), zlet]), fun x hx => (by cases hx), fun rr u h9 => ?_⟩
    have hu : rr = 0 ∧ u = (K, L, (zui c 89 (A 4 t) 0 (if p2 = 0 then 0 else 1))) := by
      rcases h9 with ⟨c9, e9, h9⟩ | ⟨e9, _⟩
      · cases e9; exact h9
      · cases e9
    obtain ⟨rfl, rfl⟩ := hu
    exact ⟨_, (by rw [f_X7_want, zlet, m_noTr hV1 hB ht, zb_s, m_thr0, zb2_s, if_pos rfl, zq_20 hM1, zx_2 ht2, zz_p (hc_zz p2), zlet, cl_ ht8]), (by rw [zi_zui, if_neg (fun x => absurd x.1 (by decide)), t01]), IN_mk (V' := uV V 20 t (if p2 = 0 then 0 else 1)) q1 q2 q3 (RC_u h (by decide) (by decide) (by decide)) (WV_u hW1 (by decide) ht) (by exact hM) (by rw [vw_20, hV1])⟩
  · refine ⟨.inr 1, (by rw [f_X6_want, k_trOut h hB hp1, zt_r]), fun x hx => by have e9 := Sum.inr.inj hx; omega, fun rr u h9 => ?_⟩
    have hu : rr = 1 ∧ u = (K, L, c) := by
      rcases h9 with ⟨_, e9, _⟩ | ⟨e9, h9⟩
      · cases e9
      · exact h9
    obtain ⟨rfl, rfl⟩ := hu
    exact ⟨_, (by rw [f_X7_want, zlet, m_noTrO hV1 hp1, zb_s, m_thr1, zb2_s, if_neg (by decide)]), zi_thr, THR 1⟩

end SX

section SX
variable {ra : Nat → Nat} {ms mo ou z : Nat}
theorem s_14 (hz : 8100 ≤ z) : S_14 (IN ms mo ou ra) z ms mo ou := by
  intro n K L c r p1 p2 p3 hn hI
  obtain ⟨q1, q2, q3, A, h, hW, hM⟩ := hI
  generalize hV : vr ra mo r = V at h hW
  have hB := hW.1
  have hM1 : MS K ra mo (zui r 0 mo 0 0) := hM
  have hV1 : vr ra mo (zui r 0 mo 0 0) = V := by rw [vw_0, hV]
  have hT1 : zi (zui r 0 mo 0 0) 37 mo 0 = V.1 37 0 := by rw [← hV1]; rfl
  have t01 : zi (zui r 0 mo 0 0) 0 mo 0 = 0 := zi_thr
  have hW1 : WV (400 * (n + 1)) V := WV_mono (by omega) hW
  have THR : ∀ e : Int32, IN ms mo ou ra (n + 1) K L c (zui (zui r 0 mo 0 0) 0 mo 0 e) := fun e => IN_mk q1 q2 q3 h hW1 hM (by rw [vw_0, hV1])
  have hN := WB_2 hB
  rcases tr_in hB p1 with ⟨t, ht, rfl⟩ | hp1
  · have ht2 : t < 200 := by omega
    have ht8 : t < 8000 := by omega
    refine ⟨.inl (ag V t p2 p3), (by rw [f_X6_why, k_trIn h hB ht, zt_l, zn_s (K4 h ht), k_against h hB (by omega) ht, zb_s]), fun x hx => (by cases hx), fun rr u h9 => ?_⟩
    have hu : rr = 0 ∧ u = (K, L, (zul c 170 ou 0 (Int32.toInt64 (ag V t p2 p3)))) := by
      rcases h9 with ⟨x9, e9, h9⟩ | ⟨e9, _⟩
      · cases e9; exact h9
      · cases e9
    obtain ⟨rfl, rfl⟩ := hu
    exact ⟨ag V t p2 p3, _, (by rw [f_X7_why, zlet, m_noTr hV1 hB ht, zb_s, m_thr0, zb2_s, if_pos rfl, m_against hM1 hV1 hB (by omega) ht, zb_s]), t01, (fun _ => by rw [zl_zul, if_pos ⟨rfl, rfl, rfl⟩]), IN_mk q1 q2 q3 (RC_zl h) hW1 hM1 hV1⟩
  · refine ⟨.inr 1, (by rw [f_X6_why, k_trOut h hB hp1, zt_r]), fun x hx => by have e9 := Sum.inr.inj hx; omega, fun rr u h9 => ?_⟩
    have hu : rr = 1 ∧ u = (K, L, c) := by
      rcases h9 with ⟨_, e9, _⟩ | ⟨e9, h9⟩
      · cases e9
      · exact h9
    obtain ⟨rfl, rfl⟩ := hu
    exact ⟨0, _, (by rw [f_X7_why, zlet, m_noTrO hV1 hp1, zb_s, m_thr1, zb2_s, if_neg (by decide)]), zi_thr, fun x => absurd x (by decide), THR 1⟩

end SX

section SX
variable {ra : Nat → Nat} {ms mo ou z : Nat}
theorem s_15 (hz : 8100 ≤ z) : S_15 (IN ms mo ou ra) z ms mo ou := by
  intro n K L c r p1 hn hI
  obtain ⟨q1, q2, q3, A, h, hW, hM⟩ := hI
  generalize hV : vr ra mo r = V at h hW
  have hB := hW.1
  have hM1 : MS K ra mo (zui r 0 mo 0 0) := hM
  have hV1 : vr ra mo (zui r 0 mo 0 0) = V := by rw [vw_0, hV]
  have hT1 : zi (zui r 0 mo 0 0) 37 mo 0 = V.1 37 0 := by rw [← hV1]; rfl
  have t01 : zi (zui r 0 mo 0 0) 0 mo 0 = 0 := zi_thr
  have hW1 : WV (400 * (n + 1)) V := WV_mono (by omega) hW
  have THR : ∀ e : Int32, IN ms mo ou ra (n + 1) K L c (zui (zui r 0 mo 0 0) 0 mo 0 e) := fun e => IN_mk q1 q2 q3 h hW1 hM (by rw [vw_0, hV1])
  have hN := WB_2 hB
  rcases tr_in hB p1 with ⟨t, ht, rfl⟩ | hp1
  · have ht2 : t < 200 := by omega
    have ht8 : t < 8000 := by omega
    obtain ⟨r9, g1, g2⟩ := m_goodSpot hM1 hV1 hB hz ht
    refine ⟨.inl (gs V t), (by rw [f_X6_good, k_trIn h hB ht, zt_l, zn_s (K4 h ht), k_good h hB (by omega) ht, zb_s]), fun x hx => (by cases hx), fun rr u h9 => ?_⟩
    have hu : rr = 0 ∧ u = (K, L, (zul c 170 ou 0 (Int32.toInt64 (gs V t)))) := by
      rcases h9 with ⟨x9, e9, h9⟩ | ⟨e9, _⟩
      · cases e9; exact h9
      · cases e9
    obtain ⟨rfl, rfl⟩ := hu
    exact ⟨gs V t, r9, (by rw [f_X7_good, zlet, m_noTr hV1 hB ht, zb_s, m_thr0, zb2_s, if_pos rfl, g1, zb2_s]), (by rw [Fr_thr g2 (by decide), t01]), (fun _ => by rw [zl_zul, if_pos ⟨rfl, rfl, rfl⟩]), IN_mk q1 q2 q3 (RC_zl h) hW1 (Fr_ms g2 hM1) (by rw [Fr_vr g2 (by decide), hV1])⟩
  · refine ⟨.inr 1, (by rw [f_X6_good, k_trOut h hB hp1, zt_r]), fun x hx => by have e9 := Sum.inr.inj hx; omega, fun rr u h9 => ?_⟩
    have hu : rr = 1 ∧ u = (K, L, c) := by
      rcases h9 with ⟨_, e9, _⟩ | ⟨e9, h9⟩
      · cases e9
      · exact h9
    obtain ⟨rfl, rfl⟩ := hu
    exact ⟨0, _, (by rw [f_X7_good, zlet, m_noTrO hV1 hp1, zb_s, m_thr1, zb2_s, if_neg (by decide)]), zi_thr, fun x => absurd x (by decide), THR 1⟩

end SX

section SX
variable {ra : Nat → Nat} {ms mo ou z : Nat}
theorem s_26 (hz : 8100 ≤ z) : S_26 (IN ms mo ou ra) z ms mo ou := by
  intro n K L c r p1 hn hI
  obtain ⟨q1, q2, q3, A, h, hW, hM⟩ := hI
  generalize hV : vr ra mo r = V at h hW
  have hB := hW.1
  have hM1 : MS K ra mo (zui r 0 mo 0 0) := hM
  have hV1 : vr ra mo (zui r 0 mo 0 0) = V := by rw [vw_0, hV]
  have hT1 : zi (zui r 0 mo 0 0) 37 mo 0 = V.1 37 0 := by rw [← hV1]; rfl
  have t01 : zi (zui r 0 mo 0 0) 0 mo 0 = 0 := zi_thr
  have hW1 : WV (400 * (n + 1)) V := WV_mono (by omega) hW
  have THR : ∀ e : Int32, IN ms mo ou ra (n + 1) K L c (zui (zui r 0 mo 0 0) 0 mo 0 e) := fun e => IN_mk q1 q2 q3 h hW1 hM (by rw [vw_0, hV1])
  have hN := WB_2 hB
  rcases tr_in hB p1 with ⟨t, ht, rfl⟩ | hp1
  · have ht2 : t < 200 := by omega
    have ht8 : t < 8000 := by omega
    have e34 : zl (zui r 0 mo 0 0) 134 (ra 34) t = V.2 34 t := by rw [← hV1]; rfl
    refine ⟨.inl (V.2 34 t), (by rw [f_X6_owed, k_trIn h hB ht, zt_l, zn_s (K4 h ht), (C9 h t ht).2.2]), fun x hx => (by cases hx), fun rr u h9 => ?_⟩
    have hu : rr = 0 ∧ u = (K, L, (zul c 170 ou 0 (V.2 34 t))) := by
      rcases h9 with ⟨x9, e9, h9⟩ | ⟨e9, _⟩
      · cases e9; exact h9
      · cases e9
    obtain ⟨rfl, rfl⟩ := hu
    exact ⟨V.2 34 t, _, (by rw [f_X7_owed, zlet, m_noTr hV1 hB ht, zb_s, m_thr0, zb2_s, if_pos rfl, zq_34 hM1, zx_2 ht2, cl_ ht8, e34]), t01, (fun _ => by rw [zl_zul, if_pos ⟨rfl, rfl, rfl⟩]), IN_mk q1 q2 q3 (RC_zl h) hW1 hM1 hV1⟩
  · refine ⟨.inr 1, (by rw [f_X6_owed, k_trOut h hB hp1, zt_r]), fun x hx => by have e9 := Sum.inr.inj hx; omega, fun rr u h9 => ?_⟩
    have hu : rr = 1 ∧ u = (K, L, c) := by
      rcases h9 with ⟨_, e9, _⟩ | ⟨e9, h9⟩
      · cases e9
      · exact h9
    obtain ⟨rfl, rfl⟩ := hu
    exact ⟨0, _, (by rw [f_X7_owed, zlet, m_noTrO hV1 hp1, zb_s, m_thr1, zb2_s, if_neg (by decide)]), zi_thr, fun x => absurd x (by decide), THR 1⟩

end SX

