section SX
variable {ra : Nat → Nat} {ms mo ou z : Nat}
theorem s_5 (hz : 8100 ≤ z) : S_5 (IN ms mo ou ra) z ms mo ou := by
  intro n K L c r p1 p2 p3 hn hI
  obtain ⟨q1, q2, q3, A, h, hW, hM⟩ := hI
  generalize hV : vr ra mo r = V at h hW
  have hB := hW.1
  have hM1 : MS K ra mo (zui r 0 mo 0 0) := hM
  have hV1 : vr ra mo (zui r 0 mo 0 0) = V := by rw [vw_0, hV]
  have hT1 : zi (zui r 0 mo 0 0) 37 mo 0 = V.1 37 0 := by rw [← hV1]; rfl
  have t01 : zi (zui r 0 mo 0 0) 0 mo 0 = 0 := zi_thr
  have hW1 : WV (400 * (n + 1)) V := WV_mono (by omega) hW
  have THR : ∀ e : Int32, IN ms mo ou ra (n + 1) K L c (zui (zui r 0 mo 0 0) 0 mo 0 e) := fun e => IN_mk q1 q2 q3 h hW1 hM (by rw [vw_0, hV1])
  have hN := WB_2 hB
  rcases tr_in hB p1 with ⟨t, ht, rfl⟩ | hp1
  · have ht2 : t < 200 := by omega
    have ht8 : t < 8000 := by omega
    have e8 : zi (zui r 0 mo 0 0) 108 (ra 8) t = V.1 8 t := by rw [← hV1]; rfl
    by_cases c1 : V.1 8 t = 0
    · rcases tm4 hW with c4 | c4
      · refine ⟨.inl (zui (zui (zui c 20 (A 5 t) 0 1) 21 (A 5 t) 0 p2) 22 (A 5 t) 0 p3), (by rw [f_X6_pitch, k_trIn h hB ht, zt_l, zn_s (K4 h ht), rt_86_4 h ht, if_pos c1, f_X6_pitch_34, k_tm h, c4, if_neg (by decide), if_pos (by decide), zt_l, kn_83 h ht, f_X1_put, zlet, zlet, zlet, zb_s]), fun x hx => (by cases hx), fun rr u h9 => ?_⟩
        have hu : rr = 0 ∧ u = (K, L, (zui (zui (zui c 20 (A 5 t) 0 1) 21 (A 5 t) 0 p2) 22 (A 5 t) 0 p3)) := by
          rcases h9 with ⟨c9, e9, h9⟩ | ⟨e9, _⟩ | ⟨e9, _⟩ | ⟨e9, _⟩
          · cases e9; exact h9
          · cases e9
          · cases e9
          · cases e9
        obtain ⟨rfl, rfl⟩ := hu
        exact ⟨_, (by rw [f_X7_pitch, zlet, m_noTr hV1 hB ht, zb_s, m_thr0, zb2_s, if_pos rfl, zq_8 hM1, zx_2 ht2, cl_ ht8, e8, if_pos c1, f_X7_pitch_42, f_X7_pitch_43, m_thr0, zb2_s, if_pos rfl, hT1, c4, if_pos rfl, f_X7_pitch_63, m_thr0, zb2_s, if_pos rfl, zq_12 hM1, zx_2 ht2, zlet, cl_ ht8, zr_zui, zq_13 hM1, zx_2 ht2, zlet, zr_zui, zr_zui, zq_14 hM1, zx_2 ht2, zlet]), (by rw [zi_zui, if_neg (fun x => absurd x.1 (by decide)), zi_zui, if_neg (fun x => absurd x.1 (by decide)), zi_zui, if_neg (fun x => absurd x.1 (by decide)), t01]), IN_mk (V' := uV (uV (uV V 12 t 1) 13 t p2) 14 t p3) q1 q2 q3 (RC_u (RC_u (RC_u h (by decide) (by decide) (by decide)) (by decide) (by decide) (by decide)) (by decide) (by decide) (by decide)) (WV_u (WV_u (WV_u hW1 (by decide) ht) (by decide) ht) (by decide) ht) (by exact hM) (by rw [vw_14, vw_13, vw_12, hV1])⟩
      · have c5 : ¬ V.1 37 0 = 0 := by rcases c4 with c4 | c4 | c4 <;> rw [c4] <;> decide
        have c6 : ¬ V.1 37 0 < 0 := by rcases c4 with c4 | c4 | c4 <;> rw [c4] <;> decide
        have c7 : ¬ V.1 37 0 ≤ 0 := by rcases c4 with c4 | c4 | c4 <;> rw [c4] <;> decide
        refine ⟨.inr 3, (by rw [f_X6_pitch, k_trIn h hB ht, zt_l, zn_s (K4 h ht), rt_86_4 h ht, if_pos c1, f_X6_pitch_34, k_tm h, if_neg c6, if_neg c7, zt_r]), fun x hx => by have e9 := Sum.inr.inj hx; omega, fun rr u h9 => ?_⟩
        have hu : rr = 3 ∧ u = (K, L, c) := by
          rcases h9 with ⟨_, e9, _⟩ | ⟨e9, h9⟩ | ⟨e9, h9⟩ | ⟨e9, h9⟩
          · cases e9
          · exact absurd (Sum.inr.inj e9) (by decide)
          · exact absurd (Sum.inr.inj e9) (by decide)
          · exact h9
        obtain ⟨rfl, rfl⟩ := hu
        exact ⟨_, (by rw [f_X7_pitch, zlet, m_noTr hV1 hB ht, zb_s, m_thr0, zb2_s, if_pos rfl, zq_8 hM1, zx_2 ht2, cl_ ht8, e8, if_pos c1, f_X7_pitch_42, f_X7_pitch_43, m_thr0, zb2_s, if_pos rfl, hT1, if_neg c5, f_X7_pitch_63, m_thr1, zb2_s, if_neg (by decide)]), zi_thr, THR 3⟩
    · by_cases c2 : V.1 8 t = 2
      · rcases tm4 hW with c4 | c4
        · refine ⟨.inl (zui (zui (zui c 20 (A 5 t) 0 1) 21 (A 5 t) 0 p2) 22 (A 5 t) 0 p3), (by rw [f_X6_pitch, k_trIn h hB ht, zt_l, zn_s (K4 h ht), rt_86_4 h ht, if_neg c1, if_pos c2, f_X6_pitch_34, k_tm h, c4, if_neg (by decide), if_pos (by decide), zt_l, kn_83 h ht, f_X1_put, zlet, zlet, zlet, zb_s]), fun x hx => (by cases hx), fun rr u h9 => ?_⟩
          have hu : rr = 0 ∧ u = (K, L, (zui (zui (zui c 20 (A 5 t) 0 1) 21 (A 5 t) 0 p2) 22 (A 5 t) 0 p3)) := by
            rcases h9 with ⟨c9, e9, h9⟩ | ⟨e9, _⟩ | ⟨e9, _⟩ | ⟨e9, _⟩
            · cases e9; exact h9
            · cases e9
            · cases e9
            · cases e9
          obtain ⟨rfl, rfl⟩ := hu
          exact ⟨_, (by rw [f_X7_pitch, zlet, m_noTr hV1 hB ht, zb_s, m_thr0, zb2_s, if_pos rfl, zq_8 hM1, zx_2 ht2, cl_ ht8, e8, if_neg c1, zx_2 ht2, if_pos c2, f_X7_pitch_42, f_X7_pitch_43, m_thr0, zb2_s, if_pos rfl, hT1, c4, if_pos rfl, f_X7_pitch_63, m_thr0, zb2_s, if_pos rfl, zq_12 hM1, zx_2 ht2, zlet, cl_ ht8, zr_zui, zq_13 hM1, zx_2 ht2, zlet, zr_zui, zr_zui, zq_14 hM1, zx_2 ht2, zlet]), (by rw [zi_zui, if_neg (fun x => absurd x.1 (by decide)), zi_zui, if_neg (fun x => absurd x.1 (by decide)), zi_zui, if_neg (fun x => absurd x.1 (by decide)), t01]), IN_mk (V' := uV (uV (uV V 12 t 1) 13 t p2) 14 t p3) q1 q2 q3 (RC_u (RC_u (RC_u h (by decide) (by decide) (by decide)) (by decide) (by decide) (by decide)) (by decide) (by decide) (by decide)) (WV_u (WV_u (WV_u hW1 (by decide) ht) (by decide) ht) (by decide) ht) (by exact hM) (by rw [vw_14, vw_13, vw_12, hV1])⟩
        · have c5 : ¬ V.1 37 0 = 0 := by rcases c4 with c4 | c4 | c4 <;> rw [c4] <;> decide
          have c6 : ¬ V.1 37 0 < 0 := by rcases c4 with c4 | c4 | c4 <;> rw [c4] <;> decide
          have c7 : ¬ V.1 37 0 ≤ 0 := by rcases c4 with c4 | c4 | c4 <;> rw [c4] <;> decide
          refine ⟨.inr 3, (by rw [f_X6_pitch, k_trIn h hB ht, zt_l, zn_s (K4 h ht), rt_86_4 h ht, if_neg c1, if_pos c2, f_X6_pitch_34, k_tm h, if_neg c6, if_neg c7, zt_r]), fun x hx => by have e9 := Sum.inr.inj hx; omega, fun rr u h9 => ?_⟩
          have hu : rr = 3 ∧ u = (K, L, c) := by
            rcases h9 with ⟨_, e9, _⟩ | ⟨e9, h9⟩ | ⟨e9, h9⟩ | ⟨e9, h9⟩
            · cases e9
            · exact absurd (Sum.inr.inj e9) (by decide)
            · exact absurd (Sum.inr.inj e9) (by decide)
            · exact h9
          obtain ⟨rfl, rfl⟩ := hu
          exact ⟨_, (by rw [f_X7_pitch, zlet, m_noTr hV1 hB ht, zb_s, m_thr0, zb2_s, if_pos rfl, zq_8 hM1, zx_2 ht2, cl_ ht8, e8, if_neg c1, zx_2 ht2, if_pos c2, f_X7_pitch_42, f_X7_pitch_43, m_thr0, zb2_s, if_pos rfl, hT1, if_neg c5, f_X7_pitch_63, m_thr1, zb2_s, if_neg (by decide)]), zi_thr, THR 3⟩
      · refine ⟨.inr 2, (by rw [f_X6_pitch, k_trIn h hB ht, zt_l, zn_s (K4 h ht), rt_86_4 h ht, if_neg c1, if_neg c2]), fun x hx => by have e9 := Sum.inr.inj hx; omega, fun rr u h9 => ?_⟩
        have hu : rr = 2 ∧ u = (K, L, c) := by
          rcases h9 with ⟨_, e9, _⟩ | ⟨e9, h9⟩ | ⟨e9, h9⟩ | ⟨e9, h9⟩
          · cases e9
          · exact absurd (Sum.inr.inj e9) (by decide)
          · exact h9
          · exact absurd (Sum.inr.inj e9) (by decide)
        obtain ⟨rfl, rfl⟩ := hu
        exact ⟨_, (by rw [f_X7_pitch, zlet, m_noTr hV1 hB ht, zb_s, m_thr0, zb2_s, if_pos rfl, zq_8 hM1, zx_2 ht2, cl_ ht8, e8, if_neg c1, zx_2 ht2, if_neg c2, f_X7_pitch_43, m_thr1, zb2_s, if_neg (by decide)]), zi_thr, THR 2⟩
  · refine ⟨.inr 1, (by rw [f_X6_pitch, k_trOut h hB hp1, zt_r]), fun x hx => by have e9 := Sum.inr.inj hx; omega, fun rr u h9 => ?_⟩
    have hu : rr = 1 ∧ u = (K, L, c) := by
      rcases h9 with ⟨_, e9, _⟩ | ⟨e9, h9⟩ | ⟨e9, h9⟩ | ⟨e9, h9⟩
      · cases e9
      · exact h9
      · exact absurd (Sum.inr.inj e9) (by decide)
      · exact absurd (Sum.inr.inj e9) (by decide)
    obtain ⟨rfl, rfl⟩ := hu
    exact ⟨_, (by rw [f_X7_pitch, zlet, m_noTrO hV1 hp1, zb_s, m_thr1, zb2_s, if_neg (by decide)]), zi_thr, THR 1⟩

end SX

theorem WV_wishes {n : Nat} {V : zV} (hW : WV n V) {t : Nat} (ht : t < tN V) : WV n (uV V 18 t 0) := by
  have E : ∀ g, (g ≠ 18) → (uV V 18 t 0).1 g = V.1 g := fun g hg => uV_o hg
  have E2 : ∀ g, g ≠ 200 → (uV V 18 t 0).2 g = V.2 g := fun _ _ => rfl
  obtain ⟨⟨w1, w2, w3, w4, w5, w6, w7, w8, w9, w10, w11, w12, w13, w18, w20, w22, w23, w24⟩, w14, w15, w16, w17, w19, w21⟩ := hW
  refine ⟨⟨W1_c (E 35 (by decide)) w1, W2_c (E 35 (by decide)) w2, W3_c (E 7 (by decide)) w3, W4_c (E 7 (by decide)) w4, W5_c (E 7 (by decide)) (E 9 (by decide)) (E 35 (by decide)) w5, W6_c (E 10 (by decide)) (E 35 (by decide)) w6, W7_c (E 1 (by decide)) w7, W8_c (E 2 (by decide)) w8, W9_c (E 6 (by decide)) w9, W10_c (E 5 (by decide)) w10, W11_c (E 1 (by decide)) (E 10 (by decide)) (E 27 (by decide)) (E 28 (by decide)) (E 29 (by decide)) (E 35 (by decide)) w11, W12_c (E 10 (by decide)) (E 27 (by decide)) (E 28 (by decide)) (E 29 (by decide)) (E 35 (by decide)) w12, W13_c (E 21 (by decide)) (E 23 (by decide)) (E 35 (by decide)) w13, W18_c (E 31 (by decide)) (E 32 (by decide)) (E 35 (by decide)) w18, W20_c (E 11 (by decide)) (E 35 (by decide)) w20, ?_, ?_, W24_c (E 6 (by decide)) (E 7 (by decide)) w24⟩, W14_c (E 37 (by decide)) w14, W15_c (E 21 (by decide)) (E 22 (by decide)) (E 23 (by decide)) (E 24 (by decide)) (E 25 (by decide)) (E 26 (by decide)) (E 27 (by decide)) (E 37 (by decide)) w15, W16_c (E 25 (by decide)) (E 26 (by decide)) (E 27 (by decide)) (E 37 (by decide)) w16, W17_c (E 25 (by decide)) (E 26 (by decide)) (E 27 (by decide)) (E 35 (by decide)) w17, W19_c (E 11 (by decide)) (E 35 (by decide)) (E 36 (by decide)) w19, W21_c (E 41 (by decide)) (E 42 (by decide)) w21⟩
  · intro a ha
    by_cases e : a = t
    · subst e
      unfold wN
      rw [uV_s]
      exact ⟨rfl, by decide⟩
    · unfold wN
      rw [uV_t e]; exact w22 a ha
  · intro a ha h2
    have ha2 : tN V ≤ a := ha
    have hne : a ≠ t := by omega
    have h := w23 a ha h2
    simp only [uV_n hne, E 16 (by decide), E 17 (by decide)]
    exact h
section SX
variable {ra : Nat → Nat} {ms mo ou z : Nat}
theorem s_8 (hz : 8100 ≤ z) : S_8 (IN ms mo ou ra) z ms mo ou := by
  intro n K L c r p1 p2 hn hI
  obtain ⟨q1, q2, q3, A, h, hW, hM⟩ := hI
  generalize hV : vr ra mo r = V at h hW
  have hB := hW.1
  have hM1 : MS K ra mo (zui r 0 mo 0 0) := hM
  have hV1 : vr ra mo (zui r 0 mo 0 0) = V := by rw [vw_0, hV]
  have hT1 : zi (zui r 0 mo 0 0) 37 mo 0 = V.1 37 0 := by rw [← hV1]; rfl
  have t01 : zi (zui r 0 mo 0 0) 0 mo 0 = 0 := zi_thr
  have hW1 : WV (400 * (n + 1)) V := WV_mono (by omega) hW
  have THR : ∀ e : Int32, IN ms mo ou ra (n + 1) K L c (zui (zui r 0 mo 0 0) 0 mo 0 e) := fun e => IN_mk q1 q2 q3 h hW1 hM (by rw [vw_0, hV1])
  have hN := WB_2 hB
  rcases tr_in hB p1 with ⟨t, ht, rfl⟩ | hp1
  · have ht2 : t < 200 := by omega
    have ht8 : t < 8000 := by omega
    refine ⟨.inl (zui (zui c 102 (A 6 t) 0 0) 103 (A 6 t) 0 (if p2 = 0 then 0 else 1)), (by rw [f_X6_wishes, k_trIn h hB ht, zt_l, zn_s (K4 h ht), kn_84 h ht, f_X5_empty, zlet, zz_p (hc_zz p2), zlet, zb_s]), fun x hx => (by cases hx), fun rr u h9 => ?_⟩
    have hu : rr = 0 ∧ u = (K, L, (zui (zui c 102 (A 6 t) 0 0) 103 (A 6 t) 0 (if p2 = 0 then 0 else 1))) := by
      rcases h9 with ⟨c9, e9, h9⟩ | ⟨e9, _⟩
      · cases e9; exact h9
      · cases e9
    obtain ⟨rfl, rfl⟩ := hu
    exact ⟨_, (by rw [f_X7_wishes, zlet, m_noTr hV1 hB ht, zb_s, m_thr0, zb2_s, if_pos rfl, zq_18 hM1, zx_2 ht2, zlet, cl_ ht8, zr_zui, zq_19 hM1, zx_2 ht2, zz_p (hc_zz p2), zlet]), (by rw [zi_zui, if_neg (fun x => absurd x.1 (by decide)), zi_zui, if_neg (fun x => absurd x.1 (by decide)), t01]), IN_mk (V' := uV (uV V 18 t 0) 19 t (if p2 = 0 then 0 else 1)) q1 q2 q3 (RC_u (RC_u h (by decide) (by decide) (by decide)) (by decide) (by decide) (by decide)) (WV_u (WV_wishes hW1 ht) (by decide) ht) (by exact hM) (by rw [vw_19, vw_18, hV1])⟩
  · refine ⟨.inr 1, (by rw [f_X6_wishes, k_trOut h hB hp1, zt_r]), fun x hx => by have e9 := Sum.inr.inj hx; omega, fun rr u h9 => ?_⟩
    have hu : rr = 1 ∧ u = (K, L, c) := by
      rcases h9 with ⟨_, e9, _⟩ | ⟨e9, h9⟩
      · cases e9
      · exact h9
    obtain ⟨rfl, rfl⟩ := hu
    exact ⟨_, (by rw [f_X7_wishes, zlet, m_noTrO hV1 hp1, zb_s, m_thr1, zb2_s, if_neg (by decide)]), zi_thr, THR 1⟩

end SX

theorem WV_day {n : Nat} {V : zV} (hW : WV n V) (h0 : ¬ V.1 37 0 = 0) {k t : Nat} {v : Int32} (hk : k = 21 ∨ k = 22 ∨ k = 24) (hv : v = 0 ∨ v = 1) (ht : t < tN V) : WV n (uV V k t v) := by
  have E : ∀ g, (g ≠ 21 ∧ g ≠ 22 ∧ g ≠ 24) → (uV V k t v).1 g = V.1 g := fun g hg => uV_o (fun e => by omega)
  have E2 : ∀ g, g ≠ 200 → (uV V k t v).2 g = V.2 g := fun _ _ => rfl
  obtain ⟨⟨w1, w2, w3, w4, w5, w6, w7, w8, w9, w10, w11, w12, w13, w18, w20, w22, w23, w24⟩, w14, w15, w16, w17, w19, w21⟩ := hW
  have eN : tN (uV V k t v) = tN V := by unfold tN; rw [E 35 (by decide)]
  refine ⟨⟨W1_c (E 35 (by decide)) w1, W2_c (E 35 (by decide)) w2, W3_c (E 7 (by decide)) w3, W4_c (E 7 (by decide)) w4, W5_c (E 7 (by decide)) (E 9 (by decide)) (E 35 (by decide)) w5, W6_c (E 10 (by decide)) (E 35 (by decide)) w6, W7_c (E 1 (by decide)) w7, W8_c (E 2 (by decide)) w8, W9_c (E 6 (by decide)) w9, W10_c (E 5 (by decide)) w10, W11_c (E 1 (by decide)) (E 10 (by decide)) (E 27 (by decide)) (E 28 (by decide)) (E 29 (by decide)) (E 35 (by decide)) w11, W12_c (E 10 (by decide)) (E 27 (by decide)) (E 28 (by decide)) (E 29 (by decide)) (E 35 (by decide)) w12, ?_, W18_c (E 31 (by decide)) (E 32 (by decide)) (E 35 (by decide)) w18, W20_c (E 11 (by decide)) (E 35 (by decide)) w20, W22_c (E 18 (by decide)) (E 35 (by decide)) w22, ?_, W24_c (E 6 (by decide)) (E 7 (by decide)) w24⟩, W14_c (E 37 (by decide)) w14, ?_, W16_c (E 25 (by decide)) (E 26 (by decide)) (E 27 (by decide)) (E 37 (by decide)) w16, W17_c (E 25 (by decide)) (E 26 (by decide)) (E 27 (by decide)) (E 35 (by decide)) w17, W19_c (E 11 (by decide)) (E 35 (by decide)) (E 36 (by decide)) w19, W21_c (E 41 (by decide)) (E 42 (by decide)) w21⟩
  · intro a ha
    rw [eN] at ha
    obtain ⟨x, y⟩ := w13 a ha
    refine ⟨by rw [E 23 (by decide)]; exact x, ?_⟩
    rw [uV_1]
    split
    · exact hv
    · exact y
  · intro a ha h2
    rw [eN] at ha
    have hne : a ≠ t := by omega
    have h := w23 a ha h2
    simp only [uV_n hne, E 16 (by decide), E 17 (by decide)]
    exact h
  · intro e
    rw [E 37 (by decide)] at e
    exact absurd e h0
theorem RC_there {K : Nat → Nat} {A : Nat → Nat → Nat} {c : zS} {V : zV} {ms t : Nat} (h : RC K A c V ms) : RC K A (zui (zui c 42 (A 9 t) 0 1) 43 (A 9 t) 0 0) (uV V 21 t 1) ms := by
  have Ez : ∀ g, (g ≠ 42 ∧ g ≠ 43) → zi (zui (zui c 42 (A 9 t) 0 1) 43 (A 9 t) 0 0) g = zi c g := fun g hg => by rw [zi_o hg.2, zi_o hg.1]
  have El : ∀ g, g ≠ 1000 → zl (zui (zui c 42 (A 9 t) 0 1) 43 (A 9 t) 0 0) g = zl c g := fun _ _ => rfl
  have Er : ∀ g, g ≠ 1000 → zr (zui (zui c 42 (A 9 t) 0 1) 43 (A 9 t) 0 0) g = zr c g := fun _ _ => rfl
  have E : ∀ g, (g ≠ 21) → (uV V 21 t 1).1 g = V.1 g := fun g hg => uV_o hg
  have E2 : ∀ g, g ≠ 200 → (uV V 21 t 1).2 g = V.2 g := fun _ _ => rfl
  refine ⟨h.1, R1_c (E 7 (by decide)) (E 35 (by decide)) (C1 h), R2_c (Er 0 (by decide)) (Er 1 (by decide)) (Er 120 (by decide)) (Er 121 (by decide)) (Er 122 (by decide)) (Er 123 (by decide)) (Er 124 (by decide)) (Er 143 (by decide)) (C2 h), R3_c (Er 144 (by decide)) (Er 145 (by decide)) (E 7 (by decide)) (E 35 (by decide)) (C3 h), R4_c (Er 40 (by decide)) (Er 81 (by decide)) (Er 83 (by decide)) (Er 84 (by decide)) (Er 85 (by decide)) (Er 100 (by decide)) (Er 101 (by decide)) (E 9 (by decide)) (E 35 (by decide)) (C4 h), ?_, R6_c (Ez 141 (by decide)) (Ez 142 (by decide)) (E 16 (by decide)) (E 17 (by decide)) (E 35 (by decide)) (C6 h), R7_c (Ez 2 (by decide)) (Ez 140 (by decide)) (E 1 (by decide)) (E 2 (by decide)) (C7 h), R8_c (Ez 60 (by decide)) (Ez 61 (by decide)) (Ez 62 (by decide)) (Ez 63 (by decide)) (Ez 64 (by decide)) (E 3 (by decide)) (E 4 (by decide)) (E 5 (by decide)) (E 6 (by decide)) (E 7 (by decide)) (C8 h), ?_, R10_c (Ez 125 (by decide)) (Ez 126 (by decide)) (Ez 127 (by decide)) (Ez 128 (by decide)) (Ez 129 (by decide)) (Ez 130 (by decide)) (Ez 131 (by decide)) (El 134 (by decide)) (El 135 (by decide)) (El 136 (by decide)) (El 137 (by decide)) (E 7 (by decide)) (E 35 (by decide)) (E 36 (by decide)) (E 37 (by decide)) (E 38 (by decide)) (E 39 (by decide)) (E 40 (by decide)) (E 41 (by decide)) (E 42 (by decide)) (E2 43 (by decide)) (E2 44 (by decide)) (C10 h), R11_c (Ez 65 (by decide)) (E 7 (by decide)) (E 9 (by decide)) (E 27 (by decide)) (E 35 (by decide)) (C11 h), R12_c (Ez 132 (by decide)) (Ez 133 (by decide)) (E 8 (by decide)) (E 27 (by decide)) (E 35 (by decide)) (C12 h), R13_c (Er 148 (by decide)) (E 10 (by decide)) (E 27 (by decide)) (E 28 (by decide)) (E 29 (by decide)) (E 35 (by decide)) (C13 h), R14_c (Er 146 (by decide)) (E 11 (by decide)) (E 35 (by decide)) (C14 h), R15_c (Ez 47 (by decide)) (E 35 (by decide)) (E 60 (by decide)) (C15 h)⟩
  · have h6 : R5 A (zui c 42 (A 9 t) 0 1) (uV V 21 t 1) := R5_u1 h.1 (by decide) (by decide) (C5 h)
    have Ez : ∀ g, (g ≠ 43) → zi (zui (zui c 42 (A 9 t) 0 1) 43 (A 9 t) 0 0) g = zi (zui c 42 (A 9 t) 0 1) g := fun g hg => zi_o hg
    have E : ∀ g, g ≠ 200 → (uV V 21 t 1).1 g = (uV V 21 t 1).1 g := fun _ _ => rfl
    exact R5_c (Ez 20 (by decide)) (Ez 21 (by decide)) (Ez 22 (by decide)) (Ez 41 (by decide)) (Ez 42 (by decide)) (Ez 44 (by decide)) (Ez 45 (by decide)) (Ez 46 (by decide)) (Ez 82 (by decide)) (Ez 86 (by decide)) (Ez 87 (by decide)) (Ez 88 (by decide)) (Ez 89 (by decide)) (Ez 90 (by decide)) (Ez 91 (by decide)) (Ez 92 (by decide)) (Ez 102 (by decide)) (Ez 103 (by decide)) (E 8 (by decide)) (E 10 (by decide)) (E 11 (by decide)) (E 12 (by decide)) (E 13 (by decide)) (E 14 (by decide)) (E 15 (by decide)) (E 18 (by decide)) (E 19 (by decide)) (E 20 (by decide)) (E 21 (by decide)) (E 23 (by decide)) (E 24 (by decide)) (E 25 (by decide)) (E 27 (by decide)) (E 28 (by decide)) (E 29 (by decide)) (E 30 (by decide)) (E 31 (by decide)) (E 32 (by decide)) (E 33 (by decide)) (E 35 (by decide)) h6
  · intro j hj
    obtain ⟨a, b, d⟩ := C9 h j hj
    refine ⟨by rw [Ez 80 (by decide)]; exact a, ?_, d⟩
    rw [zi_zui, E 22 (by decide)]
    by_cases e : j = t
    · subst e
      rw [if_pos ⟨rfl, rfl, rfl⟩, uV_s, if_neg (by decide)]
    · rw [if_neg (fun x => e (h.1 _ _ _ _ x.2.1).2), zi_o (by decide), uV_t e]; exact b
theorem RC_word {K : Nat → Nat} {A : Nat → Nat → Nat} {c : zS} {V : zV} {ms t : Nat} (h : RC K A c V ms) (h0 : V.1 21 t = 0) : RC K A (zui c 43 (A 9 t) 0 1) (uV V 22 t 1) ms := by
  have Ez : ∀ g, (g ≠ 43) → zi (zui c 43 (A 9 t) 0 1) g = zi c g := fun g hg => zi_o hg
  have El : ∀ g, g ≠ 1000 → zl (zui c 43 (A 9 t) 0 1) g = zl c g := fun _ _ => rfl
  have Er : ∀ g, g ≠ 1000 → zr (zui c 43 (A 9 t) 0 1) g = zr c g := fun _ _ => rfl
  have E : ∀ g, (g ≠ 22) → (uV V 22 t 1).1 g = V.1 g := fun g hg => uV_o hg
  have E2 : ∀ g, g ≠ 200 → (uV V 22 t 1).2 g = V.2 g := fun _ _ => rfl
  refine ⟨h.1, R1_c (E 7 (by decide)) (E 35 (by decide)) (C1 h), R2_c (Er 0 (by decide)) (Er 1 (by decide)) (Er 120 (by decide)) (Er 121 (by decide)) (Er 122 (by decide)) (Er 123 (by decide)) (Er 124 (by decide)) (Er 143 (by decide)) (C2 h), R3_c (Er 144 (by decide)) (Er 145 (by decide)) (E 7 (by decide)) (E 35 (by decide)) (C3 h), R4_c (Er 40 (by decide)) (Er 81 (by decide)) (Er 83 (by decide)) (Er 84 (by decide)) (Er 85 (by decide)) (Er 100 (by decide)) (Er 101 (by decide)) (E 9 (by decide)) (E 35 (by decide)) (C4 h), R5_c (Ez 20 (by decide)) (Ez 21 (by decide)) (Ez 22 (by decide)) (Ez 41 (by decide)) (Ez 42 (by decide)) (Ez 44 (by decide)) (Ez 45 (by decide)) (Ez 46 (by decide)) (Ez 82 (by decide)) (Ez 86 (by decide)) (Ez 87 (by decide)) (Ez 88 (by decide)) (Ez 89 (by decide)) (Ez 90 (by decide)) (Ez 91 (by decide)) (Ez 92 (by decide)) (Ez 102 (by decide)) (Ez 103 (by decide)) (E 8 (by decide)) (E 10 (by decide)) (E 11 (by decide)) (E 12 (by decide)) (E 13 (by decide)) (E 14 (by decide)) (E 15 (by decide)) (E 18 (by decide)) (E 19 (by decide)) (E 20 (by decide)) (E 21 (by decide)) (E 23 (by decide)) (E 24 (by decide)) (E 25 (by decide)) (E 27 (by decide)) (E 28 (by decide)) (E 29 (by decide)) (E 30 (by decide)) (E 31 (by decide)) (E 32 (by decide)) (E 33 (by decide)) (E 35 (by decide)) (C5 h), R6_c (Ez 141 (by decide)) (Ez 142 (by decide)) (E 16 (by decide)) (E 17 (by decide)) (E 35 (by decide)) (C6 h), R7_c (Ez 2 (by decide)) (Ez 140 (by decide)) (E 1 (by decide)) (E 2 (by decide)) (C7 h), R8_c (Ez 60 (by decide)) (Ez 61 (by decide)) (Ez 62 (by decide)) (Ez 63 (by decide)) (Ez 64 (by decide)) (E 3 (by decide)) (E 4 (by decide)) (E 5 (by decide)) (E 6 (by decide)) (E 7 (by decide)) (C8 h), ?_, R10_c (Ez 125 (by decide)) (Ez 126 (by decide)) (Ez 127 (by decide)) (Ez 128 (by decide)) (Ez 129 (by decide)) (Ez 130 (by decide)) (Ez 131 (by decide)) (El 134 (by decide)) (El 135 (by decide)) (El 136 (by decide)) (El 137 (by decide)) (E 7 (by decide)) (E 35 (by decide)) (E 36 (by decide)) (E 37 (by decide)) (E 38 (by decide)) (E 39 (by decide)) (E 40 (by decide)) (E 41 (by decide)) (E 42 (by decide)) (E2 43 (by decide)) (E2 44 (by decide)) (C10 h), R11_c (Ez 65 (by decide)) (E 7 (by decide)) (E 9 (by decide)) (E 27 (by decide)) (E 35 (by decide)) (C11 h), R12_c (Ez 132 (by decide)) (Ez 133 (by decide)) (E 8 (by decide)) (E 27 (by decide)) (E 35 (by decide)) (C12 h), R13_c (Er 148 (by decide)) (E 10 (by decide)) (E 27 (by decide)) (E 28 (by decide)) (E 29 (by decide)) (E 35 (by decide)) (C13 h), R14_c (Er 146 (by decide)) (E 11 (by decide)) (E 35 (by decide)) (C14 h), R15_c (Ez 47 (by decide)) (E 35 (by decide)) (E 60 (by decide)) (C15 h)⟩
  intro j hj
  obtain ⟨a, b, d⟩ := C9 h j hj
  refine ⟨by rw [Ez 80 (by decide)]; exact a, ?_, d⟩
  rw [zi_zui, E 21 (by decide)]
  by_cases e : j = t
  · subst e
    rw [if_pos ⟨rfl, rfl, rfl⟩, uV_s, if_pos h0]
  · rw [if_neg (fun x => e (h.1 _ _ _ _ x.2.1).2), uV_t e]; exact b
section SX
variable {ra : Nat → Nat} {ms mo ou z : Nat}
theorem s_11 (hz : 8100 ≤ z) : S_11 (IN ms mo ou ra) z ms mo ou := by
  intro n K L c r p1 hn hI
  obtain ⟨q1, q2, q3, A, h, hW, hM⟩ := hI
  generalize hV : vr ra mo r = V at h hW
  have hB := hW.1
  have hM1 : MS K ra mo (zui r 0 mo 0 0) := hM
  have hV1 : vr ra mo (zui r 0 mo 0 0) = V := by rw [vw_0, hV]
  have hT1 : zi (zui r 0 mo 0 0) 37 mo 0 = V.1 37 0 := by rw [← hV1]; rfl
  have t01 : zi (zui r 0 mo 0 0) 0 mo 0 = 0 := zi_thr
  have hW1 : WV (400 * (n + 1)) V := WV_mono (by omega) hW
  have THR : ∀ e : Int32, IN ms mo ou ra (n + 1) K L c (zui (zui r 0 mo 0 0) 0 mo 0 e) := fun e => IN_mk q1 q2 q3 h hW1 hM (by rw [vw_0, hV1])
  have hN := WB_2 hB
  rcases tr_in hB p1 with ⟨t, ht, rfl⟩ | hp1
  · have ht2 : t < 200 := by omega
    have ht8 : t < 8000 := by omega
    have e21 : zi (zui r 0 mo 0 0) 121 (ra 21) t = V.1 21 t := by rw [← hV1]; rfl
    rcases tm4 hW with c4 | c4
    · refine ⟨.inr 3, (by rw [f_X6_there, k_trIn h hB ht, zt_l, zn_s (K4 h ht), k_tm h, c4, if_pos (by decide), zt_r]), fun x hx => by have e9 := Sum.inr.inj hx; omega, fun rr u h9 => ?_⟩
      have hu : rr = 2 ∧ u = (K, L, c) := by
        rcases h9 with ⟨_, _, e9, _⟩ | ⟨e9, h9⟩ | ⟨e9, h9⟩
        · cases e9
        · exact absurd (Sum.inr.inj e9) (by decide)
        · exact h9
      obtain ⟨rfl, rfl⟩ := hu
      exact ⟨0, _, (by rw [f_X7_there, zlet, m_noTr hV1 hB ht, zb_s, m_thr0, zb2_s, if_pos rfl, hT1, c4, if_pos rfl, f_X7_there_31, m_thr1, zb2_s, if_neg (by decide)]), zi_thr, fun x => absurd x (by decide), THR 2⟩
    · have c5 : ¬ V.1 37 0 = 0 := by rcases c4 with c4 | c4 | c4 <;> rw [c4] <;> decide
      have c6 : ¬ V.1 37 0 < 1 := by rcases c4 with c4 | c4 | c4 <;> rw [c4] <;> decide
      have c7 : V.1 37 0 ≤ 3 := by rcases c4 with c4 | c4 | c4 <;> rw [c4] <;> decide
      by_cases c1 : V.1 21 t = 0
      · refine ⟨.inl (1, zui (zui c 42 (A 9 t) 0 1) 43 (A 9 t) 0 0), (by rw [f_X6_there, k_trIn h hB ht, zt_l, zn_s (K4 h ht), k_tm h, if_neg c6, if_pos c7, zt_l, kn_85 h ht, rt_42_9 h ht, if_pos c1, zlet, zr_zui, kn_85 h ht, zlet]), fun x hx => (by cases hx), fun rr u h9 => ?_⟩
        have hu : rr = 0 ∧ u = (K, L, (zul (zui (zui c 42 (A 9 t) 0 1) 43 (A 9 t) 0 0) 170 ou 0 (if (1 : Int32) = 0 then 0 else 1))) := by
          rcases h9 with ⟨x9, c9, e9, h9⟩ | ⟨e9, _⟩ | ⟨e9, _⟩
          · cases e9; exact h9
          · cases e9
          · cases e9
        obtain ⟨rfl, rfl⟩ := hu
        exact ⟨1, _, (by rw [f_X7_there, zlet, m_noTr hV1 hB ht, zb_s, m_thr0, zb2_s, if_pos rfl, hT1, if_neg c5, f_X7_there_31, m_thr0, zb2_s, if_pos rfl, zq_21 hM1, zx_2 ht2, zlet, zx_2 ht2, zlet, cl_ ht8, e21, if_pos c1]), (by rw [zi_zui, if_neg (fun x => absurd x.1 (by decide)), t01]), (fun _ => by rw [zl_zul, if_pos ⟨rfl, rfl, rfl⟩]), IN_mk q1 q2 q3 (RC_zl (RC_there h)) (WV_day hW1 c5 (Or.inl rfl) (Or.inr rfl) ht) (by exact hM) (by rw [vw_21, hV1])⟩
      · refine ⟨.inl (0, c), (by rw [f_X6_there, k_trIn h hB ht, zt_l, zn_s (K4 h ht), k_tm h, if_neg c6, if_pos c7, zt_l, kn_85 h ht, rt_42_9 h ht, if_neg c1]), fun x hx => (by cases hx), fun rr u h9 => ?_⟩
        have hu : rr = 0 ∧ u = (K, L, (zul c 170 ou 0 (if (0 : Int32) = 0 then 0 else 1))) := by
          rcases h9 with ⟨x9, c9, e9, h9⟩ | ⟨e9, _⟩ | ⟨e9, _⟩
          · cases e9; exact h9
          · cases e9
          · cases e9
        obtain ⟨rfl, rfl⟩ := hu
        have e1 : V.1 21 t = 1 := by rcases WB_13b hB ht with x | x; exact absurd x c1; exact x
        exact ⟨0, _, (by rw [f_X7_there, zlet, m_noTr hV1 hB ht, zb_s, m_thr0, zb2_s, if_pos rfl, hT1, if_neg c5, f_X7_there_31, m_thr0, zb2_s, if_pos rfl, zq_21 hM1, zx_2 ht2, zlet, zx_2 ht2, zlet, cl_ ht8, e21, if_neg c1]), (by rw [zi_zui, if_neg (fun x => absurd x.1 (by decide)), t01]), (fun _ => by rw [zl_zul, if_pos ⟨rfl, rfl, rfl⟩]), IN_mk q1 q2 q3 (RC_zl h) hW1 (by exact hM) (by rw [vw_21, hV1, ← e1, uV_self])⟩
  · refine ⟨.inr 1, (by rw [f_X6_there, k_trOut h hB hp1, zt_r]), fun x hx => by have e9 := Sum.inr.inj hx; omega, fun rr u h9 => ?_⟩
    have hu : rr = 1 ∧ u = (K, L, c) := by
      rcases h9 with ⟨_, _, e9, _⟩ | ⟨e9, h9⟩ | ⟨e9, h9⟩
      · cases e9
      · exact h9
      · exact absurd (Sum.inr.inj e9) (by decide)
    obtain ⟨rfl, rfl⟩ := hu
    exact ⟨0, _, (by rw [f_X7_there, zlet, m_noTrO hV1 hp1, zb_s, m_thr1, zb2_s, if_neg (by decide)]), zi_thr, fun x => absurd x (by decide), THR 1⟩

end SX

section SX
variable {ra : Nat → Nat} {ms mo ou z : Nat}
theorem s_12 (hz : 8100 ≤ z) : S_12 (IN ms mo ou ra) z ms mo ou := by
  intro n K L c r p1 hn hI
  obtain ⟨q1, q2, q3, A, h, hW, hM⟩ := hI
  generalize hV : vr ra mo r = V at h hW
  have hB := hW.1
  have hM1 : MS K ra mo (zui r 0 mo 0 0) := hM
  have hV1 : vr ra mo (zui r 0 mo 0 0) = V := by rw [vw_0, hV]
  have hT1 : zi (zui r 0 mo 0 0) 37 mo 0 = V.1 37 0 := by rw [← hV1]; rfl
  have t01 : zi (zui r 0 mo 0 0) 0 mo 0 = 0 := zi_thr
  have hW1 : WV (400 * (n + 1)) V := WV_mono (by omega) hW
  have THR : ∀ e : Int32, IN ms mo ou ra (n + 1) K L c (zui (zui r 0 mo 0 0) 0 mo 0 e) := fun e => IN_mk q1 q2 q3 h hW1 hM (by rw [vw_0, hV1])
  have hN := WB_2 hB
  rcases tr_in hB p1 with ⟨t, ht, rfl⟩ | hp1
  · have ht2 : t < 200 := by omega
    have ht8 : t < 8000 := by omega
    have e21 : zi (zui r 0 mo 0 0) 121 (ra 21) t = V.1 21 t := by rw [← hV1]; rfl
    have e22 : zi (zui r 0 mo 0 0) 122 (ra 22) t = V.1 22 t := by rw [← hV1]; rfl
    by_cases c4 : V.1 37 0 = 1
    · have c5 : ¬ V.1 37 0 = 0 := by rw [c4]; decide
      by_cases c1 : V.1 21 t = 0
      · have e43 : zi c 43 (A 9 t) 0 = V.1 22 t := by rw [(C9 h t ht).2.1, if_pos c1]
        by_cases c2 : V.1 22 t = 0
        · refine ⟨.inl (1, zui c 43 (A 9 t) 0 1), (by rw [f_X6_word, k_trIn h hB ht, zt_l, zn_s (K4 h ht), k_tm h, c4, if_neg (by decide), if_pos (by decide), zt_l, kn_85 h ht, rt_42_9 h ht, if_pos c1, e43, if_pos c2, zlet]), fun x hx => (by cases hx), fun rr u h9 => ?_⟩
          have hu : rr = 0 ∧ u = (K, L, (zul (zui c 43 (A 9 t) 0 1) 170 ou 0 (if (1 : Int32) = 0 then 0 else 1))) := by
            rcases h9 with ⟨x9, c9, e9, h9⟩ | ⟨e9, _⟩ | ⟨e9, _⟩
            · cases e9; exact h9
            · cases e9
            · cases e9
          obtain ⟨rfl, rfl⟩ := hu
          exact ⟨1, _, (by rw [f_X7_word, zlet, m_noTr hV1 hB ht, zb_s, m_thr0, zb2_s, if_pos rfl, hT1, if_pos c4, f_X7_word_32, m_thr0, zb2_s, if_pos rfl, zq_22 hM1, zx_2 ht2, cl_ ht8, e22, if_pos c2, zq_21 hM1, zx_2 ht2, e21, if_pos c1, zx_2 ht2, zlet]), (by rw [zi_zui, if_neg (fun x => absurd x.1 (by decide)), t01]), (fun _ => by rw [zl_zul, if_pos ⟨rfl, rfl, rfl⟩]), IN_mk q1 q2 q3 (RC_zl (RC_word h c1)) (WV_day hW1 c5 (Or.inr (Or.inl rfl)) (Or.inr rfl) ht) (by exact hM) (by rw [vw_22, hV1])⟩
        · refine ⟨.inl (0, c), (by rw [f_X6_word, k_trIn h hB ht, zt_l, zn_s (K4 h ht), k_tm h, c4, if_neg (by decide), if_pos (by decide), zt_l, kn_85 h ht, rt_42_9 h ht, if_pos c1, e43, if_neg c2]), fun x hx => (by cases hx), fun rr u h9 => ?_⟩
          have hu : rr = 0 ∧ u = (K, L, (zul c 170 ou 0 (if (0 : Int32) = 0 then 0 else 1))) := by
            rcases h9 with ⟨x9, c9, e9, h9⟩ | ⟨e9, _⟩ | ⟨e9, _⟩
            · cases e9; exact h9
            · cases e9
            · cases e9
          obtain ⟨rfl, rfl⟩ := hu
          exact ⟨0, _, (by rw [f_X7_word, zlet, m_noTr hV1 hB ht, zb_s, m_thr0, zb2_s, if_pos rfl, hT1, if_pos c4, f_X7_word_32, m_thr0, zb2_s, if_pos rfl, zq_22 hM1, zx_2 ht2, cl_ ht8, e22, if_neg c2]), t01, (fun _ => by rw [zl_zul, if_pos ⟨rfl, rfl, rfl⟩]), IN_mk q1 q2 q3 (RC_zl h) hW1 hM1 hV1⟩
      · refine ⟨.inl (0, c), (by rw [f_X6_word, k_trIn h hB ht, zt_l, zn_s (K4 h ht), k_tm h, c4, if_neg (by decide), if_pos (by decide), zt_l, kn_85 h ht, rt_42_9 h ht, if_neg c1]), fun x hx => (by cases hx), fun rr u h9 => ?_⟩
        have hu : rr = 0 ∧ u = (K, L, (zul c 170 ou 0 (if (0 : Int32) = 0 then 0 else 1))) := by
          rcases h9 with ⟨x9, c9, e9, h9⟩ | ⟨e9, _⟩ | ⟨e9, _⟩
          · cases e9; exact h9
          · cases e9
          · cases e9
        obtain ⟨rfl, rfl⟩ := hu
        by_cases c2 : V.1 22 t = 0
        · exact ⟨0, _, (by rw [f_X7_word, zlet, m_noTr hV1 hB ht, zb_s, m_thr0, zb2_s, if_pos rfl, hT1, if_pos c4, f_X7_word_32, m_thr0, zb2_s, if_pos rfl, zq_22 hM1, zx_2 ht2, cl_ ht8, e22, if_pos c2, zq_21 hM1, zx_2 ht2, e21, if_neg c1]), t01, (fun _ => by rw [zl_zul, if_pos ⟨rfl, rfl, rfl⟩]), IN_mk q1 q2 q3 (RC_zl h) hW1 hM1 hV1⟩
        · exact ⟨0, _, (by rw [f_X7_word, zlet, m_noTr hV1 hB ht, zb_s, m_thr0, zb2_s, if_pos rfl, hT1, if_pos c4, f_X7_word_32, m_thr0, zb2_s, if_pos rfl, zq_22 hM1, zx_2 ht2, cl_ ht8, e22, if_neg c2]), t01, (fun _ => by rw [zl_zul, if_pos ⟨rfl, rfl, rfl⟩]), IN_mk q1 q2 q3 (RC_zl h) hW1 hM1 hV1⟩
    · have c6 : (if V.1 37 0 < 1 then some (.inr 3) else if V.1 37 0 ≤ 1 then some (.inl ()) else some (.inr 3) : Option (Unit ⊕ Nat)) = some (.inr 3) := by
        rcases tm4 hW with x | x | x | x
        · rw [x]; rfl
        · exact absurd x c4
        · rw [x]; rfl
        · rw [x]; rfl
      refine ⟨.inr 3, (by rw [f_X6_word, k_trIn h hB ht, zt_l, zn_s (K4 h ht), k_tm h, c6, zt_r]), fun x hx => by have e9 := Sum.inr.inj hx; omega, fun rr u h9 => ?_⟩
      have hu : rr = 2 ∧ u = (K, L, c) := by
        rcases h9 with ⟨_, _, e9, _⟩ | ⟨e9, h9⟩ | ⟨e9, h9⟩
        · cases e9
        · exact absurd (Sum.inr.inj e9) (by decide)
        · exact h9
      obtain ⟨rfl, rfl⟩ := hu
      exact ⟨0, _, (by rw [f_X7_word, zlet, m_noTr hV1 hB ht, zb_s, m_thr0, zb2_s, if_pos rfl, hT1, if_neg c4, f_X7_word_32, m_thr1, zb2_s, if_neg (by decide)]), zi_thr, fun x => absurd x (by decide), THR 2⟩
  · refine ⟨.inr 1, (by rw [f_X6_word, k_trOut h hB hp1, zt_r]), fun x hx => by have e9 := Sum.inr.inj hx; omega, fun rr u h9 => ?_⟩
    have hu : rr = 1 ∧ u = (K, L, c) := by
      rcases h9 with ⟨_, _, e9, _⟩ | ⟨e9, h9⟩ | ⟨e9, h9⟩
      · cases e9
      · exact h9
      · exact absurd (Sum.inr.inj e9) (by decide)
    obtain ⟨rfl, rfl⟩ := hu
    exact ⟨0, _, (by rw [f_X7_word, zlet, m_noTrO hV1 hp1, zb_s, m_thr1, zb2_s, if_neg (by decide)]), zi_thr, fun x => absurd x (by decide), THR 1⟩

end SX

theorem WV_hour {n : Nat} {V : zV} (hW : WV n V) {v : Int32} : WV n (uV V 39 0 v) := by
  have E : ∀ g, (g ≠ 39) → (uV V 39 0 v).1 g = V.1 g := fun g hg => uV_o hg
  have E2 : ∀ g, g ≠ 200 → (uV V 39 0 v).2 g = V.2 g := fun _ _ => rfl
  obtain ⟨⟨w1, w2, w3, w4, w5, w6, w7, w8, w9, w10, w11, w12, w13, w18, w20, w22, w23, w24⟩, w14, w15, w16, w17, w19, w21⟩ := hW
  exact ⟨⟨W1_c (E 35 (by decide)) w1, W2_c (E 35 (by decide)) w2, W3_c (E 7 (by decide)) w3, W4_c (E 7 (by decide)) w4, W5_c (E 7 (by decide)) (E 9 (by decide)) (E 35 (by decide)) w5, W6_c (E 10 (by decide)) (E 35 (by decide)) w6, W7_c (E 1 (by decide)) w7, W8_c (E 2 (by decide)) w8, W9_c (E 6 (by decide)) w9, W10_c (E 5 (by decide)) w10, W11_c (E 1 (by decide)) (E 10 (by decide)) (E 27 (by decide)) (E 28 (by decide)) (E 29 (by decide)) (E 35 (by decide)) w11, W12_c (E 10 (by decide)) (E 27 (by decide)) (E 28 (by decide)) (E 29 (by decide)) (E 35 (by decide)) w12, W13_c (E 21 (by decide)) (E 23 (by decide)) (E 35 (by decide)) w13, W18_c (E 31 (by decide)) (E 32 (by decide)) (E 35 (by decide)) w18, W20_c (E 11 (by decide)) (E 35 (by decide)) w20, W22_c (E 18 (by decide)) (E 35 (by decide)) w22, W23_c (E 12 (by decide)) (E 13 (by decide)) (E 14 (by decide)) (E 16 (by decide)) (E 17 (by decide)) (E 18 (by decide)) (E 19 (by decide)) (E 20 (by decide)) (E 21 (by decide)) (E 22 (by decide)) (E 23 (by decide)) (E 24 (by decide)) (E 25 (by decide)) (E 26 (by decide)) (E 27 (by decide)) (E 28 (by decide)) (E 29 (by decide)) (E 30 (by decide)) (E 31 (by decide)) (E 32 (by decide)) (E 35 (by decide)) (E2 34 (by decide)) w23, W24_c (E 6 (by decide)) (E 7 (by decide)) w24⟩, W14_c (E 37 (by decide)) w14, W15_c (E 21 (by decide)) (E 22 (by decide)) (E 23 (by decide)) (E 24 (by decide)) (E 25 (by decide)) (E 26 (by decide)) (E 27 (by decide)) (E 37 (by decide)) w15, W16_c (E 25 (by decide)) (E 26 (by decide)) (E 27 (by decide)) (E 37 (by decide)) w16, W17_c (E 25 (by decide)) (E 26 (by decide)) (E 27 (by decide)) (E 35 (by decide)) w17, W19_c (E 11 (by decide)) (E 35 (by decide)) (E 36 (by decide)) w19, W21_c (E 41 (by decide)) (E 42 (by decide)) w21⟩
theorem RC_hour {K : Nat → Nat} {A : Nat → Nat → Nat} {c : zS} {V : zV} {ms : Nat} {v : Int32} (h : RC K A c V ms) : RC K A (zui c 131 ms 0 v) (uV V 39 0 v) ms := by
  have Ez : ∀ g, (g ≠ 131) → zi (zui c 131 ms 0 v) g = zi c g := fun g hg => zi_o hg
  have El : ∀ g, g ≠ 1000 → zl (zui c 131 ms 0 v) g = zl c g := fun _ _ => rfl
  have Er : ∀ g, g ≠ 1000 → zr (zui c 131 ms 0 v) g = zr c g := fun _ _ => rfl
  have E : ∀ g, (g ≠ 39) → (uV V 39 0 v).1 g = V.1 g := fun g hg => uV_o hg
  have E2 : ∀ g, g ≠ 200 → (uV V 39 0 v).2 g = V.2 g := fun _ _ => rfl
  refine ⟨h.1, R1_c (E 7 (by decide)) (E 35 (by decide)) (C1 h), R2_c (Er 0 (by decide)) (Er 1 (by decide)) (Er 120 (by decide)) (Er 121 (by decide)) (Er 122 (by decide)) (Er 123 (by decide)) (Er 124 (by decide)) (Er 143 (by decide)) (C2 h), R3_c (Er 144 (by decide)) (Er 145 (by decide)) (E 7 (by decide)) (E 35 (by decide)) (C3 h), R4_c (Er 40 (by decide)) (Er 81 (by decide)) (Er 83 (by decide)) (Er 84 (by decide)) (Er 85 (by decide)) (Er 100 (by decide)) (Er 101 (by decide)) (E 9 (by decide)) (E 35 (by decide)) (C4 h), R5_c (Ez 20 (by decide)) (Ez 21 (by decide)) (Ez 22 (by decide)) (Ez 41 (by decide)) (Ez 42 (by decide)) (Ez 44 (by decide)) (Ez 45 (by decide)) (Ez 46 (by decide)) (Ez 82 (by decide)) (Ez 86 (by decide)) (Ez 87 (by decide)) (Ez 88 (by decide)) (Ez 89 (by decide)) (Ez 90 (by decide)) (Ez 91 (by decide)) (Ez 92 (by decide)) (Ez 102 (by decide)) (Ez 103 (by decide)) (E 8 (by decide)) (E 10 (by decide)) (E 11 (by decide)) (E 12 (by decide)) (E 13 (by decide)) (E 14 (by decide)) (E 15 (by decide)) (E 18 (by decide)) (E 19 (by decide)) (E 20 (by decide)) (E 21 (by decide)) (E 23 (by decide)) (E 24 (by decide)) (E 25 (by decide)) (E 27 (by decide)) (E 28 (by decide)) (E 29 (by decide)) (E 30 (by decide)) (E 31 (by decide)) (E 32 (by decide)) (E 33 (by decide)) (E 35 (by decide)) (C5 h), R6_c (Ez 141 (by decide)) (Ez 142 (by decide)) (E 16 (by decide)) (E 17 (by decide)) (E 35 (by decide)) (C6 h), R7_c (Ez 2 (by decide)) (Ez 140 (by decide)) (E 1 (by decide)) (E 2 (by decide)) (C7 h), R8_c (Ez 60 (by decide)) (Ez 61 (by decide)) (Ez 62 (by decide)) (Ez 63 (by decide)) (Ez 64 (by decide)) (E 3 (by decide)) (E 4 (by decide)) (E 5 (by decide)) (E 6 (by decide)) (E 7 (by decide)) (C8 h), R9_c (Ez 43 (by decide)) (Ez 80 (by decide)) (El 93 (by decide)) (E 21 (by decide)) (E 22 (by decide)) (E 35 (by decide)) (E2 34 (by decide)) (C9 h), ?_, R11_c (Ez 65 (by decide)) (E 7 (by decide)) (E 9 (by decide)) (E 27 (by decide)) (E 35 (by decide)) (C11 h), R12_c (Ez 132 (by decide)) (Ez 133 (by decide)) (E 8 (by decide)) (E 27 (by decide)) (E 35 (by decide)) (C12 h), R13_c (Er 148 (by decide)) (E 10 (by decide)) (E 27 (by decide)) (E 28 (by decide)) (E 29 (by decide)) (E 35 (by decide)) (C13 h), R14_c (Er 146 (by decide)) (E 11 (by decide)) (E 35 (by decide)) (C14 h), R15_c (Ez 47 (by decide)) (E 35 (by decide)) (E 60 (by decide)) (C15 h)⟩
  obtain ⟨a1, a2, a3, a4, a5, a6, a7, a8, a9, a10, a11⟩ := C10 h
  exact ⟨by rw [Ez 125 (by decide), E 7 (by decide)]; exact a1, by rw [Ez 126 (by decide), E 35 (by decide)]; exact a2, by rw [Ez 127 (by decide), E 36 (by decide)]; exact a3, by rw [Ez 128 (by decide), E 37 (by decide)]; exact a4, by rw [Ez 129 (by decide), E 40 (by decide)]; exact a5, by rw [Ez 130 (by decide), E 38 (by decide)]; exact a6, by rw [zi_zui, if_pos ⟨rfl, rfl, rfl⟩, uV_s], a8, a9, by rw [E 41 (by decide)]; exact a10, by rw [E 42 (by decide)]; exact a11⟩
section SX
variable {ra : Nat → Nat} {ms mo ou z : Nat}
theorem s_22 (hz : 8100 ≤ z) : S_22 (IN ms mo ou ra) z ms mo ou := by
  intro n K L c r p1 hn hI
  obtain ⟨q1, q2, q3, A, h, hW, hM⟩ := hI
  generalize hV : vr ra mo r = V at h hW
  have hB := hW.1
  have hM1 : MS K ra mo (zui r 0 mo 0 0) := hM
  have hV1 : vr ra mo (zui r 0 mo 0 0) = V := by rw [vw_0, hV]
  have hT1 : zi (zui r 0 mo 0 0) 37 mo 0 = V.1 37 0 := by rw [← hV1]; rfl
  have t01 : zi (zui r 0 mo 0 0) 0 mo 0 = 0 := zi_thr
  have hW1 : WV (400 * (n + 1)) V := WV_mono (by omega) hW
  have THR : ∀ e : Int32, IN ms mo ou ra (n + 1) K L c (zui (zui r 0 mo 0 0) 0 mo 0 e) := fun e => IN_mk q1 q2 q3 h hW1 hM (by rw [vw_0, hV1])
  have e131 : zi c 131 ms 0 = V.1 39 0 := (C10 h).2.2.2.2.2.2.1
  have e39 : zi (zui r 0 mo 0 0) 39 mo 0 = V.1 39 0 := by rw [← hV1]; rfl
  by_cases c1 : p1 < V.1 39 0
  · refine ⟨.inr 2, (by rw [f_X6_hour, e131, if_pos c1]), fun x hx => by have e9 := Sum.inr.inj hx; omega, fun rr u h9 => ?_⟩
    have hu : rr = 1 ∧ u = (K, L, c) := by
      rcases h9 with ⟨_, e9, _⟩ | ⟨e9, h9⟩ | ⟨e9, h9⟩
      · cases e9
      · exact h9
      · exact absurd (Sum.inr.inj e9) (by decide)
    obtain ⟨rfl, rfl⟩ := hu
    exact ⟨_, (by rw [f_X7_hour, zlet, e39, if_pos c1, f_X7_hour_20, f_X7_hour_25, m_thr1, zb2_s, if_neg (by decide)]), zi_thr, THR 1⟩
  · by_cases c2 : p1 ≤ 12
    · rcases tm4 hW with c4 | c4
      · refine ⟨.inr 3, (by rw [f_X6_hour, e131, if_neg c1, if_pos c2, k_tm h, c4, if_pos (by decide), zt_r]), fun x hx => by have e9 := Sum.inr.inj hx; omega, fun rr u h9 => ?_⟩
        have hu : rr = 2 ∧ u = (K, L, c) := by
          rcases h9 with ⟨_, e9, _⟩ | ⟨e9, h9⟩ | ⟨e9, h9⟩
          · cases e9
          · exact absurd (Sum.inr.inj e9) (by decide)
          · exact h9
        obtain ⟨rfl, rfl⟩ := hu
        exact ⟨_, (by rw [f_X7_hour, zlet, e39, if_neg c1, if_pos c2, f_X7_hour_25, m_thr0, zb2_s, if_pos rfl, hT1, c4, if_pos rfl, f_X7_hour_45, m_thr1, zb2_s, if_neg (by decide)]), zi_thr, THR 2⟩
      · have c5 : ¬ V.1 37 0 = 0 := by rcases c4 with c4 | c4 | c4 <;> rw [c4] <;> decide
        have c6 : ¬ V.1 37 0 < 1 := by rcases c4 with c4 | c4 | c4 <;> rw [c4] <;> decide
        have c7 : V.1 37 0 ≤ 3 := by rcases c4 with c4 | c4 | c4 <;> rw [c4] <;> decide
        refine ⟨.inl (zui c 131 ms 0 p1), (by rw [f_X6_hour, e131, if_neg c1, if_pos c2, k_tm h, if_neg c6, if_pos c7, zt_l, zlet]), fun x hx => (by cases hx), fun rr u h9 => ?_⟩
        have hu : rr = 0 ∧ u = (K, L, (zui c 131 ms 0 p1)) := by
          rcases h9 with ⟨c9, e9, h9⟩ | ⟨e9, _⟩ | ⟨e9, _⟩
          · cases e9; exact h9
          · cases e9
          · cases e9
        obtain ⟨rfl, rfl⟩ := hu
        exact ⟨_, (by rw [f_X7_hour, zlet, e39, if_neg c1, if_pos c2, f_X7_hour_25, m_thr0, zb2_s, if_pos rfl, hT1, if_neg c5, f_X7_hour_45, m_thr0, zb2_s, if_pos rfl, zlet]), (by rw [zi_zui, if_neg (fun x => absurd x.1 (by decide)), t01]), IN_mk q1 q2 q3 (RC_hour h) (WV_hour hW1) (by exact hM) (by rw [vw_39, hV1])⟩
    · refine ⟨.inr 2, (by rw [f_X6_hour, e131, if_neg c1, if_neg c2]), fun x hx => by have e9 := Sum.inr.inj hx; omega, fun rr u h9 => ?_⟩
      have hu : rr = 1 ∧ u = (K, L, c) := by
        rcases h9 with ⟨_, e9, _⟩ | ⟨e9, h9⟩ | ⟨e9, h9⟩
        · cases e9
        · exact h9
        · exact absurd (Sum.inr.inj e9) (by decide)
      obtain ⟨rfl, rfl⟩ := hu
      exact ⟨_, (by rw [f_X7_hour, zlet, e39, if_neg c1, if_neg c2, f_X7_hour_20, f_X7_hour_25, m_thr1, zb2_s, if_neg (by decide)]), zi_thr, THR 1⟩

end SX

theorem RC_pay {K : Nat → Nat} {A : Nat → Nat → Nat} {c : zS} {V : zV} {ms t : Nat} (h : RC K A c V ms) (ht : t < tN V) (x y : Int64) : RC K A (zul (zul c 93 (A 4 t) 0 x) 135 ms 0 y) (uL (uL V 34 t x) 44 0 y) ms := by
  have Ez : ∀ g, g ≠ 1000 → zi (zul (zul c 93 (A 4 t) 0 x) 135 ms 0 y) g = zi c g := fun _ _ => rfl
  have Er : ∀ g, g ≠ 1000 → zr (zul (zul c 93 (A 4 t) 0 x) 135 ms 0 y) g = zr c g := fun _ _ => rfl
  have E : ∀ g, g ≠ 200 → (uL (uL V 34 t x) 44 0 y).1 g = V.1 g := fun _ _ => rfl
  refine ⟨h.1, R1_c (E 7 (by decide)) (E 35 (by decide)) (C1 h), R2_c (Er 0 (by decide)) (Er 1 (by decide)) (Er 120 (by decide)) (Er 121 (by decide)) (Er 122 (by decide)) (Er 123 (by decide)) (Er 124 (by decide)) (Er 143 (by decide)) (C2 h), R3_c (Er 144 (by decide)) (Er 145 (by decide)) (E 7 (by decide)) (E 35 (by decide)) (C3 h), R4_c (Er 40 (by decide)) (Er 81 (by decide)) (Er 83 (by decide)) (Er 84 (by decide)) (Er 85 (by decide)) (Er 100 (by decide)) (Er 101 (by decide)) (E 9 (by decide)) (E 35 (by decide)) (C4 h), R5_c (Ez 20 (by decide)) (Ez 21 (by decide)) (Ez 22 (by decide)) (Ez 41 (by decide)) (Ez 42 (by decide)) (Ez 44 (by decide)) (Ez 45 (by decide)) (Ez 46 (by decide)) (Ez 82 (by decide)) (Ez 86 (by decide)) (Ez 87 (by decide)) (Ez 88 (by decide)) (Ez 89 (by decide)) (Ez 90 (by decide)) (Ez 91 (by decide)) (Ez 92 (by decide)) (Ez 102 (by decide)) (Ez 103 (by decide)) (E 8 (by decide)) (E 10 (by decide)) (E 11 (by decide)) (E 12 (by decide)) (E 13 (by decide)) (E 14 (by decide)) (E 15 (by decide)) (E 18 (by decide)) (E 19 (by decide)) (E 20 (by decide)) (E 21 (by decide)) (E 23 (by decide)) (E 24 (by decide)) (E 25 (by decide)) (E 27 (by decide)) (E 28 (by decide)) (E 29 (by decide)) (E 30 (by decide)) (E 31 (by decide)) (E 32 (by decide)) (E 33 (by decide)) (E 35 (by decide)) (C5 h), R6_c (Ez 141 (by decide)) (Ez 142 (by decide)) (E 16 (by decide)) (E 17 (by decide)) (E 35 (by decide)) (C6 h), R7_c (Ez 2 (by decide)) (Ez 140 (by decide)) (E 1 (by decide)) (E 2 (by decide)) (C7 h), R8_c (Ez 60 (by decide)) (Ez 61 (by decide)) (Ez 62 (by decide)) (Ez 63 (by decide)) (Ez 64 (by decide)) (E 3 (by decide)) (E 4 (by decide)) (E 5 (by decide)) (E 6 (by decide)) (E 7 (by decide)) (C8 h), ?_, ?_, R11_c (Ez 65 (by decide)) (E 7 (by decide)) (E 9 (by decide)) (E 27 (by decide)) (E 35 (by decide)) (C11 h), R12_c (Ez 132 (by decide)) (Ez 133 (by decide)) (E 8 (by decide)) (E 27 (by decide)) (E 35 (by decide)) (C12 h), R13_c (Er 148 (by decide)) (E 10 (by decide)) (E 27 (by decide)) (E 28 (by decide)) (E 29 (by decide)) (E 35 (by decide)) (C13 h), R14_c (Er 146 (by decide)) (E 11 (by decide)) (E 35 (by decide)) (C14 h), R15_c (Ez 47 (by decide)) (E 35 (by decide)) (E 60 (by decide)) (C15 h)⟩
  · intro j hj
    obtain ⟨a, b, d⟩ := C9 h j hj
    refine ⟨a, b, ?_⟩
    rw [zl_zul, if_neg (show ¬ (93 = 135 ∧ A 4 j = ms ∧ 0 = 0) from fun x => absurd x.1 (by decide)), uL_2, if_neg (show ¬ (34 = 44 ∧ j = 0) from fun x => absurd x.1 (by decide)), zl_zul, uL_2]
    by_cases e : j = t
    · rw [if_pos (show 93 = 93 ∧ A 4 j = A 4 t ∧ 0 = 0 from ⟨rfl, by rw [e], rfl⟩), if_pos (show 34 = 34 ∧ j = t from ⟨rfl, e⟩)]
    · rw [if_neg (show ¬ (93 = 93 ∧ A 4 j = A 4 t ∧ 0 = 0) from fun x => e (h.1 _ _ _ _ x.2.1).2), if_neg (show ¬ (34 = 34 ∧ j = t) from fun x => e x.2)]; exact d
  · obtain ⟨a1, a2, a3, a4, a5, a6, a7, a8, a9, a10, a11⟩ := C10 h
    refine ⟨a1, a2, a3, a4, a5, a6, a7, ?_, ?_, ?_, ?_⟩
    · rw [zl_o (by decide), zl_o (by decide), uL_2, if_neg (fun x => absurd x.1 (by decide)), uL_2, if_neg (fun x => absurd x.1 (by decide))]; exact a8
    · rw [zl_zul, if_pos ⟨rfl, rfl, rfl⟩, uL_2, if_pos ⟨rfl, rfl⟩]
    · rw [zl_o (by decide), zl_o (by decide)]; exact a10
    · rw [zl_o (by decide), zl_o (by decide)]; exact a11
theorem WV_pay {n : Nat} {V : zV} (hW : WV n V) {t : Nat} (ht : t < tN V) (x y : Int64) : WV n (uL (uL V 34 t x) 44 0 y) := by
  obtain ⟨⟨w1, w2, w3, w4, w5, w6, w7, w8, w9, w10, w11, w12, w13, w18, w20, w22, w23, w24⟩, w14, w15, w16, w17, w19, w21⟩ := hW
  refine ⟨⟨w1, w2, w3, w4, w5, w6, w7, w8, w9, w10, w11, w12, w13, w18, w20, w22, ?_, w24⟩, w14, w15, w16, w17, w19, w21⟩
  intro a ha h2
  have ha2 : tN V ≤ a := ha
  have hne : a ≠ t := by omega
  have h := w23 a ha h2
  rw [uL_2, if_neg (fun x => absurd x.1 (by decide)), uL_2, if_neg (fun x => hne x.2)]
  exact h
section SX
variable {ra : Nat → Nat} {ms mo ou z : Nat}
theorem s_24 (hz : 8100 ≤ z) : S_24 (IN ms mo ou ra) z ms mo ou := by
  intro n K L c r p1 p2 p3 hn hI
  obtain ⟨q1, q2, q3, A, h, hW, hM⟩ := hI
  generalize hV : vr ra mo r = V at h hW
  have hB := hW.1
  have hM1 : MS K ra mo (zui r 0 mo 0 0) := hM
  have hV1 : vr ra mo (zui r 0 mo 0 0) = V := by rw [vw_0, hV]
  have hT1 : zi (zui r 0 mo 0 0) 37 mo 0 = V.1 37 0 := by rw [← hV1]; rfl
  have t01 : zi (zui r 0 mo 0 0) 0 mo 0 = 0 := zi_thr
  have hW1 : WV (400 * (n + 1)) V := WV_mono (by omega) hW
  have THR : ∀ e : Int32, IN ms mo ou ra (n + 1) K L c (zui (zui r 0 mo 0 0) 0 mo 0 e) := fun e => IN_mk q1 q2 q3 h hW1 hM (by rw [vw_0, hV1])
  have hN := WB_2 hB
  rcases tr_in hB p1 with ⟨t, ht, rfl⟩ | hp1
  · have ht2 : t < 200 := by omega
    have ht8 : t < 8000 := by omega
    have e34 : zl (zui r 0 mo 0 0) 134 (ra 34) t = V.2 34 t := by rw [← hV1]; rfl
    have e44 : zl (zui r 0 mo 0 0) 44 mo 0 = V.2 44 0 := by rw [← hV1]; rfl
    have e93 : zl c 93 (A 4 t) 0 = V.2 34 t := (C9 h t ht).2.2
    have e135 : zl c 135 ms 0 = V.2 44 0 := (C10 h).2.2.2.2.2.2.2.2.1
    generalize hs : (((Int32.toInt64 p2) <<< (Int32.toInt64 32 &&& 63)) ||| ((Int32.toInt64 p3) &&& 4294967295)) = q
    by_cases c1 : lg_cmp q 1 < 0
    · refine ⟨.inr 2, (by rw [f_X6_pay, k_trIn h hB ht, zt_l, zn_s (K4 h ht), if_pos c1]), fun x hx => by have e9 := Sum.inr.inj hx; omega, fun rr u h9 => ?_⟩
      have hu : rr = 2 ∧ u = (K, L, c) := by
        rcases h9 with ⟨_, _, e9, _⟩ | ⟨e9, h9⟩ | ⟨e9, h9⟩
        · cases e9
        · exact absurd (Sum.inr.inj e9) (by decide)
        · exact h9
      obtain ⟨rfl, rfl⟩ := hu
      exact ⟨0, _, (by rw [f_X7_pay, zlet, m_noTr hV1 hB ht, zb_s, m_thr0, zb2_s, if_pos rfl, if_pos c1, f_X7_pay_36, f_X7_pay_41, m_thr1, zb2_s, if_neg (by decide)]), zi_thr, fun x => absurd x (by decide), THR 2⟩
    · by_cases c2 : lg_cmp q (V.2 34 t) ≤ 0
      · have x1 : zl (zul c 93 (A 4 t) 0 (V.2 34 t - q)) 135 ms 0 = V.2 44 0 := by rw [zl_o (by decide), e135]
        have x2 : zl (zul (zul c 93 (A 4 t) 0 (V.2 34 t - q)) 135 ms 0 (V.2 44 0 + q)) 93 (A 4 t) 0 = V.2 34 t - q := by rw [zl_o (by decide), zl_zul, if_pos ⟨rfl, rfl, rfl⟩]
        have y1 : zl (zul (zui r 0 mo 0 0) 134 (ra 34) t (V.2 34 t - q)) 44 mo 0 = V.2 44 0 := by rw [zl_o (by decide), e44]
        have y2 : zl (zul (zul (zui r 0 mo 0 0) 134 (ra 34) t (V.2 34 t - q)) 44 mo 0 (V.2 44 0 + q)) 134 (ra 34) t = V.2 34 t - q := by rw [zl_o (by decide), zl_zul, if_pos ⟨rfl, rfl, rfl⟩]
        refine ⟨.inl (V.2 34 t - q, zul (zul c 93 (A 4 t) 0 (V.2 34 t - q)) 135 ms 0 (V.2 44 0 + q)), (by rw [f_X6_pay, k_trIn h hB ht, zt_l, zn_s (K4 h ht), if_neg c1, e93, if_pos c2, zlet, zlet, x1, x2]), fun x hx => (by cases hx), fun rr u h9 => ?_⟩
        have hu : rr = 0 ∧ u = (K, L, (zul (zul (zul c 93 (A 4 t) 0 (V.2 34 t - q)) 135 ms 0 (V.2 44 0 + q)) 170 ou 0 (V.2 34 t - q))) := by
          rcases h9 with ⟨x9, c9, e9, h9⟩ | ⟨e9, _⟩ | ⟨e9, _⟩
          · cases e9; exact h9
          · cases e9
          · cases e9
        obtain ⟨rfl, rfl⟩ := hu
        exact ⟨V.2 34 t - q, _, (by rw [f_X7_pay, zlet, m_noTr hV1 hB ht, zb_s, m_thr0, zb2_s, if_pos rfl, if_neg c1, zq_34 hM1, zx_2 ht2, cl_ ht8, e34, if_pos c2, f_X7_pay_41, m_thr0, zb2_s, if_pos rfl, zq_34 hM1, zx_2 ht2, zx_2 ht2, zlet, cl_ ht8, e34, zlet, y1, zr_zul, zr_zul, zq_34 hM1, zx_2 ht2, y2]), (by exact t01), (fun _ => by rw [zl_zul, if_pos ⟨rfl, rfl, rfl⟩]), IN_mk q1 q2 q3 (RC_zl (RC_pay h ht _ _)) (WV_pay hW1 ht _ _) (by exact hM) (by rw [vw_44, vr_al, hV1])⟩
      · refine ⟨.inr 2, (by rw [f_X6_pay, k_trIn h hB ht, zt_l, zn_s (K4 h ht), if_neg c1, e93, if_neg c2]), fun x hx => by have e9 := Sum.inr.inj hx; omega, fun rr u h9 => ?_⟩
        have hu : rr = 2 ∧ u = (K, L, c) := by
          rcases h9 with ⟨_, _, e9, _⟩ | ⟨e9, h9⟩ | ⟨e9, h9⟩
          · cases e9
          · exact absurd (Sum.inr.inj e9) (by decide)
          · exact h9
        obtain ⟨rfl, rfl⟩ := hu
        exact ⟨0, _, (by rw [f_X7_pay, zlet, m_noTr hV1 hB ht, zb_s, m_thr0, zb2_s, if_pos rfl, if_neg c1, zq_34 hM1, zx_2 ht2, cl_ ht8, e34, if_neg c2, f_X7_pay_36, f_X7_pay_41, m_thr1, zb2_s, if_neg (by decide)]), zi_thr, fun x => absurd x (by decide), THR 2⟩
  · refine ⟨.inr 1, (by rw [f_X6_pay, k_trOut h hB hp1, zt_r]), fun x hx => by have e9 := Sum.inr.inj hx; omega, fun rr u h9 => ?_⟩
    have hu : rr = 1 ∧ u = (K, L, c) := by
      rcases h9 with ⟨_, _, e9, _⟩ | ⟨e9, h9⟩ | ⟨e9, h9⟩
      · cases e9
      · exact h9
      · exact absurd (Sum.inr.inj e9) (by decide)
    obtain ⟨rfl, rfl⟩ := hu
    exact ⟨0, _, (by rw [f_X7_pay, zlet, m_noTrO hV1 hp1, zb_s, m_thr1, zb2_s, if_neg (by decide)]), zi_thr, fun x => absurd x (by decide), THR 1⟩

end SX

