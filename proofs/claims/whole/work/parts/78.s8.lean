theorem WB_u25 {V : zV} (hW : WB V) {t : Nat} {v : Int32} (ht : t < tN V) : WB (uV V 25 t v) := by
  have E : ∀ g, (g ≠ 25) → (uV V 25 t v).1 g = V.1 g := fun g hg => uV_o hg
  have E2 : ∀ g, g ≠ 200 → (uV V 25 t v).2 g = V.2 g := fun _ _ => rfl
  obtain ⟨w1, w2, w3, w4, w5, w6, w7, w8, w9, w10, w11, w12, w13, w18, w20, w22, w23, w24⟩ := hW
  refine ⟨W1_c (E 35 (by decide)) w1, W2_c (E 35 (by decide)) w2, W3_c (E 7 (by decide)) w3, W4_c (E 7 (by decide)) w4, W5_c (E 7 (by decide)) (E 9 (by decide)) (E 35 (by decide)) w5, W6_c (E 10 (by decide)) (E 35 (by decide)) w6, W7_c (E 1 (by decide)) w7, W8_c (E 2 (by decide)) w8, W9_c (E 6 (by decide)) w9, W10_c (E 5 (by decide)) w10, W11_c (E 1 (by decide)) (E 10 (by decide)) (E 27 (by decide)) (E 28 (by decide)) (E 29 (by decide)) (E 35 (by decide)) w11, W12_c (E 10 (by decide)) (E 27 (by decide)) (E 28 (by decide)) (E 29 (by decide)) (E 35 (by decide)) w12, W13_c (E 21 (by decide)) (E 23 (by decide)) (E 35 (by decide)) w13, W18_c (E 31 (by decide)) (E 32 (by decide)) (E 35 (by decide)) w18, W20_c (E 11 (by decide)) (E 35 (by decide)) w20, W22_c (E 18 (by decide)) (E 35 (by decide)) w22, ?_, W24_c (E 6 (by decide)) (E 7 (by decide)) w24⟩
  intro a ha h2
  have ha2 : tN V ≤ a := ha
  have h := w23 a ha2 h2
  simp only [uV_n (show a ≠ t by omega), E 16 (by decide), E 17 (by decide)]
  exact h
theorem tm_no {V : zV} (h2 : V.1 37 0 = 2 ∨ V.1 37 0 = 3) : ¬ V.1 37 0 = 0 ∧ ¬ V.1 37 0 = 1 := by
  rcases h2 with h | h
  · rw [h]; decide
  · rw [h]; decide
theorem WV_leave {n : Nat} {V : zV} (hW : WV n V) (h2 : V.1 37 0 = 2 ∨ V.1 37 0 = 3) {t : Nat} (ht : t < tN V) (hs : st V t) : WV n (goV (uV V 25 t 1) t) := by
  have E : ∀ k, (k ≠ 25 ∧ k ≠ 27) → (goV (uV V 25 t 1) t).1 k = V.1 k := fun k hk => by
    show (uV (uV V 25 t 1) 27 t 0).1 k = _
    rw [uV_o hk.2, uV_o hk.1]
  have E2 : ∀ g, (g ≠ 34 ∧ g ≠ 43) → (goV (uV V 25 t 1) t).2 g = V.2 g := fun g hg => by
    funext x
    unfold goV
    rw [uL_2, if_neg (fun y => hg.2 y.1), uL_2, if_neg (fun y => hg.1 y.1)]; rfl
  have hB2 := goW (WB_u25 hW.1 (v := 1) ht) (t := t) ht
  obtain ⟨⟨w1, w2, w3, w4, w5, w6, w7, w8, w9, w10, w11, w12, w13, w18, w20, w22, w23, w24⟩, w14, w15, w16, w17, w19, w21⟩ := hW
  refine ⟨hB2, W14_c (E 37 (by decide)) w14, ?_, ?_, ?_, W19_c (E 11 (by decide)) (E 35 (by decide)) (E 36 (by decide)) w19, W21_c (E 41 (by decide)) (E 42 (by decide)) w21⟩
  · intro e; rw [E 37 (by decide)] at e; exact absurd e (tm_no h2).1
  · intro e; rw [E 37 (by decide)] at e; exact absurd e (tm_no h2).2
  · intro a ha
    have ha2 : a < tN V := ha
    unfold st
    have e27 : (goV (uV V 25 t 1) t).1 27 a = if a = t then 0 else V.1 27 a := by
      show (uV (uV V 25 t 1) 27 t 0).1 27 a = _
      by_cases e : a = t
      · rw [if_pos e, e, uV_s]
      · rw [if_neg e, uV_t e, uV_o (by decide)]
    have e25 : (goV (uV V 25 t 1) t).1 25 a = if a = t then 1 else V.1 25 a := by
      show (uV (uV V 25 t 1) 27 t 0).1 25 a = _
      rw [uV_o (by decide)]
      by_cases e : a = t
      · rw [if_pos e, e, uV_s]
      · rw [if_neg e, uV_t e]
    rw [E 26 (by decide), e27, e25]
    by_cases e : a = t
    · rw [if_pos e, if_pos e]
      exact ⟨fun _ => Or.inr (by decide), fun _ => (w17 a ha2).mpr (Or.inl (by rw [e]; exact hs))⟩
    · rw [if_neg e, if_neg e]; exact w17 a ha2
section SX
variable {ra : Nat → Nat} {ms mo ou z : Nat}
theorem s_21 (hz : 8100 ≤ z) : S_21 (IN ms mo ou ra) z ms mo ou := by
  intro n K L c r p1 hn hI
  obtain ⟨q1, q2, q3, A, h, hW, hM⟩ := hI
  generalize hV : vr ra mo r = V at h hW
  have hB := hW.1
  have hM1 : MS K ra mo (zui r 0 mo 0 0) := hM
  have hV1 : vr ra mo (zui r 0 mo 0 0) = V := by rw [vw_0, hV]
  have hT1 : zi (zui r 0 mo 0 0) 37 mo 0 = V.1 37 0 := by rw [← hV1]; rfl
  have t01 : zi (zui r 0 mo 0 0) 0 mo 0 = 0 := zi_thr
  have hW1 : WV (400 * (n + 1)) V := WV_mono (by omega) hW
  have THR : ∀ e : Int32, IN ms mo ou ra (n + 1) K L c (zui (zui r 0 mo 0 0) 0 mo 0 e) := fun e => IN_mk q1 q2 q3 h hW1 hM (by rw [vw_0, hV1])
  have hN := WB_2 hB
  rcases tr_in hB p1 with ⟨t, ht, rfl⟩ | hp1
  · have ht2 : t < 200 := by omega
    have ht8 : t < 8000 := by omega
    have e27 : zi (zui r 0 mo 0 0) 127 (ra 27) t = V.1 27 t := by rw [← hV1]; rfl
    by_cases c4 : 2 ≤ V.1 37 0
    · have c7 : V.1 37 0 ≤ 3 := by rcases tm4 hW with x | x | x | x <;> rw [x] <;> decide
      have c8 : ¬ V.1 37 0 < 2 := Int32.not_lt.mpr c4
      have c9 : V.1 37 0 = 2 ∨ V.1 37 0 = 3 := by
        rcases tm4 hW with x | x | x | x
        · rw [x] at c4; exact absurd c4 (by decide)
        · rw [x] at c4; exact absurd c4 (by decide)
        · exact Or.inl x
        · exact Or.inr x
      by_cases c1 : V.1 27 t = 0
      · refine ⟨.inl (-1, c), (by rw [f_X6_leave, k_trIn h hB ht, zt_l, zn_s (K4 h ht), k_tm h, if_neg c8, if_pos c7, zt_l, kn_85 h ht, kn_40 h ht, rt_20_10 h ht, if_pos c1]), fun x hx => (by cases hx), fun rr u h9 => ?_⟩
        have hu : rr = 0 ∧ u = (K, L, (zul c 170 ou 0 (Int32.toInt64 (-1)))) := by
          rcases h9 with ⟨x9, c9, e9, h9⟩ | ⟨e9, _⟩ | ⟨e9, _⟩
          · cases e9; exact h9
          · cases e9
          · cases e9
        obtain ⟨rfl, rfl⟩ := hu
        exact ⟨-1, _, (by rw [f_X7_leave, zlet, m_noTr hV1 hB ht, zb_s, m_thr0, zb2_s, if_pos rfl, hT1, if_pos c4, f_X7_leave_32, m_thr0, zb2_s, if_pos rfl, zq_27 hM1, zx_2 ht2, cl_ ht8, e27, if_pos c1]), t01, (fun _ => by rw [zl_zul, if_pos ⟨rfl, rfl, rfl⟩]), IN_mk q1 q2 q3 (RC_zl h) hW1 hM1 hV1⟩
      · have h2 := RC_u (f := 46) (k := 9) (m := 25) (t := t) (v := 1) h (by decide) (by decide) (by decide)
        have hB2 := WB_u25 hB (v := 1) ht
        obtain ⟨c2, a1, a2, a3⟩ := k_charge (z := z) h2 hB2 (by omega) (t := t) ht c1
        have hM2 : MS K ra mo (zui (zui r 0 mo 0 0) 125 (ra 25) t 1) := hM
        obtain ⟨r2, b1, b2, b3, b4⟩ := m_goes (z := z) hM2 (V := uV V 25 t 1) (by rw [vw_25, hV1]) hB2 (t := t) ht
        refine ⟨.inl (feV (uV V 25 t 1) t, c2), (by rw [f_X6_leave, k_trIn h hB ht, zt_l, zn_s (K4 h ht), k_tm h, if_neg c8, if_pos c7, zt_l, kn_85 h ht, kn_40 h ht, rt_20_10 h ht, if_neg c1, zlet, a1, zb2_s]), fun x hx => (by cases hx), fun rr u h9 => ?_⟩
        have hu : rr = 0 ∧ u = (K, L, (zul c2 170 ou 0 (Int32.toInt64 (feV (uV V 25 t 1) t)))) := by
          rcases h9 with ⟨x9, c9, e9, h9⟩ | ⟨e9, _⟩ | ⟨e9, _⟩
          · cases e9; exact h9
          · cases e9
          · cases e9
        obtain ⟨rfl, rfl⟩ := hu
        exact ⟨feV (uV V 25 t 1) t, r2, (by rw [f_X7_leave, zlet, m_noTr hV1 hB ht, zb_s, m_thr0, zb2_s, if_pos rfl, hT1, if_pos c4, f_X7_leave_32, m_thr0, zb2_s, if_pos rfl, zq_27 hM1, zx_2 ht2, cl_ ht8, e27, if_neg c1, zq_25 hM1, zx_2 ht2, zlet, b1, zb2_s]), (by rw [b4, zi_o (by decide), t01]), (fun _ => by rw [zl_zul, if_pos ⟨rfl, rfl, rfl⟩]), IN_mk q1 q2 q3 (RC_zl a2) (WV_leave hW1 c9 ht c1) b2 b3⟩
    · refine ⟨.inr 3, (by rw [f_X6_leave, k_trIn h hB ht, zt_l, zn_s (K4 h ht), k_tm h, if_pos (Int32.not_le.mp c4), zt_r]), fun x hx => by have e9 := Sum.inr.inj hx; omega, fun rr u h9 => ?_⟩
      have hu : rr = 2 ∧ u = (K, L, c) := by
        rcases h9 with ⟨_, _, e9, _⟩ | ⟨e9, h9⟩ | ⟨e9, h9⟩
        · cases e9
        · exact absurd (Sum.inr.inj e9) (by decide)
        · exact h9
      obtain ⟨rfl, rfl⟩ := hu
      exact ⟨0, _, (by rw [f_X7_leave, zlet, m_noTr hV1 hB ht, zb_s, m_thr0, zb2_s, if_pos rfl, hT1, if_neg c4, f_X7_leave_32, m_thr1, zb2_s, if_neg (by decide)]), zi_thr, fun x => absurd x (by decide), THR 2⟩
  · refine ⟨.inr 1, (by rw [f_X6_leave, k_trOut h hB hp1, zt_r]), fun x hx => by have e9 := Sum.inr.inj hx; omega, fun rr u h9 => ?_⟩
    have hu : rr = 1 ∧ u = (K, L, c) := by
      rcases h9 with ⟨_, _, e9, _⟩ | ⟨e9, h9⟩ | ⟨e9, h9⟩
      · cases e9
      · exact h9
      · exact absurd (Sum.inr.inj e9) (by decide)
    obtain ⟨rfl, rfl⟩ := hu
    exact ⟨0, _, (by rw [f_X7_leave, zlet, m_noTrO hV1 hp1, zb_s, m_thr1, zb2_s, if_neg (by decide)]), zi_thr, fun x => absurd x (by decide), THR 1⟩

end SX

theorem cif_r {P : Prop} {a b : Int32} (ha : ∃ j, j ≤ 10 ∧ a = nI j) (hb : ∃ j, j ≤ 10 ∧ b = nI j) : ∃ j, j ≤ 10 ∧ cif P a b = nI j := by
  by_cases h : P
  · rw [cif_p h]; exact ha
  · rw [cif_n h]; exact hb
theorem ag_r (V : zV) (t : Nat) (ρ π : Int32) : ∃ j, j ≤ 10 ∧ ag V t ρ π = nI j := by
  unfold ag agN
  exact cif_r (cif_r ⟨2, by decide, rfl⟩ (cif_r ⟨3, by decide, rfl⟩ (cif_r ⟨4, by decide, rfl⟩ (cif_r ⟨5, by decide, rfl⟩ (cif_r ⟨6, by decide, rfl⟩ (cif_r ⟨7, by decide, rfl⟩ (cif_r ⟨8, by decide, rfl⟩ (cif_r ⟨9, by decide, rfl⟩ (cif_r ⟨10, by decide, rfl⟩ ⟨0, by decide, rfl⟩))))))))) ⟨1, by decide, rfl⟩
theorem ag_pos {V : zV} {t : Nat} {ρ π : Int32} (h : ¬ ag V t ρ π = 0) : ¬ ag V t ρ π ≤ 0 := by
  obtain ⟨j, hj, e⟩ := ag_r V t ρ π
  rw [e] at h ⊢
  refine nI_nle ?_ (by omega)
  rcases Nat.eq_zero_or_pos j with x | x
  · exact absurd (by rw [x]; rfl) h
  · exact x
def mvV (V : zV) (t : Nat) (ρ π : Int32) : zV := uV (uV V 28 t ρ) 29 t π
theorem suV_mv {V : zV} {t : Nat} {ρ π : Int32} (h : V.1 27 t = 1) : suV (uV V 27 t 0) t ρ π = mvV V t ρ π := by
  refine zV_ext (fun k x => ?_) (fun _ _ => rfl)
  unfold suV mvV
  rw [uV_1, uV_1, uV_1, uV_1, uV_1, uV_1]
  by_cases h29 : k = 29
  · subst h29; simp
  · by_cases h28 : k = 28
    · subst h28; simp
    · by_cases h27 : k = 27
      · subst h27
        by_cases hx : x = t
        · subst hx; simp [h]
        · simp [hx]
      · simp [h29, h28, h27]
theorem oth_dn {V : zV} {b t o : Nat} (h : oth (uV V 27 b 0) t o) : oth V t o := by
  refine ⟨h.1, ?_, h.2.2⟩
  have h1 := h.2.1
  unfold st at h1 ⊢
  by_cases e : o = b
  · rw [e, uV_s] at h1; exact absurd rfl h1
  · rw [uV_t e] at h1; exact h1
theorem st_dn {V : zV} {t : Nat} : ¬ st (uV V 27 t 0) t := by unfold st; rw [uV_s]; exact fun x => x rfl
theorem WV_move {n : Nat} {V : zV} (hW : WV n V) {t i p : Nat} (ht : t < tN V) (hs : st V t) (hi : i < 40) (hp : p + fN V t ≤ pl V i) (hm : ¬ ∃ o, oth V t o ∧ meet V t o i p) : WV n (mvV V t (nI i) (nI p)) := by
  have hS : WB (suV (uV V 27 t 0) t (nI i) (nI p)) := suV_W (tdV_W hW.1 ht) (t := t) (i := i) (p := p) ht hi hp (fun ⟨o, h1, h2⟩ => hm ⟨o, oth_dn h1, h2⟩)
  rw [suV_mv (WB_11b hW.1 ht hs)] at hS
  have E : ∀ k, (k ≠ 28 ∧ k ≠ 29) → (mvV V t (nI i) (nI p)).1 k = V.1 k := fun k hk => by unfold mvV; rw [uV_o hk.2, uV_o hk.1]
  have E2 : ∀ g, g ≠ 200 → (mvV V t (nI i) (nI p)).2 g = V.2 g := fun _ _ => rfl
  obtain ⟨⟨w1, w2, w3, w4, w5, w6, w7, w8, w9, w10, w11, w12, w13, w18, w20, w22, w23, w24⟩, w14, w15, w16, w17, w19, w21⟩ := hW
  exact ⟨hS, W14_c (E 37 (by decide)) w14, W15_c (E 21 (by decide)) (E 22 (by decide)) (E 23 (by decide)) (E 24 (by decide)) (E 25 (by decide)) (E 26 (by decide)) (E 27 (by decide)) (E 37 (by decide)) w15, W16_c (E 25 (by decide)) (E 26 (by decide)) (E 27 (by decide)) (E 37 (by decide)) w16, W17_c (E 25 (by decide)) (E 26 (by decide)) (E 27 (by decide)) (E 35 (by decide)) w17, W19_c (E 11 (by decide)) (E 35 (by decide)) (E 36 (by decide)) w19, W21_c (E 41 (by decide)) (E 42 (by decide)) w21⟩
section SX
variable {ra : Nat → Nat} {ms mo ou z : Nat}
theorem s_19 (hz : 8100 ≤ z) : S_19 (IN ms mo ou ra) z ms mo ou := by
  intro n K L c r p1 p2 p3 hn hI
  obtain ⟨q1, q2, q3, A, h, hW, hM⟩ := hI
  generalize hV : vr ra mo r = V at h hW
  have hB := hW.1
  have hM1 : MS K ra mo (zui r 0 mo 0 0) := hM
  have hV1 : vr ra mo (zui r 0 mo 0 0) = V := by rw [vw_0, hV]
  have hT1 : zi (zui r 0 mo 0 0) 37 mo 0 = V.1 37 0 := by rw [← hV1]; rfl
  have t01 : zi (zui r 0 mo 0 0) 0 mo 0 = 0 := zi_thr
  have hW1 : WV (400 * (n + 1)) V := WV_mono (by omega) hW
  have THR : ∀ e : Int32, IN ms mo ou ra (n + 1) K L c (zui (zui r 0 mo 0 0) 0 mo 0 e) := fun e => IN_mk q1 q2 q3 h hW1 hM (by rw [vw_0, hV1])
  have hN := WB_2 hB
  rcases tr_in hB p1 with ⟨t, ht, rfl⟩ | hp1
  · have ht2 : t < 200 := by omega
    have ht8 : t < 8000 := by omega
    have e27 : zi (zui r 0 mo 0 0) 127 (ra 27) t = V.1 27 t := by rw [← hV1]; rfl
    by_cases c4 : 2 ≤ V.1 37 0
    · have c7 : V.1 37 0 ≤ 3 := by rcases tm4 hW with x | x | x | x <;> rw [x] <;> decide
      have c8 : ¬ V.1 37 0 < 2 := Int32.not_lt.mpr c4
      have c9 : V.1 37 0 = 2 ∨ V.1 37 0 = 3 := by
        rcases tm4 hW with x | x | x | x
        · rw [x] at c4; exact absurd c4 (by decide)
        · rw [x] at c4; exact absurd c4 (by decide)
        · exact Or.inl x
        · exact Or.inr x
      by_cases c1 : V.1 27 t = 0
      · refine ⟨.inl (0, c), (by rw [f_X6_move, k_trIn h hB ht, zt_l, zn_s (K4 h ht), k_tm h, if_neg c8, if_pos c7, zt_l, kn_85 h ht, kn_40 h ht, rt_20_10 h ht, if_pos c1]), fun x hx => (by cases hx), fun rr u h9 => ?_⟩
        have hu : rr = 0 ∧ u = (K, L, (zul c 170 ou 0 (if (0 : Int32) = 0 then 0 else 1))) := by
          rcases h9 with ⟨x9, c9, e9, h9⟩ | ⟨e9, _⟩ | ⟨e9, _⟩
          · cases e9; exact h9
          · cases e9
          · cases e9
        obtain ⟨rfl, rfl⟩ := hu
        exact ⟨0, _, (by rw [f_X7_move, zlet, m_noTr hV1 hB ht, zb_s, m_thr0, zb2_s, if_pos rfl, hT1, if_pos c4, f_X7_move_32, m_thr0, zb2_s, if_pos rfl, zq_27 hM1, zx_2 ht2, cl_ ht8, e27, if_pos c1]), t01, (fun _ => by rw [zl_zul, if_pos ⟨rfl, rfl, rfl⟩]), IN_mk q1 q2 q3 (RC_zl h) hW1 hM1 hV1⟩
      · by_cases c2 : ag V t p2 p3 = 0
        · obtain ⟨i, p, hi, hp, rfl, rfl, hf, hm⟩ := ag_s hB ht c2
          obtain ⟨c2_, a1, a2, a3⟩ := k_takeDown (z := z) h hB (by omega) ht c1
          obtain ⟨c3_, b1, b2, b3⟩ := k_setUp (z := z) a2 (tdV_W hB ht) (by omega) (t := t) (i := i) (p := p) ht st_dn hi hf (fun ⟨o, h1, h2⟩ => hm ⟨o, oth_dn h1, h2⟩)
          rw [suV_mv (WB_11b hB ht c1)] at b2
          refine ⟨.inl (1, c3_), (by rw [f_X6_move, k_trIn h hB ht, zt_l, zn_s (K4 h ht), k_tm h, if_neg c8, if_pos c7, zt_l, kn_85 h ht, kn_40 h ht, rt_20_10 h ht, if_neg c1, k_against h hB (by omega) ht, zb_s, if_pos c2, a1, zb_s, b1, zb_s]), fun x hx => (by cases hx), fun rr u h9 => ?_⟩
          have hu : rr = 0 ∧ u = (K, L, (zul c3_ 170 ou 0 (if (1 : Int32) = 0 then 0 else 1))) := by
            rcases h9 with ⟨x9, c9, e9, h9⟩ | ⟨e9, _⟩ | ⟨e9, _⟩
            · cases e9; exact h9
            · cases e9
            · cases e9
          obtain ⟨rfl, rfl⟩ := hu
          exact ⟨1, _, (by rw [f_X7_move, zlet, m_noTr hV1 hB ht, zb_s, m_thr0, zb2_s, if_pos rfl, hT1, if_pos c4, f_X7_move_32, m_thr0, zb2_s, if_pos rfl, zq_27 hM1, zx_2 ht2, cl_ ht8, e27, if_neg c1, m_against hM1 hV1 hB (by omega) ht, zb_s, c2, if_pos (by decide), zq_28 hM1, zx_2 ht2, zlet, zr_zui, zq_29 hM1, zx_2 ht2, zlet]), (by rw [zi_o (by decide), zi_o (by decide), t01]), (fun _ => by rw [zl_zul, if_pos ⟨rfl, rfl, rfl⟩]), IN_mk q1 q2 q3 (RC_zl b2) (WV_move hW1 ht c1 hi hf hm) (by exact hM) (by rw [vw_29, vw_28, hV1]; rfl)⟩
        · refine ⟨.inl (0, c), (by rw [f_X6_move, k_trIn h hB ht, zt_l, zn_s (K4 h ht), k_tm h, if_neg c8, if_pos c7, zt_l, kn_85 h ht, kn_40 h ht, rt_20_10 h ht, if_neg c1, k_against h hB (by omega) ht, zb_s, if_neg c2]), fun x hx => (by cases hx), fun rr u h9 => ?_⟩
          have hu : rr = 0 ∧ u = (K, L, (zul c 170 ou 0 (if (0 : Int32) = 0 then 0 else 1))) := by
            rcases h9 with ⟨x9, c9, e9, h9⟩ | ⟨e9, _⟩ | ⟨e9, _⟩
            · cases e9; exact h9
            · cases e9
            · cases e9
          obtain ⟨rfl, rfl⟩ := hu
          exact ⟨0, _, (by rw [f_X7_move, zlet, m_noTr hV1 hB ht, zb_s, m_thr0, zb2_s, if_pos rfl, hT1, if_pos c4, f_X7_move_32, m_thr0, zb2_s, if_pos rfl, zq_27 hM1, zx_2 ht2, cl_ ht8, e27, if_neg c1, m_against hM1 hV1 hB (by omega) ht, zb_s, if_neg (ag_pos c2)]), t01, (fun _ => by rw [zl_zul, if_pos ⟨rfl, rfl, rfl⟩]), IN_mk q1 q2 q3 (RC_zl h) hW1 hM1 hV1⟩
    · refine ⟨.inr 3, (by rw [f_X6_move, k_trIn h hB ht, zt_l, zn_s (K4 h ht), k_tm h, if_pos (Int32.not_le.mp c4), zt_r]), fun x hx => by have e9 := Sum.inr.inj hx; omega, fun rr u h9 => ?_⟩
      have hu : rr = 2 ∧ u = (K, L, c) := by
        rcases h9 with ⟨_, _, e9, _⟩ | ⟨e9, h9⟩ | ⟨e9, h9⟩
        · cases e9
        · exact absurd (Sum.inr.inj e9) (by decide)
        · exact h9
      obtain ⟨rfl, rfl⟩ := hu
      exact ⟨0, _, (by rw [f_X7_move, zlet, m_noTr hV1 hB ht, zb_s, m_thr0, zb2_s, if_pos rfl, hT1, if_neg c4, f_X7_move_32, m_thr1, zb2_s, if_neg (by decide)]), zi_thr, fun x => absurd x (by decide), THR 2⟩
  · refine ⟨.inr 1, (by rw [f_X6_move, k_trOut h hB hp1, zt_r]), fun x hx => by have e9 := Sum.inr.inj hx; omega, fun rr u h9 => ?_⟩
    have hu : rr = 1 ∧ u = (K, L, c) := by
      rcases h9 with ⟨_, _, e9, _⟩ | ⟨e9, h9⟩ | ⟨e9, h9⟩
      · cases e9
      · exact h9
      · exact absurd (Sum.inr.inj e9) (by decide)
    obtain ⟨rfl, rfl⟩ := hu
    exact ⟨0, _, (by rw [f_X7_move, zlet, m_noTrO hV1 hp1, zb_s, m_thr1, zb2_s, if_neg (by decide)]), zi_thr, fun x => absurd x (by decide), THR 1⟩

end SX

section CH
variable {V : zV} {t a b : Nat}
theorem ag_own {x ρ π : Int32} : ag (uV V 27 t x) t ρ π = ag V t ρ π := by
  have so : ∀ o, o ≠ t → (st (uV V 27 t x) o ↔ st V o) := fun o ho => by unfold st; rw [uV_t ho]
  have e : ∀ o, oth (uV V 27 t x) t o = oth V t o := fun o => propext ⟨fun y => ⟨y.1, (so o y.2.2).mp y.2.1, y.2.2⟩, fun y => ⟨y.1, (so o y.2.2).mpr y.2.1, y.2.2⟩⟩
  have ef : full (uV V 27 t x) t = full V t := by
    unfold full
    have : cn (fun o => st (uV V 27 t x) o ∧ o ≠ t ∧ tr (uV V 27 t x) o = tr (uV V 27 t x) t) (tN (uV V 27 t x)) = cn (fun o => st V o ∧ o ≠ t ∧ tr V o = tr V t) (tN V) := cn_c _ (fun o _ => ⟨fun y => ⟨(so o y.2.1).mp y.1, y.2⟩, fun y => ⟨(so o y.2.1).mpr y.1, y.2⟩⟩)
    rw [this]; rfl
  have es : secd (uV V 27 t x) t = secd V t := by
    unfold secd
    simp only [e]
    rfl
  unfold ag agN
  simp only [e, ef, es]
  rfl
theorem nomeet (hW : WB V) (ht : t < tN V) (hs : st V t) : ¬ ∃ o, oth V t o ∧ meet V t o (sr V t) (sp V t) := by
  rintro ⟨o, ⟨h1, h2, h3⟩, h4, h5, h6⟩
  have := WB_12 hW h1 ht h3 h2 hs h4
  omega
def chV (V : zV) (a b : Nat) : zV := mvV (mvV V a (V.1 28 b) (V.1 29 b)) b (V.1 28 a) (V.1 29 a)
theorem ch_1 : uV (uV V 27 a 0) 27 b 0 = uV (uV V 27 b 0) 27 a 0 := by
  refine zV_ext (fun k x => ?_) (fun _ _ => rfl)
  rw [uV_1, uV_1, uV_1, uV_1]
  by_cases h1 : k = 27 ∧ x = a
  · by_cases h2 : k = 27 ∧ x = b
    · rw [if_pos h2, if_pos h1]
    · rw [if_neg h2, if_pos h1, if_pos h1]
  · by_cases h2 : k = 27 ∧ x = b
    · rw [if_pos h2, if_neg h1, if_pos h2]
    · rw [if_neg h2, if_neg h1, if_neg h1, if_neg h2]
theorem ch_2 (hab : a ≠ b) (ha : V.1 27 a = 1) {ρ π : Int32} : suV (uV (uV V 27 a 0) 27 b 0) a ρ π = mvV (uV V 27 b 0) a ρ π := by
    have hab2 : b ≠ a := fun e => hab e.symm
    refine zV_ext (fun k x => ?_) (fun _ _ => rfl)
    by_cases h27 : k = 27
    · subst h27
      by_cases xa : x = a
      · subst xa; simp [suV, mvV, uV_1, hab, hab2, ha]
      · by_cases xb : x = b
        · subst xb; simp [suV, mvV, uV_1, hab, hab2, ha]
        · simp [suV, mvV, uV_1, xa, xb]
    · by_cases h28 : k = 28
      · subst h28
        by_cases xa : x = a
        · subst xa; simp [suV, mvV, uV_1, hab, hab2, ha]
        · by_cases xb : x = b
          · subst xb; simp [suV, mvV, uV_1, hab, hab2, ha]
          · simp [suV, mvV, uV_1, xa, xb]
      · by_cases h29 : k = 29
        · subst h29
          by_cases xa : x = a
          · subst xa; simp [suV, mvV, uV_1, hab, hab2, ha]
          · by_cases xb : x = b
            · subst xb; simp [suV, mvV, uV_1, hab, hab2, ha]
            · simp [suV, mvV, uV_1, xa, xb]
        · simp [suV, mvV, uV_1, h27, h28, h29]
theorem ch_3 (hab : a ≠ b) (hb : V.1 27 b = 1) : suV (mvV (uV V 27 b 0) a (V.1 28 b) (V.1 29 b)) b (V.1 28 a) (V.1 29 a) = chV V a b := by
  unfold chV
  revert hb
  generalize V.1 28 b = s1
  generalize V.1 29 b = s2
  generalize V.1 28 a = s3
  generalize V.1 29 a = s4
  intro hb
  exact by
    have hab2 : b ≠ a := fun e => hab e.symm
    refine zV_ext (fun k x => ?_) (fun _ _ => rfl)
    by_cases h27 : k = 27
    · subst h27
      by_cases xa : x = a
      · subst xa; simp [suV, mvV, uV_1, hab, hab2, hb]
      · by_cases xb : x = b
        · subst xb; simp [suV, mvV, uV_1, hab, hab2, hb]
        · simp [suV, mvV, uV_1, xa, xb]
    · by_cases h28 : k = 28
      · subst h28
        by_cases xa : x = a
        · subst xa; simp [suV, mvV, uV_1, hab, hab2, hb]
        · by_cases xb : x = b
          · subst xb; simp [suV, mvV, uV_1, hab, hab2, hb]
          · simp [suV, mvV, uV_1, xa, xb]
      · by_cases h29 : k = 29
        · subst h29
          by_cases xa : x = a
          · subst xa; simp [suV, mvV, uV_1, hab, hab2, hb]
          · by_cases xb : x = b
            · subst xb; simp [suV, mvV, uV_1, hab, hab2, hb]
            · simp [suV, mvV, uV_1, xa, xb]
        · simp [suV, mvV, uV_1, h27, h28, h29]
theorem ch_4 (hab : a ≠ b) (ha : V.1 27 a = 1) : suV (uV (uV V 27 a 0) 27 b 0) a (V.1 28 a) (V.1 29 a) = uV V 27 b 0 := by
    have hab2 : b ≠ a := fun e => hab e.symm
    refine zV_ext (fun k x => ?_) (fun _ _ => rfl)
    by_cases h27 : k = 27
    · subst h27
      by_cases xa : x = a
      · subst xa; simp [suV, mvV, uV_1, hab, hab2, ha]
      · by_cases xb : x = b
        · subst xb; simp [suV, mvV, uV_1, hab, hab2, ha]
        · simp [suV, mvV, uV_1, xa, xb]
    · by_cases h28 : k = 28
      · subst h28
        by_cases xa : x = a
        · subst xa; simp [suV, mvV, uV_1, hab, hab2, ha]
        · by_cases xb : x = b
          · subst xb; simp [suV, mvV, uV_1, hab, hab2, ha]
          · simp [suV, mvV, uV_1, xa, xb]
      · by_cases h29 : k = 29
        · subst h29
          by_cases xa : x = a
          · subst xa; simp [suV, mvV, uV_1, hab, hab2, ha]
          · by_cases xb : x = b
            · subst xb; simp [suV, mvV, uV_1, hab, hab2, ha]
            · simp [suV, mvV, uV_1, xa, xb]
        · simp [suV, mvV, uV_1, h27, h28, h29]
theorem ch_5 (hb : V.1 27 b = 1) : suV (uV V 27 b 0) b (V.1 28 b) (V.1 29 b) = V := by
  refine zV_ext (fun k x => ?_) (fun _ _ => rfl)
  unfold suV
  rw [uV_1, uV_1, uV_1, uV_1]
  by_cases x1 : x = b
  · subst x1
    by_cases h29 : k = 29
    · subst h29; simp
    · by_cases h28 : k = 28
      · subst h28; simp
      · by_cases h27 : k = 27
        · subst h27; simp [hb]
        · simp [h29, h28, h27]
  · simp [x1]
theorem ch_6 (hab : a ≠ b) (ha : V.1 27 a = 1) {ρ π : Int32} : suV (uV (mvV (uV V 27 b 0) a ρ π) 27 a 0) a (V.1 28 a) (V.1 29 a) = uV V 27 b 0 := by
    have hab2 : b ≠ a := fun e => hab e.symm
    refine zV_ext (fun k x => ?_) (fun _ _ => rfl)
    by_cases h27 : k = 27
    · subst h27
      by_cases xa : x = a
      · subst xa; simp [suV, mvV, uV_1, hab, hab2, ha]
      · by_cases xb : x = b
        · subst xb; simp [suV, mvV, uV_1, hab, hab2, ha]
        · simp [suV, mvV, uV_1, xa, xb]
    · by_cases h28 : k = 28
      · subst h28
        by_cases xa : x = a
        · subst xa; simp [suV, mvV, uV_1, hab, hab2, ha]
        · by_cases xb : x = b
          · subst xb; simp [suV, mvV, uV_1, hab, hab2, ha]
          · simp [suV, mvV, uV_1, xa, xb]
      · by_cases h29 : k = 29
        · subst h29
          by_cases xa : x = a
          · subst xa; simp [suV, mvV, uV_1, hab, hab2, ha]
          · by_cases xb : x = b
            · subst xb; simp [suV, mvV, uV_1, hab, hab2, ha]
            · simp [suV, mvV, uV_1, xa, xb]
        · simp [suV, mvV, uV_1, h27, h28, h29]
theorem ch_7 (hab : a ≠ b) (hb : V.1 27 b = 1) {ρ π : Int32} : uV (uV (uV (mvV (uV V 27 b 0) a ρ π) 27 b 1) 28 a (V.1 28 a)) 29 a (V.1 29 a) = V := by
    have hab2 : b ≠ a := fun e => hab e.symm
    refine zV_ext (fun k x => ?_) (fun _ _ => rfl)
    by_cases h27 : k = 27
    · subst h27
      by_cases xa : x = a
      · subst xa; simp [suV, mvV, uV_1, hab, hab2, hb]
      · by_cases xb : x = b
        · subst xb; simp [suV, mvV, uV_1, hab, hab2, hb]
        · simp [suV, mvV, uV_1, xa, xb]
    · by_cases h28 : k = 28
      · subst h28
        by_cases xa : x = a
        · subst xa; simp [suV, mvV, uV_1, hab, hab2, hb]
        · by_cases xb : x = b
          · subst xb; simp [suV, mvV, uV_1, hab, hab2, hb]
          · simp [suV, mvV, uV_1, xa, xb]
      · by_cases h29 : k = 29
        · subst h29
          by_cases xa : x = a
          · subst xa; simp [suV, mvV, uV_1, hab, hab2, hb]
          · by_cases xb : x = b
            · subst xb; simp [suV, mvV, uV_1, hab, hab2, hb]
            · simp [suV, mvV, uV_1, xa, xb]
        · simp [suV, mvV, uV_1, h27, h28, h29]
theorem ch_8 (hab : a ≠ b) (hb : V.1 27 b = 1) : uV (uV (uV (uV V 27 b 0) 27 b 1) 28 a (V.1 28 a)) 29 a (V.1 29 a) = V := by
    have hab2 : b ≠ a := fun e => hab e.symm
    refine zV_ext (fun k x => ?_) (fun _ _ => rfl)
    by_cases h27 : k = 27
    · subst h27
      by_cases xa : x = a
      · subst xa; simp [suV, mvV, uV_1, hab, hab2, hb]
      · by_cases xb : x = b
        · subst xb; simp [suV, mvV, uV_1, hab, hab2, hb]
        · simp [suV, mvV, uV_1, xa, xb]
    · by_cases h28 : k = 28
      · subst h28
        by_cases xa : x = a
        · subst xa; simp [suV, mvV, uV_1, hab, hab2, hb]
        · by_cases xb : x = b
          · subst xb; simp [suV, mvV, uV_1, hab, hab2, hb]
          · simp [suV, mvV, uV_1, xa, xb]
      · by_cases h29 : k = 29
        · subst h29
          by_cases xa : x = a
          · subst xa; simp [suV, mvV, uV_1, hab, hab2, hb]
          · by_cases xb : x = b
            · subst xb; simp [suV, mvV, uV_1, hab, hab2, hb]
            · simp [suV, mvV, uV_1, xa, xb]
        · simp [suV, mvV, uV_1, h27, h28, h29]
theorem ch_9 (hab : a ≠ b) (hb : V.1 27 b = 1) : uV (uV (uV (uV (uV (mvV (uV V 27 b 0) a (V.1 28 b) (V.1 29 b)) 27 b 1) 28 a (V.1 28 b)) 29 a (V.1 29 b)) 28 b (V.1 28 a)) 29 b (V.1 29 a) = chV V a b := by
  unfold chV
  revert hb
  generalize V.1 28 b = s1
  generalize V.1 29 b = s2
  generalize V.1 28 a = s3
  generalize V.1 29 a = s4
  intro hb
  exact by
    have hab2 : b ≠ a := fun e => hab e.symm
    refine zV_ext (fun k x => ?_) (fun _ _ => rfl)
    by_cases h27 : k = 27
    · subst h27
      by_cases xa : x = a
      · subst xa; simp [suV, mvV, uV_1, hab, hab2, hb]
      · by_cases xb : x = b
        · subst xb; simp [suV, mvV, uV_1, hab, hab2, hb]
        · simp [suV, mvV, uV_1, xa, xb]
    · by_cases h28 : k = 28
      · subst h28
        by_cases xa : x = a
        · subst xa; simp [suV, mvV, uV_1, hab, hab2, hb]
        · by_cases xb : x = b
          · subst xb; simp [suV, mvV, uV_1, hab, hab2, hb]
          · simp [suV, mvV, uV_1, xa, xb]
      · by_cases h29 : k = 29
        · subst h29
          by_cases xa : x = a
          · subst xa; simp [suV, mvV, uV_1, hab, hab2, hb]
          · by_cases xb : x = b
            · subst xb; simp [suV, mvV, uV_1, hab, hab2, hb]
            · simp [suV, mvV, uV_1, xa, xb]
        · simp [suV, mvV, uV_1, h27, h28, h29]
end CH

section SX
variable {ra : Nat → Nat} {ms mo ou z : Nat}
theorem s_20 (hz : 8100 ≤ z) : S_20 (IN ms mo ou ra) z ms mo ou := by
  intro n K L c r p1 p2 hn hI
  obtain ⟨q1, q2, q3, A, h, hW, hM⟩ := hI
  generalize hV : vr ra mo r = V at h hW
  have hB := hW.1
  have hM1 : MS K ra mo (zui r 0 mo 0 0) := hM
  have hV1 : vr ra mo (zui r 0 mo 0 0) = V := by rw [vw_0, hV]
  have hT1 : zi (zui r 0 mo 0 0) 37 mo 0 = V.1 37 0 := by rw [← hV1]; rfl
  have t01 : zi (zui r 0 mo 0 0) 0 mo 0 = 0 := zi_thr
  have hW1 : WV (400 * (n + 1)) V := WV_mono (by omega) hW
  have THR : ∀ e : Int32, IN ms mo ou ra (n + 1) K L c (zui (zui r 0 mo 0 0) 0 mo 0 e) := fun e => IN_mk q1 q2 q3 h hW1 hM (by rw [vw_0, hV1])
  have hN := WB_2 hB
  rcases tr_in hB p1 with ⟨a, ha, rfl⟩ | hp1
  · rcases tr_in hB p2 with ⟨b, hb, rfl⟩ | hp2
    · have ha2 : a < 200 := by omega
      have hb2 : b < 200 := by omega
      have ha8 : a < 8000 := by omega
      have hb8 : b < 8000 := by omega
      have x27 : ∀ t, zi (zui r 0 mo 0 0) 127 (ra 27) t = V.1 27 t := fun t => by rw [← hV1]; rfl
      have x28 : ∀ t, zi (zui r 0 mo 0 0) 128 (ra 28) t = V.1 28 t := fun t => by rw [← hV1]; rfl
      have x29 : ∀ t, zi (zui r 0 mo 0 0) 129 (ra 29) t = V.1 29 t := fun t => by rw [← hV1]; rfl
      by_cases c4 : 2 ≤ V.1 37 0
      · have c7 : V.1 37 0 ≤ 3 := by rcases tm4 hW with x | x | x | x <;> rw [x] <;> decide
        have c8 : ¬ V.1 37 0 < 2 := Int32.not_lt.mpr c4
        have c9 : V.1 37 0 = 2 ∨ V.1 37 0 = 3 := by
          rcases tm4 hW with x | x | x | x
          · rw [x] at c4; exact absurd c4 (by decide)
          · rw [x] at c4; exact absurd c4 (by decide)
          · exact Or.inl x
          · exact Or.inr x
        by_cases hab : a = b
        · subst hab
          refine ⟨.inl (0, c), (by rw [f_X6_change, k_trIn h hB ha, zt_l, zn_s (K4 h ha), zt_l, zn_s (K4 h ha), k_tm h, if_neg c8, if_pos c7, zt_l, if_pos rfl]), fun x hx => (by cases hx), fun rr u h9 => ?_⟩
          have hu : rr = 0 ∧ u = (K, L, (zul c 170 ou 0 (if (0 : Int32) = 0 then 0 else 1))) := by
            rcases h9 with ⟨x9, c9, e9, h9⟩ | ⟨e9, _⟩ | ⟨e9, _⟩
            · cases e9; exact h9
            · cases e9
            · cases e9
          obtain ⟨rfl, rfl⟩ := hu
          exact ⟨0, _, (by rw [f_X7_change, zlet, m_noTr hV1 hB ha, zb_s, if_pos rfl, zb_s, if_pos rfl, f_X7_change_27, m_thr0, zb2_s, if_pos rfl, hT1, if_pos c4, f_X7_change_48, m_thr0, zb2_s, if_pos rfl, if_pos rfl]), t01, (fun _ => by rw [zl_zul, if_pos ⟨rfl, rfl, rfl⟩]), IN_mk q1 q2 q3 (RC_zl h) hW1 hM1 hV1⟩
        · have cnA : ¬ A 4 a = A 4 b := fun e => hab (h.1 _ _ _ _ e).2
          have cne : ¬ nI a = nI b := fun e => hab ((nI_eq (by omega) (by omega)).mp e)
          by_cases c1 : V.1 27 a = 0
          · refine ⟨.inl (0, c), (by rw [f_X6_change, k_trIn h hB ha, zt_l, zn_s (K4 h ha), k_trIn h hB hb, zt_l, zn_s (K4 h hb), k_tm h, if_neg c8, if_pos c7, zt_l, if_neg cnA, kn_85 h ha, kn_40 h ha, rt_20_10 h ha, if_pos c1]), fun x hx => (by cases hx), fun rr u h9 => ?_⟩
            have hu : rr = 0 ∧ u = (K, L, (zul c 170 ou 0 (if (0 : Int32) = 0 then 0 else 1))) := by
              rcases h9 with ⟨x9, c9, e9, h9⟩ | ⟨e9, _⟩ | ⟨e9, _⟩
              · cases e9; exact h9
              · cases e9
              · cases e9
            obtain ⟨rfl, rfl⟩ := hu
            exact ⟨0, _, (by rw [f_X7_change, zlet, m_noTr hV1 hB ha, zb_s, if_pos rfl, m_noTr hV1 hB hb, zb_s, if_pos rfl, f_X7_change_27, m_thr0, zb2_s, if_pos rfl, hT1, if_pos c4, f_X7_change_48, m_thr0, zb2_s, if_pos rfl, if_neg cne, zq_27 hM1, zx_2 ha2, cl_ ha8, x27 a, if_pos c1]), t01, (fun _ => by rw [zl_zul, if_pos ⟨rfl, rfl, rfl⟩]), IN_mk q1 q2 q3 (RC_zl h) hW1 hM1 hV1⟩
          · by_cases c2 : V.1 27 b = 0
            · refine ⟨.inl (0, c), (by rw [f_X6_change, k_trIn h hB ha, zt_l, zn_s (K4 h ha), k_trIn h hB hb, zt_l, zn_s (K4 h hb), k_tm h, if_neg c8, if_pos c7, zt_l, if_neg cnA, kn_85 h ha, kn_40 h ha, rt_20_10 h ha, if_neg c1, kn_85 h hb, kn_40 h hb, rt_20_10 h hb, if_pos c2]), fun x hx => (by cases hx), fun rr u h9 => ?_⟩
              have hu : rr = 0 ∧ u = (K, L, (zul c 170 ou 0 (if (0 : Int32) = 0 then 0 else 1))) := by
                rcases h9 with ⟨x9, c9, e9, h9⟩ | ⟨e9, _⟩ | ⟨e9, _⟩
                · cases e9; exact h9
                · cases e9
                · cases e9
              obtain ⟨rfl, rfl⟩ := hu
              exact ⟨0, _, (by rw [f_X7_change, zlet, m_noTr hV1 hB ha, zb_s, if_pos rfl, m_noTr hV1 hB hb, zb_s, if_pos rfl, f_X7_change_27, m_thr0, zb2_s, if_pos rfl, hT1, if_pos c4, f_X7_change_48, m_thr0, zb2_s, if_pos rfl, if_neg cne, zq_27 hM1, zx_2 ha2, cl_ ha8, x27 a, if_neg c1, zx_2 hb2, cl_ hb8, x27 b, if_pos c2]), t01, (fun _ => by rw [zl_zul, if_pos ⟨rfl, rfl, rfl⟩]), IN_mk q1 q2 q3 (RC_zl h) hW1 hM1 hV1⟩
            · have oA := WB_11b hB ha c1
              have oB := WB_11b hB hb c2
              have hab2 : b ≠ a := fun e => hab e.symm
              obtain ⟨sA1, sA2, sA3, sA4⟩ := WB_11 hB ha c1
              obtain ⟨sB1, sB2, sB3, sB4⟩ := WB_11 hB hb c2
              have plA := (WB_7 hB sA2).2
              have plB := (WB_7 hB sB2).2
              -- both away
              obtain ⟨c5, a1, a2, a3⟩ := k_takeDown (z := z) h hB (by omega) ha c1
              have hB1 := tdV_W hB ha
              have sb1 : st (uV V 27 a 0) b := by unfold st; rw [uV_t hab2]; exact c2
              obtain ⟨c6, b1, b2, b3⟩ := k_takeDown (z := z) a2 hB1 (by omega) (t := b) hb sb1
              have hB2 : WB (uV (uV V 27 a 0) 27 b 0) := tdV_W hB1 (t := b) hb
              have sa2 : ¬ st (uV (uV V 27 a 0) 27 b 0) a := by unfold st; rw [uV_t hab, uV_s]; exact fun x => x rfl
              have nmA : ¬ ∃ o, oth (uV (uV V 27 a 0) 27 b 0) a o ∧ meet (uV (uV V 27 a 0) 27 b 0) a o (sr V a) (sp V a) := fun ⟨o, h1, h2⟩ => nomeet hB ha c1 ⟨o, oth_dn (oth_dn h1), h2⟩
              have nmB : ¬ ∃ o, oth (uV V 27 b 0) b o ∧ meet (uV V 27 b 0) b o (sr V b) (sp V b) := fun ⟨o, h1, h2⟩ => nomeet hB hb c2 ⟨o, oth_dn h1, h2⟩
              have hBb : WB (uV V 27 b 0) := tdV_W hB hb
              -- back where they were
              have BACK : ∀ c7 : zS, RC K A c7 (uV V 27 b 0) ms → ∃ c8, f_X6_setUp K z c7 ms (A 4 b) (V.1 28 b) (V.1 29 b) = some c8 ∧ RC K A c8 V ms := fun c7 h7 => by
                obtain ⟨c8, g1, g2, g3⟩ := k_setUp (z := z) h7 hBb (by omega) (t := b) (i := sr V b) (p := sp V b) hb st_dn sB2 sB4 nmB
                rw [← sB1, ← sB3] at g1 g2
                rw [ch_5 oB] at g2
                exact ⟨c8, g1, g2⟩
              have hMb : MS K ra mo (zui (zui r 0 mo 0 0) 127 (ra 27) b 0) := hM
              have hVb : vr ra mo (zui (zui r 0 mo 0 0) 127 (ra 27) b 0) = uV V 27 b 0 := by rw [vw_27, hV1]
              have M1 := m_against (z := z) hMb hVb hBb (by omega) (t := a) ha (V.1 28 b) (V.1 29 b)
              have eg : ag (uV (uV V 27 a 0) 27 b 0) a (V.1 28 b) (V.1 29 b) = ag (uV V 27 b 0) a (V.1 28 b) (V.1 29 b) := by rw [ch_1, ag_own]
              by_cases d1 : ag (uV V 27 b 0) a (V.1 28 b) (V.1 29 b) = 0
              · have d1' : ag (uV (uV V 27 a 0) 27 b 0) a (nI (sr V b)) (nI (sp V b)) = 0 := by rw [← sB1, ← sB3, eg]; exact d1
                obtain ⟨hf1, hm1⟩ := ag_s2 hB2 (t := a) ha sB2 (by omega) d1'
                obtain ⟨c7_, e1, e2, e3⟩ := k_setUp (z := z) b2 hB2 (by omega) (t := a) (i := sr V b) (p := sp V b) ha sa2 sB2 hf1 hm1
                have hB3 := suV_W hB2 (t := a) (i := sr V b) (p := sp V b) ha sB2 hf1 hm1
                rw [← sB1, ← sB3] at e1 e2 hB3
                rw [ch_2 hab oA] at e2 hB3
                have hM3 : MS K ra mo (zui (zui (zui (zui r 0 mo 0 0) 127 (ra 27) b 0) 128 (ra 28) a (V.1 28 b)) 129 (ra 29) a (V.1 29 b)) := hM
                have hV3 : vr ra mo (zui (zui (zui (zui r 0 mo 0 0) 127 (ra 27) b 0) 128 (ra 28) a (V.1 28 b)) 129 (ra 29) a (V.1 29 b)) = mvV (uV V 27 b 0) a (V.1 28 b) (V.1 29 b) := by rw [vw_29, vw_28, hVb]; rfl
                have M3 := m_against (z := z) hM3 hV3 hB3 (by omega) (t := b) hb (V.1 28 a) (V.1 29 a)
                have K3 := k_against (z := z) e2 hB3 (by omega) (t := b) hb (V.1 28 a) (V.1 29 a)
                have sb3 : ¬ st (mvV (uV V 27 b 0) a (V.1 28 b) (V.1 29 b)) b := by unfold st mvV; rw [uV_o (by decide), uV_o (by decide), uV_s]; exact fun x => x rfl
                by_cases d2 : ag (mvV (uV V 27 b 0) a (V.1 28 b) (V.1 29 b)) b (V.1 28 a) (V.1 29 a) = 0
                · have d2' := d2
                  rw [sA1, sA3] at d2'
                  obtain ⟨hf2, hm2⟩ := ag_s2 hB3 (t := b) hb sA2 (by omega) d2'
                  obtain ⟨c9_, f1, f2, f3⟩ := k_setUp (z := z) e2 hB3 (by omega) (t := b) (i := sr V a) (p := sp V a) hb sb3 sA2 hf2 hm2
                  have hB4 := suV_W hB3 (t := b) (i := sr V a) (p := sp V a) hb sA2 hf2 hm2
                  rw [← sA1, ← sA3] at f1 f2 hB4
                  rw [ch_3 hab oB] at f2 hB4
                  have hW4 : WV (400 * (n + 1)) (chV V a b) := by
                    have E : ∀ k, (k ≠ 28 ∧ k ≠ 29) → (chV V a b).1 k = V.1 k := fun k hk => by unfold chV mvV; rw [uV_o hk.2, uV_o hk.1, uV_o hk.2, uV_o hk.1]
                    have E2 : ∀ g, g ≠ 200 → (chV V a b).2 g = V.2 g := fun _ _ => rfl
                    obtain ⟨⟨w1, w2, w3, w4, w5, w6, w7, w8, w9, w10, w11, w12, w13, w18, w20, w22, w23, w24⟩, w14, w15, w16, w17, w19, w21⟩ := hW1
                    exact ⟨hB4, W14_c (E 37 (by decide)) w14, W15_c (E 21 (by decide)) (E 22 (by decide)) (E 23 (by decide)) (E 24 (by decide)) (E 25 (by decide)) (E 26 (by decide)) (E 27 (by decide)) (E 37 (by decide)) w15, W16_c (E 25 (by decide)) (E 26 (by decide)) (E 27 (by decide)) (E 37 (by decide)) w16, W17_c (E 25 (by decide)) (E 26 (by decide)) (E 27 (by decide)) (E 35 (by decide)) w17, W19_c (E 11 (by decide)) (E 35 (by decide)) (E 36 (by decide)) w19, W21_c (E 41 (by decide)) (E 42 (by decide)) w21⟩
                  refine ⟨.inl (1, c9_), (by rw [f_X6_change, k_trIn h hB ha, zt_l, zn_s (K4 h ha), k_trIn h hB hb, zt_l, zn_s (K4 h hb), k_tm h, if_neg c8, if_pos c7, zt_l, if_neg cnA, kn_85 h ha, kn_40 h ha, rt_20_10 h ha, if_neg c1, kn_85 h hb, kn_40 h hb, rt_20_10 h hb, if_neg c2, f_X6_swapIfBothSuit, kn_85 h ha, kn_40 h ha, zlet, zlet, kn_85 h hb, kn_40 h hb, zlet, zlet, rt_21_10 h ha, rt_22_10 h ha, rt_21_10 h hb, rt_22_10 h hb, a1, zb_s, b1, zb_s, k_against b2 hB2 (by omega) ha, zb_s, eg, if_pos d1, e1, zb_s, K3, zb_s, if_pos d2, f1, zb_s, zb2_s, zz_1]), fun x hx => (by cases hx), fun rr u h9 => ?_⟩
                  have hu : rr = 0 ∧ u = (K, L, (zul c9_ 170 ou 0 (if (1 : Int32) = 0 then 0 else 1))) := by
                    rcases h9 with ⟨x9, c9, e9, h9⟩ | ⟨e9, _⟩ | ⟨e9, _⟩
                    · cases e9; exact h9
                    · cases e9
                    · cases e9
                  obtain ⟨rfl, rfl⟩ := hu
                  refine ⟨1, _, (by rw [f_X7_change, zlet, m_noTr hV1 hB ha, zb_s, if_pos rfl, m_noTr hV1 hB hb, zb_s, if_pos rfl, f_X7_change_27, m_thr0, zb2_s, if_pos rfl, hT1, if_pos c4, f_X7_change_48, m_thr0, zb2_s, if_pos rfl, if_neg cne, zq_27 hM1, zx_2 ha2, cl_ ha8, x27 a, if_neg c1, zx_2 hb2, cl_ hb8, x27 b, if_neg c2, zq_28 hM1, zx_2 ha2, zlet, x28 a, zq_29 hM1, zx_2 ha2, zlet, x29 a, zx_2 hb2, zlet, x28 b, zx_2 hb2, zlet, x29 b, zx_2 hb2, zlet, M1, zb_s, if_pos d1, f_X7_change_137, if_neg (by decide), zr_zui, zq_28 hM1, zx_2 ha2, zlet, cl_ ha8, zr_zui, zr_zui, zq_29 hM1, zx_2 ha2, zlet, M3, zb_s, if_pos d2, f_X7_change_176, f_X7_change_178, zr_zui, zr_zui, zr_zui, zq_27 hM1, zx_2 hb2, zlet, zr_zui, zr_zui, zr_zui, zr_zui, zq_28 hM1, if_neg (by decide), f_X7_change_201, zx_2 ha2, zlet, cl_ ha8, zr_zui, zr_zui, zr_zui, zr_zui, zr_zui, zq_29 hM1, if_neg (by decide), f_X7_change_219, zx_2 ha2, zlet, cl_ ha8, if_neg (by decide), zr_zui, zr_zui, zr_zui, zr_zui, zr_zui, zr_zui, zq_28 hM1, zx_2 hb2, zlet, cl_ hb8, zr_zui, zr_zui, zr_zui, zr_zui, zr_zui, zr_zui, zr_zui, zq_29 hM1, zx_2 hb2, zlet, zz_1]), ?_, (fun _ => by rw [zl_zul, if_pos ⟨rfl, rfl, rfl⟩]), IN_mk q1 q2 q3 (RC_zl f2) hW4 (by exact hM) ?_⟩
                  · rw [zi_o (by decide), zi_o (by decide), zi_o (by decide), zi_o (by decide), zi_o (by decide), zi_o (by decide), zi_o (by decide), zi_o (by decide), t01]
                  · rw [vw_29, vw_28, vw_29, vw_28, vw_27, hV3]; exact ch_9 hab oB
                · -- the second one does not suit
                  have sa3 : st (mvV (uV V 27 b 0) a (V.1 28 b) (V.1 29 b)) a := by unfold st mvV; rw [uV_o (by decide), uV_o (by decide), uV_t hab, oA]; decide
                  obtain ⟨c9_, f1, f2, f3⟩ := k_takeDown (z := z) e2 hB3 (by omega) (t := a) ha sa3
                  have hB5 : WB (uV (mvV (uV V 27 b 0) a (V.1 28 b) (V.1 29 b)) 27 a 0) := tdV_W hB3 (t := a) ha
                  have nm5 : ¬ ∃ o, oth (uV (mvV (uV V 27 b 0) a (V.1 28 b) (V.1 29 b)) 27 a 0) a o ∧ meet (uV (mvV (uV V 27 b 0) a (V.1 28 b) (V.1 29 b)) 27 a 0) a o (sr V a) (sp V a) := fun ⟨o, h1, h2⟩ => by
                    have h3 := oth_dn h1
                    have h4 : oth V a o := by
                      refine ⟨h3.1, ?_, h3.2.2⟩
                      have h5 := h3.2.1
                      unfold st mvV at h5
                      rw [uV_o (by decide), uV_o (by decide)] at h5
                      unfold st
                      by_cases e : o = b
                      · rw [e, uV_s] at h5; exact absurd rfl h5
                      · rw [uV_t e] at h5; exact h5
                    have r1 : sr (uV (mvV (uV V 27 b 0) a (V.1 28 b) (V.1 29 b)) 27 a 0) o = sr V o := by
                      unfold sr mvV; rw [uV_o (by decide), uV_o (by decide), uV_t h4.2.2, uV_o (by decide)]
                    have r2 : sp (uV (mvV (uV V 27 b 0) a (V.1 28 b) (V.1 29 b)) 27 a 0) o = sp V o := by
                      unfold sp mvV; rw [uV_o (by decide), uV_t h4.2.2, uV_o (by decide), uV_o (by decide)]
                    unfold meet at h2
                    rw [r1, r2] at h2
                    exact nomeet hB ha c1 ⟨o, h4, h2⟩
                  obtain ⟨c10_, g1, g2, g3⟩ := k_setUp (z := z) f2 hB5 (by omega) (t := a) (i := sr V a) (p := sp V a) ha st_dn sA2 sA4 nm5
                  rw [← sA1, ← sA3] at g1 g2
                  rw [ch_6 hab oA] at g2
                  obtain ⟨c11_, i1, i2⟩ := BACK c10_ g2
                  refine ⟨.inl (0, c11_), (by rw [f_X6_change, k_trIn h hB ha, zt_l, zn_s (K4 h ha), k_trIn h hB hb, zt_l, zn_s (K4 h hb), k_tm h, if_neg c8, if_pos c7, zt_l, if_neg cnA, kn_85 h ha, kn_40 h ha, rt_20_10 h ha, if_neg c1, kn_85 h hb, kn_40 h hb, rt_20_10 h hb, if_neg c2, f_X6_swapIfBothSuit, kn_85 h ha, kn_40 h ha, zlet, zlet, kn_85 h hb, kn_40 h hb, zlet, zlet, rt_21_10 h ha, rt_22_10 h ha, rt_21_10 h hb, rt_22_10 h hb, a1, zb_s, b1, zb_s, k_against b2 hB2 (by omega) ha, zb_s, eg, if_pos d1, e1, zb_s, K3, zb_s, if_neg d2, f1, zb_s, f_X6_swapIfBothSuit_104, g1, zb_s, i1, zb_s, zb2_s, zz_0]), fun x hx => (by cases hx), fun rr u h9 => ?_⟩
                  have hu : rr = 0 ∧ u = (K, L, (zul c11_ 170 ou 0 (if (0 : Int32) = 0 then 0 else 1))) := by
                    rcases h9 with ⟨x9, c9, e9, h9⟩ | ⟨e9, _⟩ | ⟨e9, _⟩
                    · cases e9; exact h9
                    · cases e9
                    · cases e9
                  obtain ⟨rfl, rfl⟩ := hu
                  refine ⟨0, _, (by rw [f_X7_change, zlet, m_noTr hV1 hB ha, zb_s, if_pos rfl, m_noTr hV1 hB hb, zb_s, if_pos rfl, f_X7_change_27, m_thr0, zb2_s, if_pos rfl, hT1, if_pos c4, f_X7_change_48, m_thr0, zb2_s, if_pos rfl, if_neg cne, zq_27 hM1, zx_2 ha2, cl_ ha8, x27 a, if_neg c1, zx_2 hb2, cl_ hb8, x27 b, if_neg c2, zq_28 hM1, zx_2 ha2, zlet, x28 a, zq_29 hM1, zx_2 ha2, zlet, x29 a, zx_2 hb2, zlet, x28 b, zx_2 hb2, zlet, x29 b, zx_2 hb2, zlet, M1, zb_s, if_pos d1, f_X7_change_137, if_neg (by decide), zr_zui, zq_28 hM1, zx_2 ha2, zlet, cl_ ha8, zr_zui, zr_zui, zq_29 hM1, zx_2 ha2, zlet, M3, zb_s, if_neg d2, f_X7_change_176, f_X7_change_178, zr_zui, zr_zui, zr_zui, zq_27 hM1, zx_2 hb2, zlet, cl_ hb8, zr_zui, zr_zui, zr_zui, zr_zui, zq_28 hM1, if_pos rfl, f_X7_change_201, zx_2 ha2, zlet, cl_ ha8, zr_zui, zr_zui, zr_zui, zr_zui, zr_zui, zq_29 hM1, if_pos rfl, f_X7_change_219, zx_2 ha2, zlet, cl_ ha8, if_pos rfl, zz_0]), ?_, (fun _ => by rw [zl_zul, if_pos ⟨rfl, rfl, rfl⟩]), IN_mk q1 q2 q3 (RC_zl i2) hW1 (by exact hM) ?_⟩
                  · rw [zi_o (by decide), zi_o (by decide), zi_o (by decide), zi_o (by decide), zi_o (by decide), zi_o (by decide), t01]
                  · rw [vw_29, vw_28, vw_27, hV3]; exact ch_7 hab oB
              · obtain ⟨c10_, g1, g2, g3⟩ := k_setUp (z := z) b2 hB2 (by omega) (t := a) (i := sr V a) (p := sp V a) ha sa2 sA2 sA4 nmA
                rw [← sA1, ← sA3] at g1 g2
                rw [ch_4 hab oA] at g2
                obtain ⟨c11_, i1, i2⟩ := BACK c10_ g2
                refine ⟨.inl (0, c11_), (by rw [f_X6_change, k_trIn h hB ha, zt_l, zn_s (K4 h ha), k_trIn h hB hb, zt_l, zn_s (K4 h hb), k_tm h, if_neg c8, if_pos c7, zt_l, if_neg cnA, kn_85 h ha, kn_40 h ha, rt_20_10 h ha, if_neg c1, kn_85 h hb, kn_40 h hb, rt_20_10 h hb, if_neg c2, f_X6_swapIfBothSuit, kn_85 h ha, kn_40 h ha, zlet, zlet, kn_85 h hb, kn_40 h hb, zlet, zlet, rt_21_10 h ha, rt_22_10 h ha, rt_21_10 h hb, rt_22_10 h hb, a1, zb_s, b1, zb_s, k_against b2 hB2 (by omega) ha, zb_s, eg, if_neg d1, f_X6_swapIfBothSuit_104, g1, zb_s, i1, zb_s, zb2_s, zz_0]), fun x hx => (by cases hx), fun rr u h9 => ?_⟩
                have hu : rr = 0 ∧ u = (K, L, (zul c11_ 170 ou 0 (if (0 : Int32) = 0 then 0 else 1))) := by
                  rcases h9 with ⟨x9, c9, e9, h9⟩ | ⟨e9, _⟩ | ⟨e9, _⟩
                  · cases e9; exact h9
                  · cases e9
                  · cases e9
                obtain ⟨rfl, rfl⟩ := hu
                refine ⟨0, _, (by rw [f_X7_change, zlet, m_noTr hV1 hB ha, zb_s, if_pos rfl, m_noTr hV1 hB hb, zb_s, if_pos rfl, f_X7_change_27, m_thr0, zb2_s, if_pos rfl, hT1, if_pos c4, f_X7_change_48, m_thr0, zb2_s, if_pos rfl, if_neg cne, zq_27 hM1, zx_2 ha2, cl_ ha8, x27 a, if_neg c1, zx_2 hb2, cl_ hb8, x27 b, if_neg c2, zq_28 hM1, zx_2 ha2, zlet, x28 a, zq_29 hM1, zx_2 ha2, zlet, x29 a, zx_2 hb2, zlet, x28 b, zx_2 hb2, zlet, x29 b, zx_2 hb2, zlet, M1, zb_s, if_neg d1, f_X7_change_137, if_pos rfl, f_X7_change_178, zr_zui, zq_27 hM1, zx_2 hb2, zlet, cl_ hb8, zr_zui, zr_zui, zq_28 hM1, if_pos rfl, f_X7_change_201, zx_2 ha2, zlet, cl_ ha8, zr_zui, zr_zui, zr_zui, zq_29 hM1, if_pos rfl, f_X7_change_219, zx_2 ha2, zlet, cl_ ha8, if_pos rfl, zz_0]), ?_, (fun _ => by rw [zl_zul, if_pos ⟨rfl, rfl, rfl⟩]), IN_mk q1 q2 q3 (RC_zl i2) hW1 (by exact hM) ?_⟩
                · rw [zi_o (by decide), zi_o (by decide), zi_o (by decide), zi_o (by decide), t01]
                · rw [vw_29, vw_28, vw_27, hVb]; exact ch_8 hab oB
      · refine ⟨.inr 3, (by rw [f_X6_change, k_trIn h hB ha, zt_l, zn_s (K4 h ha), k_trIn h hB hb, zt_l, zn_s (K4 h hb), k_tm h, if_pos (Int32.not_le.mp c4), zt_r]), fun x hx => by have e9 := Sum.inr.inj hx; omega, fun rr u h9 => ?_⟩
        have hu : rr = 2 ∧ u = (K, L, c) := by
          rcases h9 with ⟨_, _, e9, _⟩ | ⟨e9, h9⟩ | ⟨e9, h9⟩
          · cases e9
          · exact absurd (Sum.inr.inj e9) (by decide)
          · exact h9
        obtain ⟨rfl, rfl⟩ := hu
        exact ⟨0, _, (by rw [f_X7_change, zlet, m_noTr hV1 hB ha, zb_s, if_pos rfl, m_noTr hV1 hB hb, zb_s, if_pos rfl, f_X7_change_27, m_thr0, zb2_s, if_pos rfl, hT1, if_neg c4, f_X7_change_48, m_thr1, zb2_s, if_neg (by decide)]), zi_thr, fun x => absurd x (by decide), THR 2⟩
    · refine ⟨.inr 1, (by rw [f_X6_change, k_trIn h hB ha, zt_l, zn_s (K4 h ha), k_trOut h hB hp2, zt_r]), fun x hx => by have e9 := Sum.inr.inj hx; omega, fun rr u h9 => ?_⟩
      have hu : rr = 1 ∧ u = (K, L, c) := by
        rcases h9 with ⟨_, _, e9, _⟩ | ⟨e9, h9⟩ | ⟨e9, h9⟩
        · cases e9
        · exact h9
        · exact absurd (Sum.inr.inj e9) (by decide)
      obtain ⟨rfl, rfl⟩ := hu
      exact ⟨0, _, (by rw [f_X7_change, zlet, m_noTr hV1 hB ha, zb_s, if_pos rfl, m_noTrO hV1 hp2, zb_s, if_neg (by decide), f_X7_change_22, f_X7_change_27, m_thr1, zb2_s, if_neg (by decide)]), zi_thr, fun x => absurd x (by decide), THR 1⟩
  · refine ⟨.inr 1, (by rw [f_X6_change, k_trOut h hB hp1, zt_r]), fun x hx => by have e9 := Sum.inr.inj hx; omega, fun rr u h9 => ?_⟩
    have hu : rr = 1 ∧ u = (K, L, c) := by
      rcases h9 with ⟨_, _, e9, _⟩ | ⟨e9, h9⟩ | ⟨e9, h9⟩
      · cases e9
      · exact h9
      · exact absurd (Sum.inr.inj e9) (by decide)
    obtain ⟨rfl, rfl⟩ := hu
    exact ⟨0, _, (by rw [f_X7_change, zlet, m_noTrO hV1 hp1, zb_s, if_neg (by decide), f_X7_change_22, f_X7_change_27, m_thr1, zb2_s, if_neg (by decide)]), zi_thr, fun x => absurd x (by decide), THR 1⟩

end SX

theorem ag_37 {U : zV} {t : Nat} {v ρ π : Int32} : ag (uV U 37 0 v) t ρ π = ag U t ρ π := by
  have h : ∀ k, k ≠ 37 → (uV U 37 0 v).1 k = U.1 k := fun k hk => uV_o hk
  unfold ag agN wthn mkd mk oth meet full pd besd oppo fire near outm secd oth st fN pl sr sp tr tN
  simp only [h 1 (by decide), h 2 (by decide), h 4 (by decide), h 5 (by decide), h 6 (by decide), h 8 (by decide), h 9 (by decide), h 10 (by decide), h 15 (by decide), h 27 (by decide), h 28 (by decide), h 29 (by decide), h 35 (by decide), h 38 (by decide)]
theorem WB_37 {U : zV} (hW : WB U) {v : Int32} : WB (uV U 37 0 v) := by
  have E : ∀ g, (g ≠ 37) → (uV U 37 0 v).1 g = U.1 g := fun g hg => uV_o hg
  have E2 : ∀ g, g ≠ 200 → (uV U 37 0 v).2 g = U.2 g := fun _ _ => rfl
  obtain ⟨w1, w2, w3, w4, w5, w6, w7, w8, w9, w10, w11, w12, w13, w18, w20, w22, w23, w24⟩ := hW
  exact ⟨W1_c (E 35 (by decide)) w1, W2_c (E 35 (by decide)) w2, W3_c (E 7 (by decide)) w3, W4_c (E 7 (by decide)) w4, W5_c (E 7 (by decide)) (E 9 (by decide)) (E 35 (by decide)) w5, W6_c (E 10 (by decide)) (E 35 (by decide)) w6, W7_c (E 1 (by decide)) w7, W8_c (E 2 (by decide)) w8, W9_c (E 6 (by decide)) w9, W10_c (E 5 (by decide)) w10, W11_c (E 1 (by decide)) (E 10 (by decide)) (E 27 (by decide)) (E 28 (by decide)) (E 29 (by decide)) (E 35 (by decide)) w11, W12_c (E 10 (by decide)) (E 27 (by decide)) (E 28 (by decide)) (E 29 (by decide)) (E 35 (by decide)) w12, W13_c (E 21 (by decide)) (E 23 (by decide)) (E 35 (by decide)) w13, W18_c (E 31 (by decide)) (E 32 (by decide)) (E 35 (by decide)) w18, W20_c (E 11 (by decide)) (E 35 (by decide)) w20, W22_c (E 18 (by decide)) (E 35 (by decide)) w22, W23_c (E 12 (by decide)) (E 13 (by decide)) (E 14 (by decide)) (E 16 (by decide)) (E 17 (by decide)) (E 18 (by decide)) (E 19 (by decide)) (E 20 (by decide)) (E 21 (by decide)) (E 22 (by decide)) (E 23 (by decide)) (E 24 (by decide)) (E 25 (by decide)) (E 26 (by decide)) (E 27 (by decide)) (E 28 (by decide)) (E 29 (by decide)) (E 30 (by decide)) (E 31 (by decide)) (E 32 (by decide)) (E 35 (by decide)) (E2 34 (by decide)) w23, W24_c (E 6 (by decide)) (E 7 (by decide)) w24⟩
theorem uV_cm {U : zV} {k t k' t' : Nat} {v v' : Int32} (h : k ≠ k') : uV (uV U k t v) k' t' v' = uV (uV U k' t' v') k t v := by
  refine zV_ext (fun g x => ?_) (fun _ _ => rfl)
  rw [uV_1, uV_1, uV_1, uV_1]
  by_cases h1 : g = k ∧ x = t
  · rw [if_pos h1, if_neg (fun y => h (h1.1.symm.trans y.1)), if_pos h1]
  · by_cases h2 : g = k' ∧ x = t'
    · rw [if_pos h2, if_neg h1, if_pos h2]
    · rw [if_neg h2, if_neg h1, if_neg h1, if_neg h2]
theorem uV_tw {U : zV} {k t : Nat} {v v' : Int32} : uV (uV U k t v) k t v' = uV U k t v' := by
  refine zV_ext (fun g x => ?_) (fun _ _ => rfl)
  rw [uV_1, uV_1, uV_1]
  by_cases h1 : g = k ∧ x = t
  · rw [if_pos h1, if_pos h1]
  · rw [if_neg h1, if_neg h1, if_neg h1]
theorem cmV_37 {U : zV} {t : Nat} {v ρ π : Int32} : cmV (uV U 37 0 v) t ρ π = uV (cmV U t ρ π) 37 0 v := by
  unfold cmV
  rw [uV_o (show 39 ≠ 37 by decide), uV_cm (show 30 ≠ 37 by decide), uV_cm (show 29 ≠ 37 by decide), uV_cm (show 28 ≠ 37 by decide), uV_cm (show 26 ≠ 37 by decide), uV_cm (show 27 ≠ 37 by decide)]
theorem WV_sl {n : Nat} {V : zV} (hW : WV n V) (h2 : V.1 37 0 = 2 ∨ V.1 37 0 = 3) {t : Nat} (ht : t < tN V) : WV n (uV V 23 t 1) := by
  have E : ∀ g, (g ≠ 23) → (uV V 23 t 1).1 g = V.1 g := fun g hg => uV_o hg
  have E2 : ∀ g, g ≠ 200 → (uV V 23 t 1).2 g = V.2 g := fun _ _ => rfl
  obtain ⟨⟨w1, w2, w3, w4, w5, w6, w7, w8, w9, w10, w11, w12, w13, w18, w20, w22, w23, w24⟩, w14, w15, w16, w17, w19, w21⟩ := hW
  refine ⟨⟨W1_c (E 35 (by decide)) w1, W2_c (E 35 (by decide)) w2, W3_c (E 7 (by decide)) w3, W4_c (E 7 (by decide)) w4, W5_c (E 7 (by decide)) (E 9 (by decide)) (E 35 (by decide)) w5, W6_c (E 10 (by decide)) (E 35 (by decide)) w6, W7_c (E 1 (by decide)) w7, W8_c (E 2 (by decide)) w8, W9_c (E 6 (by decide)) w9, W10_c (E 5 (by decide)) w10, W11_c (E 1 (by decide)) (E 10 (by decide)) (E 27 (by decide)) (E 28 (by decide)) (E 29 (by decide)) (E 35 (by decide)) w11, W12_c (E 10 (by decide)) (E 27 (by decide)) (E 28 (by decide)) (E 29 (by decide)) (E 35 (by decide)) w12, ?_, W18_c (E 31 (by decide)) (E 32 (by decide)) (E 35 (by decide)) w18, W20_c (E 11 (by decide)) (E 35 (by decide)) w20, W22_c (E 18 (by decide)) (E 35 (by decide)) w22, ?_, W24_c (E 6 (by decide)) (E 7 (by decide)) w24⟩, W14_c (E 37 (by decide)) w14, ?_, W16_c (E 25 (by decide)) (E 26 (by decide)) (E 27 (by decide)) (E 37 (by decide)) w16, W17_c (E 25 (by decide)) (E 26 (by decide)) (E 27 (by decide)) (E 35 (by decide)) w17, W19_c (E 11 (by decide)) (E 35 (by decide)) (E 36 (by decide)) w19, W21_c (E 41 (by decide)) (E 42 (by decide)) w21⟩
  · intro a ha
    have w := w13 a ha
    refine ⟨?_, by rw [E 21 (by decide)]; exact w.2⟩
    by_cases e : a = t
    · rw [e, uV_s]; exact Or.inr rfl
    · rw [uV_t e]; exact w.1
  · intro a ha h3
    have ha2 : tN V ≤ a := ha
    have h := w23 a ha2 h3
    simp only [uV_n (show a ≠ t by omega), E 16 (by decide), E 17 (by decide)]
    exact h
  · intro e; rw [E 37 (by decide)] at e; exact absurd e (tm_no h2).1
section BE
variable {K : Nat → Nat} {A : Nat → Nat → Nat} {ra : Nat → Nat} {ms mo z n : Nat}
theorem j_bell (hz : 8100 ≤ z) {N : Nat} {rk : Nat → Nat} (hN : N ≤ 200) (hrk : ∀ i, i < N → rk i < N) (hinj : ∀ i j, i < j → j < N → rk i ≠ rk j) : ∀ (nn k : Nat) (c r : zS) (U : zV) (v : Int32), RC K A c (uV U 37 0 1) ms → WV n U → U.1 37 0 = 2 → tN U = N → MS K ra mo r → vr ra mo r = U → (∀ i, i < N → zi r 149 (ra 49) i = nI (rk i)) → (∀ i, i < N → zr c 146 (A 14 0) i = some (A 4 (rk i))) → (∀ i, k ≤ i → i < N → ¬ st U (rk i)) → k ≤ N → N - k < nn → ∃ (x : Int32) (c1 r1 : zS) (U1 : zV), f_X6_giveOutPitches_4 K z ms nn c v (nI k) = some (x, c1) ∧ f_X7_bell_64 K z mo nn r v (nI k) = some (x, r1) ∧ RC K A c1 (uV U1 37 0 1) ms ∧ WV n U1 ∧ U1.1 37 0 = 2 ∧ MS K ra mo r1 ∧ vr ra mo r1 = U1 ∧ zi r1 0 mo 0 = zi r 0 mo 0 := by
  intro nn
  induction nn with
  | zero => intro k c r U v _ _ _ _ _ _ _ _ _ hk h; omega
  | succ nn ih =>
    intro k c r U v h hW h37 hNU hM hV h149 h146 hst hk hh
    have hB := hW.1
    have hB1 := WB_37 hB (v := 1)
    have eN : tN (uV U 37 0 1) = tN U := rfl
    have w1 : (uV U 37 0 1).1 35 0 = nI (tN U) := by rw [uV_o (by decide)]; exact WB_1 hB
    rw [f_X6_giveOutPitches_4, f_X7_bell_64, (C10 h).2.1, w1, rd_35 (ra := ra) (mo := mo), hV, WB_1 hB, iLE (by omega) (by omega), iLE (by omega) (by omega)]
    by_cases h1 : tN U ≤ k
    · rw [if_pos h1, if_pos h1]
      exact ⟨v, c, r, U, rfl, rfl, h, hW, h37, hM, hV, rfl⟩
    · have hkl : k < N := by omega
      have ht : rk k < tN U := by rw [hNU]; exact hrk k hkl
      have ht2 : rk k < 200 := by omega
      have ht8 : rk k < 8000 := by omega
      have r12 : ∀ t, zi r 112 (ra 12) t = U.1 12 t := fun t => by rw [← hV]; rfl
      have r21 : ∀ t, zi r 121 (ra 21) t = U.1 21 t := fun t => by rw [← hV]; rfl
      have r13 : ∀ t, zi r 113 (ra 13) t = U.1 13 t := fun t => by rw [← hV]; rfl
      have r14 : ∀ t, zi r 114 (ra 14) t = U.1 14 t := fun t => by rw [← hV]; rfl
      have x12 : zi c 20 (A 5 (rk k)) 0 = U.1 12 (rk k) := by rw [rt_20_5 h ht, uV_o (by decide)]
      have x13 : zi c 21 (A 5 (rk k)) 0 = U.1 13 (rk k) := by rw [rt_21_5 h ht, uV_o (by decide)]
      have x14 : zi c 22 (A 5 (rk k)) 0 = U.1 14 (rk k) := by rw [rt_22_5 h ht, uV_o (by decide)]
      have x42 : zi c 42 (A 9 (rk k)) 0 = U.1 21 (rk k) := by rw [rt_42_9 h ht, uV_o (by decide)]
      have stn : ∀ i, k + 1 ≤ i → i < N → ¬ st U (rk i) := fun i a b => hst i (by omega) b
      rw [if_neg h1, if_neg h1, kn_123 h, zx_2 (by omega), cl_ (by omega), h146 k hkl, zn_s (K4 h ht), kn_83 h ht, x12, zq_49 hM, zx_2 (by omega), h149 k hkl]
      simp only [zlet, nI_1]
      rw [zq_12 hM, zx_2 ht2, cl_ ht8, r12]
      by_cases d1 : U.1 12 (rk k) = 0
      · rw [if_pos d1, if_pos d1]
        exact ih (k + 1) c r U v h hW h37 hNU hM hV h149 h146 stn (by omega) (by omega)
      · rw [if_neg d1, if_neg d1, kn_85 h ht, x42, zq_21 hM, zx_2 ht2, r21]
        by_cases d2 : U.1 21 (rk k) = 0
        · rw [if_pos d2, if_pos d2]
          exact ih (k + 1) c r U v h hW h37 hNU hM hV h149 h146 stn (by omega) (by omega)
        · rw [if_neg d2, if_neg d2, k_against h hB1 (by omega) ht, zb_s, x13, x14, ag_37, zq_13 hM, zx_2 ht2, zq_14 hM, zx_2 ht2, r13, r14, m_against hM hV hB (by omega) ht, zb_s]
          by_cases d3 : ag U (rk k) (U.1 13 (rk k)) (U.1 14 (rk k)) = 0
          · obtain ⟨i, p, hi, hp, e1, e2, hf, hm⟩ := ag_s hB ht d3
            obtain ⟨c2, b1, b2, b3⟩ := k_opens (z := z) h hB1 (by omega) (t := rk k) (i := i) (p := p) ht (hst k (Nat.le_refl _) hkl) hi hf hm
            obtain ⟨r2, f1, f2, f3⟩ := m_comes (z := z) hM hV ht2 (nI i) (nI p)
            rw [if_pos d3, if_pos d3, zx_2 ht2, zx_2 ht2, e1, e2, b1, zb_s, f1, zb_s]
            rw [cmV_37] at b2
            obtain ⟨x, c3, r3, U3, a1, a2, a3, a4, a5, a6, a7, a8⟩ := ih (k + 1) c2 r2 (cmV U (rk k) (nI i) (nI p)) (v + 1) b2 (WV_cm hW (Or.inl h37) ht hi hf hm) (by rw [cmV_o 37 (by decide)]; exact h37) hNU (Fr_ms f2 hM) f3 (fun i hi => by rw [Fr_zi f2 (by decide)]; exact h149 i hi) (fun i hi => by rw [b3 146 (by decide)]; exact h146 i hi) (fun j hj1 hj2 => by
              unfold st
              rw [cmV_n (fun e => hinj k j (by omega) hj2 e.symm)]
              exact stn j hj1 hj2) (by omega) (by omega)
            exact ⟨x, c3, r3, U3, a1, a2, a3, a4, a5, a6, a7, by rw [a8, Fr_thr f2 (by decide)]⟩
          · rw [if_neg d3, if_neg d3, zq_23 hM, zx_2 ht2]
            have h2 := RC_u (f := 44) (k := 9) (m := 23) (t := rk k) (v := 1) h (by decide) (by decide) (by decide)
            rw [uV_cm (show 37 ≠ 23 by decide)] at h2
            obtain ⟨x, c3, r3, U3, a1, a2, a3, a4, a5, a6, a7, a8⟩ := ih (k + 1) (zui c 44 (A 9 (rk k)) 0 1) (zui r 123 (ra 23) (rk k) 1) (uV U 23 (rk k) 1) v h2 (WV_sl hW (Or.inl h37) ht) (by rw [uV_o (by decide)]; exact h37) hNU (by exact hM) (by rw [vw_23, hV]) (fun i hi => by rw [zi_o (by decide)]; exact h149 i hi) h146 (fun j hj1 hj2 => by
              unfold st
              rw [uV_o (by decide)]
              exact stn j hj1 hj2) (by omega) (by omega)
            exact ⟨x, c3, r3, U3, a1, a2, a3, a4, a5, a6, a7, by rw [a8, zi_o (by decide)]⟩
theorem WV_t12 {V : zV} (hW : WV n V) (h1 : V.1 37 0 = 1 ∨ V.1 37 0 = 2) {v : Int32} (hv : v = 2 ∨ v = 3) : WV n (uV V 37 0 v) := by
  have E : ∀ g, (g ≠ 37) → (uV V 37 0 v).1 g = V.1 g := fun g hg => uV_o hg
  have E2 : ∀ g, g ≠ 200 → (uV V 37 0 v).2 g = V.2 g := fun _ _ => rfl
  obtain ⟨⟨w1, w2, w3, w4, w5, w6, w7, w8, w9, w10, w11, w12, w13, w18, w20, w22, w23, w24⟩, w14, w15, w16, w17, w19, w21⟩ := hW
  refine ⟨⟨W1_c (E 35 (by decide)) w1, W2_c (E 35 (by decide)) w2, W3_c (E 7 (by decide)) w3, W4_c (E 7 (by decide)) w4, W5_c (E 7 (by decide)) (E 9 (by decide)) (E 35 (by decide)) w5, W6_c (E 10 (by decide)) (E 35 (by decide)) w6, W7_c (E 1 (by decide)) w7, W8_c (E 2 (by decide)) w8, W9_c (E 6 (by decide)) w9, W10_c (E 5 (by decide)) w10, W11_c (E 1 (by decide)) (E 10 (by decide)) (E 27 (by decide)) (E 28 (by decide)) (E 29 (by decide)) (E 35 (by decide)) w11, W12_c (E 10 (by decide)) (E 27 (by decide)) (E 28 (by decide)) (E 29 (by decide)) (E 35 (by decide)) w12, W13_c (E 21 (by decide)) (E 23 (by decide)) (E 35 (by decide)) w13, W18_c (E 31 (by decide)) (E 32 (by decide)) (E 35 (by decide)) w18, W20_c (E 11 (by decide)) (E 35 (by decide)) w20, W22_c (E 18 (by decide)) (E 35 (by decide)) w22, W23_c (E 12 (by decide)) (E 13 (by decide)) (E 14 (by decide)) (E 16 (by decide)) (E 17 (by decide)) (E 18 (by decide)) (E 19 (by decide)) (E 20 (by decide)) (E 21 (by decide)) (E 22 (by decide)) (E 23 (by decide)) (E 24 (by decide)) (E 25 (by decide)) (E 26 (by decide)) (E 27 (by decide)) (E 28 (by decide)) (E 29 (by decide)) (E 30 (by decide)) (E 31 (by decide)) (E 32 (by decide)) (E 35 (by decide)) (E2 34 (by decide)) w23, W24_c (E 6 (by decide)) (E 7 (by decide)) w24⟩, ?_, ?_, ?_, W17_c (E 25 (by decide)) (E 26 (by decide)) (E 27 (by decide)) (E 35 (by decide)) w17, W19_c (E 11 (by decide)) (E 35 (by decide)) (E 36 (by decide)) w19, W21_c (E 41 (by decide)) (E 42 (by decide)) w21⟩
  · unfold W14
    rw [uV_s]
    rcases hv with e | e
    · exact ⟨2, by decide, e⟩
    · exact ⟨3, by decide, e⟩
  · intro e; rw [uV_s] at e
    rcases hv with x | x
    · rw [x] at e; exact absurd e (by decide)
    · rw [x] at e; exact absurd e (by decide)
  · intro e; rw [uV_s] at e
    rcases hv with x | x
    · rw [x] at e; exact absurd e (by decide)
    · rw [x] at e; exact absurd e (by decide)
theorem RC_t {c : zS} {V : zV} (h : RC K A c V ms) {v : Int32} : RC K A (zui c 128 ms 0 v) (uV V 37 0 v) ms := by
  have Ez : ∀ g, (g ≠ 128) → zi (zui c 128 ms 0 v) g = zi c g := fun g hg => zi_o hg
  have El : ∀ g, g ≠ 1000 → zl (zui c 128 ms 0 v) g = zl c g := fun _ _ => rfl
  have Er : ∀ g, g ≠ 1000 → zr (zui c 128 ms 0 v) g = zr c g := fun _ _ => rfl
  have E : ∀ g, (g ≠ 37) → (uV V 37 0 v).1 g = V.1 g := fun g hg => uV_o hg
  have E2 : ∀ g, g ≠ 200 → (uV V 37 0 v).2 g = V.2 g := fun _ _ => rfl
  refine ⟨h.1, R1_c (E 7 (by decide)) (E 35 (by decide)) (C1 h), R2_c (Er 0 (by decide)) (Er 1 (by decide)) (Er 120 (by decide)) (Er 121 (by decide)) (Er 122 (by decide)) (Er 123 (by decide)) (Er 124 (by decide)) (Er 143 (by decide)) (C2 h), R3_c (Er 144 (by decide)) (Er 145 (by decide)) (E 7 (by decide)) (E 35 (by decide)) (C3 h), R4_c (Er 40 (by decide)) (Er 81 (by decide)) (Er 83 (by decide)) (Er 84 (by decide)) (Er 85 (by decide)) (Er 100 (by decide)) (Er 101 (by decide)) (E 9 (by decide)) (E 35 (by decide)) (C4 h), R5_c (Ez 20 (by decide)) (Ez 21 (by decide)) (Ez 22 (by decide)) (Ez 41 (by decide)) (Ez 42 (by decide)) (Ez 44 (by decide)) (Ez 45 (by decide)) (Ez 46 (by decide)) (Ez 82 (by decide)) (Ez 86 (by decide)) (Ez 87 (by decide)) (Ez 88 (by decide)) (Ez 89 (by decide)) (Ez 90 (by decide)) (Ez 91 (by decide)) (Ez 92 (by decide)) (Ez 102 (by decide)) (Ez 103 (by decide)) (E 8 (by decide)) (E 10 (by decide)) (E 11 (by decide)) (E 12 (by decide)) (E 13 (by decide)) (E 14 (by decide)) (E 15 (by decide)) (E 18 (by decide)) (E 19 (by decide)) (E 20 (by decide)) (E 21 (by decide)) (E 23 (by decide)) (E 24 (by decide)) (E 25 (by decide)) (E 27 (by decide)) (E 28 (by decide)) (E 29 (by decide)) (E 30 (by decide)) (E 31 (by decide)) (E 32 (by decide)) (E 33 (by decide)) (E 35 (by decide)) (C5 h), R6_c (Ez 141 (by decide)) (Ez 142 (by decide)) (E 16 (by decide)) (E 17 (by decide)) (E 35 (by decide)) (C6 h), R7_c (Ez 2 (by decide)) (Ez 140 (by decide)) (E 1 (by decide)) (E 2 (by decide)) (C7 h), R8_c (Ez 60 (by decide)) (Ez 61 (by decide)) (Ez 62 (by decide)) (Ez 63 (by decide)) (Ez 64 (by decide)) (E 3 (by decide)) (E 4 (by decide)) (E 5 (by decide)) (E 6 (by decide)) (E 7 (by decide)) (C8 h), R9_c (Ez 43 (by decide)) (Ez 80 (by decide)) (El 93 (by decide)) (E 21 (by decide)) (E 22 (by decide)) (E 35 (by decide)) (E2 34 (by decide)) (C9 h), ?_, R11_c (Ez 65 (by decide)) (E 7 (by decide)) (E 9 (by decide)) (E 27 (by decide)) (E 35 (by decide)) (C11 h), R12_c (Ez 132 (by decide)) (Ez 133 (by decide)) (E 8 (by decide)) (E 27 (by decide)) (E 35 (by decide)) (C12 h), R13_c (Er 148 (by decide)) (E 10 (by decide)) (E 27 (by decide)) (E 28 (by decide)) (E 29 (by decide)) (E 35 (by decide)) (C13 h), R14_c (Er 146 (by decide)) (E 11 (by decide)) (E 35 (by decide)) (C14 h), R15_c (Ez 47 (by decide)) (E 35 (by decide)) (E 60 (by decide)) (C15 h)⟩
  obtain ⟨a1, a2, a3, a4, a5, a6, a7, a8, a9, a10, a11⟩ := C10 h
  refine ⟨by rw [Ez 125 (by decide), E 7 (by decide)]; exact a1, by rw [Ez 126 (by decide), E 35 (by decide)]; exact a2, by rw [Ez 127 (by decide), E 36 (by decide)]; exact a3, by rw [zi_zui, if_pos ⟨rfl, rfl, rfl⟩, uV_s], by rw [Ez 129 (by decide), E 40 (by decide)]; exact a5, by rw [Ez 130 (by decide), E 38 (by decide)]; exact a6, by rw [Ez 131 (by decide), E 39 (by decide)]; exact a7, a8, a9, by rw [El 136 (by decide), E 41 (by decide)]; exact a10, by rw [El 137 (by decide), E 42 (by decide)]; exact a11⟩
end BE

section SX
variable {ra : Nat → Nat} {ms mo ou z : Nat}
theorem s_13 (hz : 8100 ≤ z) : S_13 (IN ms mo ou ra) z ms mo ou := by
  intro n K L c r  hn hI
  obtain ⟨q1, q2, q3, A, h, hW, hM⟩ := hI
  generalize hV : vr ra mo r = V at h hW
  have hB := hW.1
  have hM1 : MS K ra mo (zui r 0 mo 0 0) := hM
  have hV1 : vr ra mo (zui r 0 mo 0 0) = V := by rw [vw_0, hV]
  have hT1 : zi (zui r 0 mo 0 0) 37 mo 0 = V.1 37 0 := by rw [← hV1]; rfl
  have t01 : zi (zui r 0 mo 0 0) 0 mo 0 = 0 := zi_thr
  have hW1 : WV (400 * (n + 1)) V := WV_mono (by omega) hW
  have THR : ∀ e : Int32, IN ms mo ou ra (n + 1) K L c (zui (zui r 0 mo 0 0) 0 mo 0 e) := fun e => IN_mk q1 q2 q3 h hW1 hM (by rw [vw_0, hV1])
  have hN := WB_2 hB
  have e21 : (1 : Int32) + 1 = 2 := by decide
  have e32 : (2 : Int32) + 1 = 3 := by decide
  by_cases c1 : V.1 37 0 = 1
  · -- the first bell
    have hM2 : MS K ra mo (zui (zui r 0 mo 0 0) 37 mo 0 2) := hM
    have hV2 : vr ra mo (zui (zui r 0 mo 0 0) 37 mo 0 2) = uV V 37 0 2 := by rw [vw_37, hV1]
    have hW2 := WV_t12 hW1 (Or.inl c1) (v := 2) (Or.inl rfl)
    obtain ⟨r9, k1, k2, s1, k3, k4⟩ := m_ranks (z := z) hM2 hV2 hW2.1 (by omega)
    obtain ⟨rk, j1, j2⟩ := C14 h
    have j3 : Ls (rkI (uV V 37 0 2)) (fun x => x < tN V) (tN V) rk := j2
    have es : ∀ i, i < tN V → s1 i = rk i := fun i hi => Ls_u k4 j3 i hi hi
    have h0 : RC K A c (uV (uV V 37 0 2) 37 0 1) ms := by rw [uV_tw, ← c1, uV_self]; exact h
    have nst : ∀ i, 0 ≤ i → i < tN V → ¬ st (uV V 37 0 2) (rk i) := fun i _ hi x => by
      have w := (WV_16 hW c1 (show rk i < 200 by have := j2.1 i hi; omega)).2.2
      unfold st at x
      rw [uV_o (by decide)] at x
      exact x w
    have inj : ∀ i j, i < j → j < tN V → rk i ≠ rk j := fun i j hij hj e => by have := j2.2.1 i j hij hj; rw [e] at this; omega
    have hM9 := Fr_ms k2 hM2
    have hV9 : vr ra mo r9 = uV V 37 0 2 := by rw [Fr_vr k2 (by decide), hV2]
    obtain ⟨x, c3, r3, U3, a1, a2, a3, a4, a5, a6, a7, a8⟩ := j_bell (z := z) hz hN (fun i hi => j2.1 i hi) inj z 0 c r9 (uV V 37 0 2) 0 h0 hW2 uV_s rfl hM9 hV9 (fun i hi => by rw [k3 i hi, es i hi]) j1 nst (Nat.zero_le _) (by omega)
    have hR : RC K A (zui c3 128 ms 0 2) U3 ms := by
      have y := RC_t a3 (v := 2)
      rw [uV_tw, ← a5, uV_self] at y
      rw [← a5]; exact y
    have e128 : zi c3 128 ms 0 = 1 := by rw [(C10 a3).2.2.2.1, uV_s]
    have t9 : zi r3 0 mo 0 = 0 := by rw [a8, Fr_thr k2 (by decide), zi_o (by decide), t01]
    have a1q : f_X6_giveOutPitches_4 K z ms z c 0 0 = _ := a1
    refine ⟨.inl (x, zui c3 128 ms 0 2), (by rw [f_X6_bell, k_tm h, c1, if_neg (by decide), if_pos (by decide), zt_l, (C10 h).2.2.2.1, if_pos c1, f_X6_giveOutPitches, a1q, zb2_s, f_X6_bell_22, e128, e21, zlet]), fun x hx => (by cases hx), fun rr u h9 => ?_⟩
    have hu : rr = 0 ∧ u = (K, L, (zul (zui c3 128 ms 0 2) 170 ou 0 (Int32.toInt64 x))) := by
      rcases h9 with ⟨x9, c9, e9, h9⟩ | ⟨e9, _⟩
      · cases e9; exact h9
      · cases e9
    obtain ⟨rfl, rfl⟩ := hu
    exact ⟨x, r3, (by rw [f_X7_bell, zlet, hT1, if_pos c1, f_X7_bell_26, f_X7_bell_27, m_thr0, zb2_s, if_pos rfl, hT1, c1, e21, zlet, zi_zui, if_pos (show 37 = 37 ∧ mo = mo ∧ 0 = 0 from ⟨rfl, rfl, rfl⟩), if_neg (by decide), k1, zb_s]; exact a2), t9, (fun _ => by rw [zl_zul, if_pos ⟨rfl, rfl, rfl⟩]), IN_mk q1 q2 q3 (RC_zl hR) a4 a6 a7⟩
  · by_cases c2 : V.1 37 0 = 2
    · have hR := RC_t h (v := 3)
      refine ⟨.inl (0, zui c 128 ms 0 3), (by rw [f_X6_bell, k_tm h, c2, if_neg (by decide), if_pos (by decide), zt_l, (C10 h).2.2.2.1, if_neg c1, f_X6_bell_22, (C10 h).2.2.2.1, c2, e32, zlet]), fun x hx => (by cases hx), fun rr u h9 => ?_⟩
      have hu : rr = 0 ∧ u = (K, L, (zul (zui c 128 ms 0 3) 170 ou 0 (Int32.toInt64 0))) := by
        rcases h9 with ⟨x9, c9, e9, h9⟩ | ⟨e9, _⟩
        · cases e9; exact h9
        · cases e9
      obtain ⟨rfl, rfl⟩ := hu
      exact ⟨0, zui (zui r 0 mo 0 0) 37 mo 0 3, (by rw [f_X7_bell, zlet, hT1, if_neg c1, if_pos c2, f_X7_bell_26, f_X7_bell_27, m_thr0, zb2_s, if_pos rfl, hT1, c2, e32, zlet, zi_zui, if_pos (show 37 = 37 ∧ mo = mo ∧ 0 = 0 from ⟨rfl, rfl, rfl⟩), if_pos rfl]), (by rw [zi_o (by decide), t01]), (fun _ => by rw [zl_zul, if_pos ⟨rfl, rfl, rfl⟩]), IN_mk q1 q2 q3 (RC_zl hR) (WV_t12 hW1 (Or.inr c2) (Or.inr rfl)) (by exact hM) (by rw [vw_37, hV1])⟩
    · have c6 : (if V.1 37 0 < 1 then some (.inr 3) else if V.1 37 0 ≤ 2 then some (.inl ()) else some (.inr 3) : Option (Unit ⊕ Nat)) = some (.inr 3) := by
        rcases tm4 hW with x | x | x | x
        · rw [x]; rfl
        · exact absurd x c1
        · exact absurd x c2
        · rw [x]; rfl
      refine ⟨.inr 3, (by rw [f_X6_bell, k_tm h, c6, zt_r]), fun x hx => by have e9 := Sum.inr.inj hx; omega, fun rr u h9 => ?_⟩
      have hu : rr = 1 ∧ u = (K, L, c) := by
        rcases h9 with ⟨_, _, e9, _⟩ | ⟨e9, h9⟩
        · cases e9
        · exact h9
      obtain ⟨rfl, rfl⟩ := hu
      exact ⟨0, _, (by rw [f_X7_bell, zlet, hT1, if_neg c1, if_neg c2, f_X7_bell_27, m_thr1, zb2_s, if_neg (by decide)]), zi_thr, fun x => absurd x (by decide), THR 1⟩

end SX

