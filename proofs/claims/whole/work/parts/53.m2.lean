section M2
variable {K : Nat → Nat} {ra : Nat → Nat} {mo z n : Nat} {r : zS} {V : zV}
theorem oiF : (0 : Int32) = oi False := (oi_n (fun x => x)).symm
theorem oiT : (1 : Int32) = oi True := (oi_p trivial).symm
theorem m_any6 (hM : MS K ra mo r) (hV : vr ra mo r = V) (hW : WB V) {t : Nat} (ht : t < tN V) {ρ π w : Int32} {Q : Nat → Prop} (hQ : ∀ o, o < tN V → st V o → o ≠ t → f_X7_stops K z r mo (nI t) (nI o) ρ π w = some (oi (Q o))) : ∀ (nn k : Nat), k ≤ tN V → tN V - k < nn → ∀ (P : Prop), f_X7_anyStops_6 K z r mo (nI t) ρ π w nn (oi P) (nI k) = some (oi (P ∨ ∃ o, k ≤ o ∧ oth V t o ∧ Q o)) := by
  have htl : t < 200 := Nat.lt_of_lt_of_le ht (WB_2 hW)
  have hN := WB_2 hW
  intro nn
  induction nn with
  | zero => intro k hk h; omega
  | succ nn ih =>
    intro k hk h P
    rw [f_X7_anyStops_6, rd_35 (ra := ra) (mo := mo), hV, WB_1 hW, iLE (by omega) (by omega)]
    by_cases h1 : tN V ≤ k
    · rw [if_pos h1, zz_p oi_b]
      congr 1
      refine oi_c ⟨fun x => Or.inl x, fun x => ?_⟩
      rcases x with x | ⟨o, h2, h3, -⟩
      · exact x
      · exact absurd h3.1 (by omega)
    · rw [if_neg h1]
      have hk2 : k < 200 := by omega
      by_cases hP : P
      · rw [oi_p hP, if_neg (by decide), zz_1, oi_p (Or.inl hP)]
      · rw [oi_n hP, if_pos rfl]
        simp only [zq_27 hM, zx_2 hk2, cl_ (show k < 8000 by omega), rd_27 (ra := ra) (mo := mo), hV, zlet, nI_1]
        have ST : ∀ (B : Prop), (B ↔ (oth V t k ∧ Q k)) → f_X7_anyStops_6 K z r mo (nI t) ρ π w nn (oi B) (nI (k + 1)) = some (oi (P ∨ ∃ o, k ≤ o ∧ oth V t o ∧ Q o)) := by
          intro B hB
          rw [ih (k + 1) (by omega) (by omega) B]
          congr 1
          refine oi_c ⟨fun x => ?_, fun x => ?_⟩
          · rcases x with x | ⟨o, h4, h5⟩
            · exact Or.inr ⟨k, Nat.le_refl _, hB.mp x⟩
            · exact Or.inr ⟨o, by omega, h5⟩
          · rcases x with x | ⟨o, h4, h5⟩
            · exact absurd x hP
            · rcases Nat.lt_or_ge k o with h7 | h7
              · exact Or.inr ⟨o, h7, h5⟩
              · have e : o = k := by omega
                exact Or.inl (hB.mpr (by rw [← e]; exact h5))
        by_cases h2 : V.1 27 k = 0
        · rw [if_pos h2, oiF]
          exact ST False ⟨fun x => x.elim, fun x => x.1.2.1 h2⟩
        · rw [if_neg h2, iEQ (by omega) (by omega)]
          by_cases h3 : k = t
          · rw [if_pos h3, oiF]
            exact ST False ⟨fun x => x.elim, fun x => x.1.2.2 h3⟩
          · rw [if_neg h3, hQ k (by omega) h2 h3, zb_s]
            by_cases h4 : Q k
            · rw [oi_p h4, if_neg (by decide), oiT]
              exact ST True ⟨fun _ => ⟨⟨by omega, h2, h3⟩, h4⟩, fun _ => trivial⟩
            · rw [oi_n h4, if_pos rfl, oiF]
              exact ST False ⟨fun x => x.elim, fun x => h4 x.2⟩
theorem m_any (hM : MS K ra mo r) (hV : vr ra mo r = V) (hW : WB V) (hz : 300 ≤ z) {t : Nat} (ht : t < tN V) {ρ π w : Int32} {Q : Nat → Prop} (hQ : ∀ o, o < tN V → st V o → o ≠ t → f_X7_stops K z r mo (nI t) (nI o) ρ π w = some (oi (Q o))) : f_X7_anyStops K z r mo (nI t) ρ π w = some (oi (∃ o, oth V t o ∧ Q o)) := by
  have hN := WB_2 hW
  have := m_any6 hM hV hW ht hQ z 0 (by omega) (by omega) False
  rw [f_X7_anyStops, oiF, show oi False = nI 0 from oi_n (fun x => x)] 
  rw [show oi False = nI 0 from oi_n (fun x => x)] at this
  rw [this]
  congr 1
  refine oi_c ⟨fun x => ?_, fun ⟨o, h⟩ => Or.inr ⟨o, Nat.zero_le _, h⟩⟩
  rcases x with x | ⟨o, -, h⟩
  · exact x.elim
  · exact ⟨o, h⟩
theorem m_stops3 (hM : MS K ra mo r) (hV : vr ra mo r = V) (hW : WB V) {t o i p : Nat} (ht : t < tN V) (hi : i < 40) (hp : p < 300) (ho : o < tN V) (hs : st V o) : f_X7_stops K z r mo (nI t) (nI o) (nI i) (nI p) 3 = some (oi (meet V t o i p)) := by
  rw [f_X7_stops, if_pos rfl, m_meets hM hV hW ht ho hs hi hp, zb_s, zz_p oi_b]
theorem m_and {P Q : Prop} {x : Option Int32} (h : x = some (oi Q)) : (if oi P = 0 then some 0 else zb x fun x10 => (if x10 = 0 then some 0 else some 1)) = some (oi (P ∧ Q)) := by
  rw [h, zb_s]
  by_cases hP : P
  · rw [oi_p hP, if_neg (by decide)]
    by_cases hQ : Q
    · rw [oi_p hQ, if_neg (by decide), oi_p ⟨hP, hQ⟩]
    · rw [oi_n hQ, if_pos rfl, oi_n (fun x => hQ x.2)]
  · rw [oi_n hP, if_pos rfl, oi_n (fun x => hP x.1)]
theorem m_stops5 (hM : MS K ra mo r) (hV : vr ra mo r = V) (hW : WB V) {t o i p : Nat} (ht : t < tN V) (hi : i < 40) (hp : p < 300) (ho : o < tN V) (hs : st V o) : f_X7_stops K z r mo (nI t) (nI o) (nI i) (nI p) 5 = some (oi (pd V t o ∧ besd V t o i p)) := by
  rw [f_X7_stops, if_neg (by decide), if_neg (by decide), if_pos rfl, m_arePaired hM hV hW ht ho, zb_s]
  exact m_and (m_isBeside hM hV hW ht ho hs hi hp)
theorem m_stops6 (hM : MS K ra mo r) (hV : vr ra mo r = V) (hW : WB V) {t o i p : Nat} (ht : t < tN V) (hi : i < 40) (hp : p < 300) (ho : o < tN V) (hs : st V o) : f_X7_stops K z r mo (nI t) (nI o) (nI i) (nI p) 6 = some (oi (pd V t o ∧ oppo V t o i p)) := by
  rw [f_X7_stops, if_neg (by decide), if_neg (by decide), if_neg (by decide), if_pos rfl, m_arePaired hM hV hW ht ho, zb_s]
  exact m_and (m_isOpposite hM hV hW ht ho hs hi hp)
theorem m_stops8 (hM : MS K ra mo r) (hV : vr ra mo r = V) (hW : WB V) {t o i p : Nat} (ht : t < tN V) (hi : i < 40) (hp : p < 300) (ho : o < tN V) (hs : st V o) : f_X7_stops K z r mo (nI t) (nI o) (nI i) (nI p) 8 = some (oi (fire V t o ∧ near V t o i p)) := by
  rw [f_X7_stops, if_neg (by decide), if_neg (by decide), if_neg (by decide), if_neg (by decide), if_neg (by decide), if_pos rfl, m_isFire hM hV hW ht ho hs hi hp, zb_s, zz_p oi_b]
theorem m_stops10 (hM : MS K ra mo r) (hV : vr ra mo r = V) (hW : WB V) {t o : Nat} (ht : t < tN V) (ho : o < tN V) (ρ π : Int32) : f_X7_stops K z r mo (nI t) (nI o) ρ π 10 = some (oi (V.1 8 t = 4 ∧ V.1 8 o = 4)) := by
  have htl : t < 200 := Nat.lt_of_lt_of_le ht (WB_2 hW)
  have hol : o < 200 := Nat.lt_of_lt_of_le ho (WB_2 hW)
  rw [f_X7_stops, if_neg (by decide), if_neg (by decide), if_neg (by decide), if_neg (by decide), if_neg (by decide), if_neg (by decide), if_neg (by decide), if_pos rfl]
  simp only [zq_8 hM, zx_2 htl, zx_2 hol, cl_ (show t < 8000 by omega), cl_ (show o < 8000 by omega), rd_8 (ra := ra) (mo := mo), hV]
  by_cases h1 : V.1 8 t = 4
  · rw [if_pos h1]
    by_cases h2 : V.1 8 o = 4
    · rw [if_pos h2, oi_p ⟨h1, h2⟩]
    · rw [if_neg h2, oi_n (fun x => h2 x.2)]
  · rw [if_neg h1, oi_n (fun x => h1 x.1)]
theorem m_secd (hM : MS K ra mo r) (hV : vr ra mo r = V) (hW : WB V) (hz : 300 ≤ z) {t : Nat} (ht : t < tN V) (ρ π : Int32) : f_X7_anyStops K z r mo (nI t) ρ π 10 = some (oi (secd V t)) := by
  rw [m_any hM hV hW hz ht (fun o ho hs hn => m_stops10 hM hV hW ht ho ρ π)]
  congr 1
  exact oi_c ⟨fun ⟨o, h1, h2, h3⟩ => ⟨h2, o, h1, h3⟩, fun ⟨h2, o, h1, h3⟩ => ⟨o, h1, h2, h3⟩⟩
theorem m_full4 (hM : MS K ra mo r) (hV : vr ra mo r = V) (hW : WB V) {t : Nat} (ht : t < tN V) : ∀ (nn k : Nat), k ≤ tN V → tN V - k < nn → f_X7_isFull_4 K z r mo (nI t) nn (nI (cn (fun o => st V o ∧ o ≠ t ∧ tr V o = tr V t) k)) (nI k) = some (oi (full V t)) := by
  have htl : t < 200 := Nat.lt_of_lt_of_le ht (WB_2 hW)
  have hN := WB_2 hW
  obtain ⟨t1, t2⟩ := WB_5 hW ht
  have hr := WB_4 hW
  intro nn
  induction nn with
  | zero => intro k hk h; omega
  | succ nn ih =>
    intro k hk h
    rw [f_X7_isFull_4, rd_35 (ra := ra) (mo := mo), hV, WB_1 hW, iLE (by omega) (by omega)]
    by_cases h1 : tN V ≤ k
    · have e : k = tN V := by omega
      subst e
      rw [if_pos h1]
      simp only [zq_4 hM, zq_9 hM, zx_2 htl, cl_ (show t < 8000 by omega), rd_9 (ra := ra) (mo := mo), hV, t1, zx_20 (show tr V t < 20 by omega), cl_ (show tr V t < 8000 by omega), rd_4 (ra := ra) (mo := mo)]
      by_cases h2 : full V t
      · rw [if_neg h2, oi_p h2]
      · rw [if_pos (Classical.not_not.mp h2), oi_n h2]
    · rw [if_neg h1]
      have hk2 : k < 200 := by omega
      obtain ⟨k1, k2⟩ := WB_5 hW (show k < tN V by omega)
      have hc := cn_le (fun o => st V o ∧ o ≠ t ∧ tr V o = tr V t) k
      have ih1 := ih (k + 1) (by omega) (by omega)
      rw [cn] at ih1
      simp only [zq_27 hM, zq_9 hM, zx_2 hk2, zx_2 htl, cl_ (show k < 8000 by omega), cl_ (show t < 8000 by omega), rd_27 (ra := ra) (mo := mo), rd_9 (ra := ra) (mo := mo), hV, zlet, nI_1, Int32.add_zero]
      by_cases h2 : V.1 27 k = 0
      · rw [if_pos h2]
        rw [cif_n (fun x => x.1 h2), Nat.add_zero] at ih1
        exact ih1
      · rw [if_neg h2, iEQ (by omega) (by omega)]
        by_cases h3 : k = t
        · rw [if_pos h3]
          rw [cif_n (fun x => x.2.1 h3), Nat.add_zero] at ih1
          exact ih1
        · rw [if_neg h3, k1, t1, iEQ (by omega) (by omega)]
          by_cases h4 : tr V k = tr V t
          · rw [if_pos h4]
            rw [cif_p ⟨h2, h3, h4⟩] at ih1
            exact ih1
          · rw [if_neg h4]
            rw [cif_n (fun x => h4 x.2.2), Nat.add_zero] at ih1
            exact ih1
theorem m_isFull (hM : MS K ra mo r) (hV : vr ra mo r = V) (hW : WB V) (hz : 300 ≤ z) {t : Nat} (ht : t < tN V) : f_X7_isFull K z r mo (nI t) = some (oi (full V t)) := by
  have hN := WB_2 hW
  exact m_full4 hM hV hW ht z 0 (by omega) (by omega)
theorem m_outm (hM : MS K ra mo r) (hV : vr ra mo r = V) (hW : WB V) {t : Nat} (ht : t < tN V) : f_X7_isOutOfMonth K z r mo (nI t) = some (oi (outm V t)) := by
  have htl : t < 200 := Nat.lt_of_lt_of_le ht (WB_2 hW)
  unfold f_X7_isOutOfMonth
  simp only [zq_8 hM, zq_15 hM, zx_2 htl, cl_ (show t < 8000 by omega), rd_8 (ra := ra) (mo := mo), rd_15 (ra := ra) (mo := mo), rd_38 (ra := ra) (mo := mo), hV]
  by_cases h1 : V.1 8 t = 2
  · rw [if_pos h1]
    by_cases h2 : (V.1 15 t >>> (V.1 38 0 &&& 31)) &&& 1 = 0
    · rw [if_pos h2, oi_p ⟨h1, h2⟩]
    · rw [if_neg h2, oi_n (fun x => h2 x.2)]
  · rw [if_neg h1, oi_n (fun x => h1 x.1)]
/-- a chain of questions -/
theorem m_q {P : Prop} {α : Type} {x : Option Int32} {a : α} {b : Option α} {c : α} (h : x = some (oi P)) (h2 : ¬ P → b = some c) : (zb x fun q => (if q = 0 then b else some a)) = some (cif P a c) := by
  rw [h, zb_s]
  by_cases hP : P
  · rw [oi_p hP, if_neg (by decide), cif_p hP]
  · rw [oi_n hP, if_pos rfl, cif_n hP, h2 hP]
theorem m_against (hM : MS K ra mo r) (hV : vr ra mo r = V) (hW : WB V) (hz : 300 ≤ z) {t : Nat} (ht : t < tN V) (ρ π : Int32) : f_X7_against K z r mo (nI t) ρ π = some (ag V t ρ π) := by
  have htl : t < 200 := Nat.lt_of_lt_of_le ht (WB_2 hW)
  unfold f_X7_against
  rw [m_isWithin hM hV hW ht, zb_s]
  by_cases hw : wthn V t ρ π
  · obtain ⟨i, p, hi, rfl, rfl, hp⟩ := hw
    have hpl := (WB_7 hW hi).2
    rw [ag_in hi hp (by omega), oi_p ⟨i, p, hi, rfl, rfl, hp⟩, if_neg (by decide)]
    unfold agN
    have h100 : ¬ (∃ o, oth V t o ∧ pd V t o ∧ oppo V t o i p) → ¬ (V.1 8 t = 3 ∧ ¬ mkd V t i p 4) → f_X7_against_100 K z r mo (nI t) (nI i) (nI p) = some (cif (∃ o, oth V t o ∧ fire V t o ∧ near V t o i p) 8 <| cif (outm V t) 9 <| cif (secd V t) 10 0) := by
      intro _ _
      unfold f_X7_against_100
      refine m_q (m_any hM hV hW hz ht (fun o ho hs hn => m_stops8 hM hV hW ht hi (by omega) ho hs)) (fun _ => ?_)
      refine m_q (m_outm hM hV hW ht) (fun _ => ?_)
      exact m_q (m_secd hM hV hW hz ht _ _) (fun _ => rfl)
    refine m_q (m_isMarked hM hV hW hz ht hi hp 3) (fun _ => ?_)
    refine m_q (m_any hM hV hW hz ht (fun o ho hs hn => m_stops3 hM hV hW ht hi (by omega) ho hs)) (fun _ => ?_)
    refine m_q (m_isFull hM hV hW hz ht) (fun _ => ?_)
    refine m_q (m_any hM hV hW hz ht (fun o ho hs hn => m_stops5 hM hV hW ht hi (by omega) ho hs)) (fun _ => ?_)
    refine m_q (m_any hM hV hW hz ht (fun o ho hs hn => m_stops6 hM hV hW ht hi (by omega) ho hs)) (fun h6 => ?_)
    simp only [zq_8 hM, zx_2 htl, cl_ (show t < 8000 by omega), rd_8 (ra := ra) (mo := mo), hV]
    by_cases h8 : V.1 8 t = 3
    · rw [if_pos h8, m_isMarked hM hV hW hz ht hi hp 4, zb_s]
      by_cases h9 : mkd V t i p 4
      · rw [oi_p h9, if_neg (by decide), cif_n (fun x => x.2 h9), h100 h6 (fun x => x.2 h9)]
      · rw [oi_n h9, if_pos rfl, cif_p ⟨h8, h9⟩]
    · rw [if_neg h8, cif_n (fun x => h8 x.1), h100 h6 (fun x => h8 x.1)]
  · rw [oi_n hw, if_pos rfl, ag, cif_n hw]
end M2
