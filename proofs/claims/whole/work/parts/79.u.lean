theorem g_X6_trade_old {K : Nat → Nat} {L : List Nat} {c : zS} {th : Nat} {p1 p2 p3 : Int32} {a9 : Nat} {rr : Int32} {K9 : Nat → Nat} {L9 : List Nat} {c9 : zS} (h : g_X6_trade K L c th p1 p2 p3 a9 rr K9 L9 c9) : ∀ a, K a < 255 → K9 a = K a := by
  obtain ⟨q, hq, rfl, rfl, rfl, rfl⟩ := h
  exact fun a ha => up_o (ne_new hq ha)
theorem g_X6_trader_old {K : Nat → Nat} {L : List Nat} {c : zS} {th : Nat} {p1 p2 p3 : Int32} {a9 : Nat} {rr : Int32} {K9 : Nat → Nat} {L9 : List Nat} {c9 : zS} (h : g_X6_trader K L c th p1 p2 p3 a9 rr K9 L9 c9) : ∀ a, K a < 255 → K9 a = K a := by
  obtain ⟨q, hq, aT, hT, aD, hD, K3, L3, c3, hg, rfl, rfl, rfl, rfl⟩ := h
  intro a ha
  have h1 : a ≠ q := ne_new hq ha
  rw [g_X4_init_old hg a (by rw [up_o h1]; exact ha), up_o h1]
