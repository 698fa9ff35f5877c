abbrev zU : Type := (Nat → Nat) × List Nat × zS

def S_0 (I : Nat → (Nat → Nat) → List Nat → zS → zS → Prop) (z ms mo ou : Nat) : Prop := ∀ (n : Nat) (K : Nat → Nat) (L : List Nat) (c r : zS) (p1 : Int32) (p2 : Int32), n < 512 → I n K L c r →
  ∃ res, f_X6_row K z c ms p1 p2 = some res ∧ (∀ x, res = .inr x → x = 1 ∨ x = 2 ∨ x = 3) ∧ ∀ (rr : Int32) (u : zU), ((∃ c1 : zS, res = .inl c1 ∧ rr = 0 ∧ u = (K, L, c1)) ∨ (res = .inr 1 ∧ rr = 1 ∧ u = (K, L, c)) ∨ (res = .inr 2 ∧ rr = 2 ∧ u = (K, L, c)) ∨ (res = .inr 3 ∧ rr = 3 ∧ u = (K, L, c))) →
    ∃ r1 : zS, f_X7_row u.1 z r mo p1 p2 = some r1 ∧ zi r1 0 mo 0 = rr ∧ I (n + 1) u.1 u.2.1 u.2.2 r1

def S_1 (I : Nat → (Nat → Nat) → List Nat → zS → zS → Prop) (z ms mo ou : Nat) : Prop := ∀ (n : Nat) (K : Nat → Nat) (L : List Nat) (c r : zS) (p1 : Int32) (p2 : Int32) (p3 : Int32) (p4 : Int32), n < 512 → I n K L c r →
  ∃ res, f_X6_mark K z c ms p1 p2 p3 (if p4 = 0 then 0 else 1) = some res ∧ (∀ x, res = .inr x → x = 1 ∨ x = 2 ∨ x = 3) ∧ ∀ (rr : Int32) (u : zU), ((∃ (x : Int32) (c1 : zS), res = .inl (x, c1) ∧ rr = 0 ∧ u = (K, L, zul c1 170 ou 0 (if x = 0 then 0 else 1))) ∨ (res = .inr 1 ∧ rr = 1 ∧ u = (K, L, c)) ∨ (res = .inr 2 ∧ rr = 2 ∧ u = (K, L, c)) ∨ (res = .inr 3 ∧ rr = 3 ∧ u = (K, L, c))) →
    ∃ bb : Int32, ∃ r1 : zS, f_X7_mark u.1 z r mo p1 p2 p3 (if p4 = 0 then 0 else 1) = some (bb, r1) ∧ zi r1 0 mo 0 = rr ∧ (rr = 0 → zl u.2.2 170 ou 0 = (if bb = 0 then 0 else 1)) ∧ I (n + 1) u.1 u.2.1 u.2.2 r1

def S_2 (I : Nat → (Nat → Nat) → List Nat → zS → zS → Prop) (z ms mo ou : Nat) : Prop := ∀ (n : Nat) (K : Nat → Nat) (L : List Nat) (c r : zS) (p1 : Int32) (p2 : Int32) (p3 : Int32), n < 512 → I n K L c r →
  ∃ res, f_X6_trade K z c ms p1 p2 (if p3 = 0 then 0 else 1) = some res ∧ (∀ x, res = .inr x → x = 2 ∨ x = 4) ∧ ∀ (rr : Int32) (u : zU), ((∃ (x : Int32) (K1 : Nat → Nat) (L1 : List Nat) (c1 : zS) (a9 : Nat), res = .inl a9 ∧ g_X6_trade K L c ms p1 p2 (if p3 = 0 then 0 else 1) a9 x K1 L1 c1 ∧ rr = 0 ∧ u = (K1, L1, zul c1 170 ou 0 (Int32.toInt64 x))) ∨ (res = .inr 2 ∧ rr = 1 ∧ u = (K, L, c)) ∨ (res = .inr 4 ∧ rr = 2 ∧ u = (K, L, c))) →
    ∃ bb : Int32, ∃ r1 : zS, f_X7_trade u.1 z r mo p1 p2 (if p3 = 0 then 0 else 1) = some (bb, r1) ∧ zi r1 0 mo 0 = rr ∧ (rr = 0 → zl u.2.2 170 ou 0 = Int32.toInt64 bb) ∧ I (n + 1) u.1 u.2.1 u.2.2 r1

def S_3 (I : Nat → (Nat → Nat) → List Nat → zS → zS → Prop) (z ms mo ou : Nat) : Prop := ∀ (n : Nat) (K : Nat → Nat) (L : List Nat) (c r : zS) (p1 : Int32) (p2 : Int32) (p3 : Int32), n < 512 → I n K L c r →
  ∃ res, f_X6_pair K z c ms p1 p2 (if p3 = 0 then 0 else 1) = some res ∧ (∀ x, res = .inr x → x = 1 ∨ x = 3) ∧ ∀ (rr : Int32) (u : zU), ((∃ (x : Int32) (c1 : zS), res = .inl (x, c1) ∧ rr = 0 ∧ u = (K, L, zul c1 170 ou 0 (if x = 0 then 0 else 1))) ∨ (res = .inr 1 ∧ rr = 1 ∧ u = (K, L, c)) ∨ (res = .inr 3 ∧ rr = 2 ∧ u = (K, L, c))) →
    ∃ bb : Int32, ∃ r1 : zS, f_X7_pair u.1 z r mo p1 p2 (if p3 = 0 then 0 else 1) = some (bb, r1) ∧ zi r1 0 mo 0 = rr ∧ (rr = 0 → zl u.2.2 170 ou 0 = (if bb = 0 then 0 else 1)) ∧ I (n + 1) u.1 u.2.1 u.2.2 r1

def S_4 (I : Nat → (Nat → Nat) → List Nat → zS → zS → Prop) (z ms mo ou : Nat) : Prop := ∀ (n : Nat) (K : Nat → Nat) (L : List Nat) (c r : zS) (p1 : Int32) (p2 : Int32) (p3 : Int32), n < 512 → I n K L c r →
  ∃ res, f_X6_trader K z c ms p1 p2 p3 = some res ∧ (∀ x, res = .inr x → x = 1 ∨ x = 2 ∨ x = 4) ∧ ∀ (rr : Int32) (u : zU), ((∃ (x : Int32) (K1 : Nat → Nat) (L1 : List Nat) (c1 : zS) (a9 : Nat), res = .inl a9 ∧ g_X6_trader K L c ms p1 p2 p3 a9 x K1 L1 c1 ∧ rr = 0 ∧ u = (K1, L1, zul c1 170 ou 0 (Int32.toInt64 x))) ∨ (res = .inr 1 ∧ rr = 1 ∧ u = (K, L, c)) ∨ (res = .inr 2 ∧ rr = 2 ∧ u = (K, L, c)) ∨ (res = .inr 4 ∧ rr = 3 ∧ u = (K, L, c))) →
    ∃ bb : Int32, ∃ r1 : zS, f_X7_trader u.1 z r mo p1 p2 p3 = some (bb, r1) ∧ zi r1 0 mo 0 = rr ∧ (rr = 0 → zl u.2.2 170 ou 0 = Int32.toInt64 bb) ∧ I (n + 1) u.1 u.2.1 u.2.2 r1

def S_5 (I : Nat → (Nat → Nat) → List Nat → zS → zS → Prop) (z ms mo ou : Nat) : Prop := ∀ (n : Nat) (K : Nat → Nat) (L : List Nat) (c r : zS) (p1 : Int32) (p2 : Int32) (p3 : Int32), n < 512 → I n K L c r →
  ∃ res, f_X6_pitch K z c ms p1 p2 p3 = some res ∧ (∀ x, res = .inr x → x = 1 ∨ x = 2 ∨ x = 3) ∧ ∀ (rr : Int32) (u : zU), ((∃ c1 : zS, res = .inl c1 ∧ rr = 0 ∧ u = (K, L, c1)) ∨ (res = .inr 1 ∧ rr = 1 ∧ u = (K, L, c)) ∨ (res = .inr 2 ∧ rr = 2 ∧ u = (K, L, c)) ∨ (res = .inr 3 ∧ rr = 3 ∧ u = (K, L, c))) →
    ∃ r1 : zS, f_X7_pitch u.1 z r mo p1 p2 p3 = some r1 ∧ zi r1 0 mo 0 = rr ∧ I (n + 1) u.1 u.2.1 u.2.2 r1

def S_6 (I : Nat → (Nat → Nat) → List Nat → zS → zS → Prop) (z ms mo ou : Nat) : Prop := ∀ (n : Nat) (K : Nat → Nat) (L : List Nat) (c r : zS) (p1 : Int32) (p2 : Int32), n < 512 → I n K L c r →
  ∃ res, f_X6_months K z c ms p1 p2 = some res ∧ (∀ x, res = .inr x → x = 1 ∨ x = 2 ∨ x = 3) ∧ ∀ (rr : Int32) (u : zU), ((∃ c1 : zS, res = .inl c1 ∧ rr = 0 ∧ u = (K, L, c1)) ∨ (res = .inr 1 ∧ rr = 1 ∧ u = (K, L, c)) ∨ (res = .inr 2 ∧ rr = 2 ∧ u = (K, L, c)) ∨ (res = .inr 3 ∧ rr = 3 ∧ u = (K, L, c))) →
    ∃ r1 : zS, f_X7_months u.1 z r mo p1 p2 = some r1 ∧ zi r1 0 mo 0 = rr ∧ I (n + 1) u.1 u.2.1 u.2.2 r1

def S_7 (I : Nat → (Nat → Nat) → List Nat → zS → zS → Prop) (z ms mo ou : Nat) : Prop := ∀ (n : Nat) (K : Nat → Nat) (L : List Nat) (c r : zS) (p1 : Int32) (p2 : Int32) (p3 : Int32), n < 512 → I n K L c r →
  ∃ res, f_X6_wish K z c ms p1 p2 p3 = some res ∧ (∀ x, res = .inr x → x = 1) ∧ ∀ (rr : Int32) (u : zU), ((∃ (x : Int32) (c1 : zS), res = .inl (x, c1) ∧ rr = 0 ∧ u = (K, L, zul c1 170 ou 0 (Int32.toInt64 x))) ∨ (res = .inr 1 ∧ rr = 1 ∧ u = (K, L, c))) →
    ∃ bb : Int32, ∃ r1 : zS, f_X7_wish u.1 z r mo p1 p2 p3 = some (bb, r1) ∧ zi r1 0 mo 0 = rr ∧ (rr = 0 → zl u.2.2 170 ou 0 = Int32.toInt64 bb) ∧ I (n + 1) u.1 u.2.1 u.2.2 r1

def S_8 (I : Nat → (Nat → Nat) → List Nat → zS → zS → Prop) (z ms mo ou : Nat) : Prop := ∀ (n : Nat) (K : Nat → Nat) (L : List Nat) (c r : zS) (p1 : Int32) (p2 : Int32), n < 512 → I n K L c r →
  ∃ res, f_X6_wishes K z c ms p1 (if p2 = 0 then 0 else 1) = some res ∧ (∀ x, res = .inr x → x = 1) ∧ ∀ (rr : Int32) (u : zU), ((∃ c1 : zS, res = .inl c1 ∧ rr = 0 ∧ u = (K, L, c1)) ∨ (res = .inr 1 ∧ rr = 1 ∧ u = (K, L, c))) →
    ∃ r1 : zS, f_X7_wishes u.1 z r mo p1 (if p2 = 0 then 0 else 1) = some r1 ∧ zi r1 0 mo 0 = rr ∧ I (n + 1) u.1 u.2.1 u.2.2 r1

def S_9 (I : Nat → (Nat → Nat) → List Nat → zS → zS → Prop) (z ms mo ou : Nat) : Prop := ∀ (n : Nat) (K : Nat → Nat) (L : List Nat) (c r : zS) (p1 : Int32) (p2 : Int32), n < 512 → I n K L c r →
  ∃ res, f_X6_want K z c ms p1 (if p2 = 0 then 0 else 1) = some res ∧ (∀ x, res = .inr x → x = 1) ∧ ∀ (rr : Int32) (u : zU), ((∃ c1 : zS, res = .inl c1 ∧ rr = 0 ∧ u = (K, L, c1)) ∨ (res = .inr 1 ∧ rr = 1 ∧ u = (K, L, c))) →
    ∃ r1 : zS, f_X7_want u.1 z r mo p1 (if p2 = 0 then 0 else 1) = some r1 ∧ zi r1 0 mo 0 = rr ∧ I (n + 1) u.1 u.2.1 u.2.2 r1

def S_10 (I : Nat → (Nat → Nat) → List Nat → zS → zS → Prop) (z ms mo ou : Nat) : Prop := ∀ (n : Nat) (K : Nat → Nat) (L : List Nat) (c r : zS) (p1 : Int32), n < 512 → I n K L c r →
  ∃ res, f_X6_day K z c ms p1 = some res ∧ (∀ x, res = .inr x → x = 2 ∨ x = 3) ∧ ∀ (rr : Int32) (u : zU), ((∃ (x : Int32) (c1 : zS), res = .inl (x, c1) ∧ rr = 0 ∧ u = (K, L, zul c1 170 ou 0 (Int32.toInt64 x))) ∨ (res = .inr 2 ∧ rr = 1 ∧ u = (K, L, c)) ∨ (res = .inr 3 ∧ rr = 2 ∧ u = (K, L, c))) →
    ∃ bb : Int32, ∃ r1 : zS, f_X7_day u.1 z r mo p1 = some (bb, r1) ∧ zi r1 0 mo 0 = rr ∧ (rr = 0 → zl u.2.2 170 ou 0 = Int32.toInt64 bb) ∧ I (n + 1) u.1 u.2.1 u.2.2 r1

def S_11 (I : Nat → (Nat → Nat) → List Nat → zS → zS → Prop) (z ms mo ou : Nat) : Prop := ∀ (n : Nat) (K : Nat → Nat) (L : List Nat) (c r : zS) (p1 : Int32), n < 512 → I n K L c r →
  ∃ res, f_X6_there K z c ms p1 = some res ∧ (∀ x, res = .inr x → x = 1 ∨ x = 3) ∧ ∀ (rr : Int32) (u : zU), ((∃ (x : Int32) (c1 : zS), res = .inl (x, c1) ∧ rr = 0 ∧ u = (K, L, zul c1 170 ou 0 (if x = 0 then 0 else 1))) ∨ (res = .inr 1 ∧ rr = 1 ∧ u = (K, L, c)) ∨ (res = .inr 3 ∧ rr = 2 ∧ u = (K, L, c))) →
    ∃ bb : Int32, ∃ r1 : zS, f_X7_there u.1 z r mo p1 = some (bb, r1) ∧ zi r1 0 mo 0 = rr ∧ (rr = 0 → zl u.2.2 170 ou 0 = (if bb = 0 then 0 else 1)) ∧ I (n + 1) u.1 u.2.1 u.2.2 r1

def S_12 (I : Nat → (Nat → Nat) → List Nat → zS → zS → Prop) (z ms mo ou : Nat) : Prop := ∀ (n : Nat) (K : Nat → Nat) (L : List Nat) (c r : zS) (p1 : Int32), n < 512 → I n K L c r →
  ∃ res, f_X6_word K z c ms p1 = some res ∧ (∀ x, res = .inr x → x = 1 ∨ x = 3) ∧ ∀ (rr : Int32) (u : zU), ((∃ (x : Int32) (c1 : zS), res = .inl (x, c1) ∧ rr = 0 ∧ u = (K, L, zul c1 170 ou 0 (if x = 0 then 0 else 1))) ∨ (res = .inr 1 ∧ rr = 1 ∧ u = (K, L, c)) ∨ (res = .inr 3 ∧ rr = 2 ∧ u = (K, L, c))) →
    ∃ bb : Int32, ∃ r1 : zS, f_X7_word u.1 z r mo p1 = some (bb, r1) ∧ zi r1 0 mo 0 = rr ∧ (rr = 0 → zl u.2.2 170 ou 0 = (if bb = 0 then 0 else 1)) ∧ I (n + 1) u.1 u.2.1 u.2.2 r1

def S_13 (I : Nat → (Nat → Nat) → List Nat → zS → zS → Prop) (z ms mo ou : Nat) : Prop := ∀ (n : Nat) (K : Nat → Nat) (L : List Nat) (c r : zS), n < 512 → I n K L c r →
  ∃ res, f_X6_bell K z c ms = some res ∧ (∀ x, res = .inr x → x = 3) ∧ ∀ (rr : Int32) (u : zU), ((∃ (x : Int32) (c1 : zS), res = .inl (x, c1) ∧ rr = 0 ∧ u = (K, L, zul c1 170 ou 0 (Int32.toInt64 x))) ∨ (res = .inr 3 ∧ rr = 1 ∧ u = (K, L, c))) →
    ∃ bb : Int32, ∃ r1 : zS, f_X7_bell u.1 z r mo = some (bb, r1) ∧ zi r1 0 mo 0 = rr ∧ (rr = 0 → zl u.2.2 170 ou 0 = Int32.toInt64 bb) ∧ I (n + 1) u.1 u.2.1 u.2.2 r1

def S_14 (I : Nat → (Nat → Nat) → List Nat → zS → zS → Prop) (z ms mo ou : Nat) : Prop := ∀ (n : Nat) (K : Nat → Nat) (L : List Nat) (c r : zS) (p1 : Int32) (p2 : Int32) (p3 : Int32), n < 512 → I n K L c r →
  ∃ res, f_X6_why K z c ms p1 p2 p3 = some res ∧ (∀ x, res = .inr x → x = 1) ∧ ∀ (rr : Int32) (u : zU), ((∃ x : Int32, res = .inl x ∧ rr = 0 ∧ u = (K, L, zul c 170 ou 0 (Int32.toInt64 x))) ∨ (res = .inr 1 ∧ rr = 1 ∧ u = (K, L, c))) →
    ∃ bb : Int32, ∃ r1 : zS, f_X7_why u.1 z r mo p1 p2 p3 = some (bb, r1) ∧ zi r1 0 mo 0 = rr ∧ (rr = 0 → zl u.2.2 170 ou 0 = Int32.toInt64 bb) ∧ I (n + 1) u.1 u.2.1 u.2.2 r1

def S_15 (I : Nat → (Nat → Nat) → List Nat → zS → zS → Prop) (z ms mo ou : Nat) : Prop := ∀ (n : Nat) (K : Nat → Nat) (L : List Nat) (c r : zS) (p1 : Int32), n < 512 → I n K L c r →
  ∃ res, f_X6_good K z c ms p1 = some res ∧ (∀ x, res = .inr x → x = 1) ∧ ∀ (rr : Int32) (u : zU), ((∃ x : Int32, res = .inl x ∧ rr = 0 ∧ u = (K, L, zul c 170 ou 0 (Int32.toInt64 x))) ∨ (res = .inr 1 ∧ rr = 1 ∧ u = (K, L, c))) →
    ∃ bb : Int32, ∃ r1 : zS, f_X7_good u.1 z r mo p1 = some (bb, r1) ∧ zi r1 0 mo 0 = rr ∧ (rr = 0 → zl u.2.2 170 ou 0 = Int32.toInt64 bb) ∧ I (n + 1) u.1 u.2.1 u.2.2 r1

def S_16 (I : Nat → (Nat → Nat) → List Nat → zS → zS → Prop) (z ms mo ou : Nat) : Prop := ∀ (n : Nat) (K : Nat → Nat) (L : List Nat) (c r : zS), n < 512 → I n K L c r →
  ∃ res, f_X6_next K z c ms = some res ∧ (∀ x, res = .inr x → x = 3) ∧ ∀ (rr : Int32) (u : zU), ((∃ (x : Int32) (c1 : zS), res = .inl (x, c1) ∧ rr = 0 ∧ u = (K, L, zul c1 170 ou 0 (Int32.toInt64 x))) ∨ (res = .inr 3 ∧ rr = 1 ∧ u = (K, L, c))) →
    ∃ bb : Int32, ∃ r1 : zS, f_X7_next u.1 z r mo = some (bb, r1) ∧ zi r1 0 mo 0 = rr ∧ (rr = 0 → zl u.2.2 170 ou 0 = Int32.toInt64 bb) ∧ I (n + 1) u.1 u.2.1 u.2.2 r1

def S_17 (I : Nat → (Nat → Nat) → List Nat → zS → zS → Prop) (z ms mo ou : Nat) : Prop := ∀ (n : Nat) (K : Nat → Nat) (L : List Nat) (c r : zS), n < 512 → I n K L c r →
  ∃ res, f_X6_full K z c ms = some res ∧ (∀ x, res = .inr x → x = 3) ∧ ∀ (rr : Int32) (u : zU), ((∃ x : Int32, res = .inl x ∧ rr = 0 ∧ u = (K, L, zul c 170 ou 0 (if x = 0 then 0 else 1))) ∨ (res = .inr 3 ∧ rr = 1 ∧ u = (K, L, c))) →
    ∃ bb : Int32, ∃ r1 : zS, f_X7_full u.1 z r mo = some (bb, r1) ∧ zi r1 0 mo 0 = rr ∧ (rr = 0 → zl u.2.2 170 ou 0 = (if bb = 0 then 0 else 1)) ∧ I (n + 1) u.1 u.2.1 u.2.2 r1

def S_18 (I : Nat → (Nat → Nat) → List Nat → zS → zS → Prop) (z ms mo ou : Nat) : Prop := ∀ (n : Nat) (K : Nat → Nat) (L : List Nat) (c r : zS) (p1 : Int32), n < 512 → I n K L c r →
  ∃ rr : Int32, ∃ c1 : zS, f_X6_waiting K z c ms p1 = some (rr, c1) ∧ ∃ bb : Int32, ∃ r1 : zS, f_X7_waiting K z r mo p1 = some (bb, r1) ∧ rr = bb ∧ I (n + 1) K L c1 r1

def S_19 (I : Nat → (Nat → Nat) → List Nat → zS → zS → Prop) (z ms mo ou : Nat) : Prop := ∀ (n : Nat) (K : Nat → Nat) (L : List Nat) (c r : zS) (p1 : Int32) (p2 : Int32) (p3 : Int32), n < 512 → I n K L c r →
  ∃ res, f_X6_move K z c ms p1 p2 p3 = some res ∧ (∀ x, res = .inr x → x = 1 ∨ x = 3) ∧ ∀ (rr : Int32) (u : zU), ((∃ (x : Int32) (c1 : zS), res = .inl (x, c1) ∧ rr = 0 ∧ u = (K, L, zul c1 170 ou 0 (if x = 0 then 0 else 1))) ∨ (res = .inr 1 ∧ rr = 1 ∧ u = (K, L, c)) ∨ (res = .inr 3 ∧ rr = 2 ∧ u = (K, L, c))) →
    ∃ bb : Int32, ∃ r1 : zS, f_X7_move u.1 z r mo p1 p2 p3 = some (bb, r1) ∧ zi r1 0 mo 0 = rr ∧ (rr = 0 → zl u.2.2 170 ou 0 = (if bb = 0 then 0 else 1)) ∧ I (n + 1) u.1 u.2.1 u.2.2 r1

def S_20 (I : Nat → (Nat → Nat) → List Nat → zS → zS → Prop) (z ms mo ou : Nat) : Prop := ∀ (n : Nat) (K : Nat → Nat) (L : List Nat) (c r : zS) (p1 : Int32) (p2 : Int32), n < 512 → I n K L c r →
  ∃ res, f_X6_change K z c ms p1 p2 = some res ∧ (∀ x, res = .inr x → x = 1 ∨ x = 3) ∧ ∀ (rr : Int32) (u : zU), ((∃ (x : Int32) (c1 : zS), res = .inl (x, c1) ∧ rr = 0 ∧ u = (K, L, zul c1 170 ou 0 (if x = 0 then 0 else 1))) ∨ (res = .inr 1 ∧ rr = 1 ∧ u = (K, L, c)) ∨ (res = .inr 3 ∧ rr = 2 ∧ u = (K, L, c))) →
    ∃ bb : Int32, ∃ r1 : zS, f_X7_change u.1 z r mo p1 p2 = some (bb, r1) ∧ zi r1 0 mo 0 = rr ∧ (rr = 0 → zl u.2.2 170 ou 0 = (if bb = 0 then 0 else 1)) ∧ I (n + 1) u.1 u.2.1 u.2.2 r1

def S_21 (I : Nat → (Nat → Nat) → List Nat → zS → zS → Prop) (z ms mo ou : Nat) : Prop := ∀ (n : Nat) (K : Nat → Nat) (L : List Nat) (c r : zS) (p1 : Int32), n < 512 → I n K L c r →
  ∃ res, f_X6_leave K z c ms p1 = some res ∧ (∀ x, res = .inr x → x = 1 ∨ x = 3) ∧ ∀ (rr : Int32) (u : zU), ((∃ (x : Int32) (c1 : zS), res = .inl (x, c1) ∧ rr = 0 ∧ u = (K, L, zul c1 170 ou 0 (Int32.toInt64 x))) ∨ (res = .inr 1 ∧ rr = 1 ∧ u = (K, L, c)) ∨ (res = .inr 3 ∧ rr = 2 ∧ u = (K, L, c))) →
    ∃ bb : Int32, ∃ r1 : zS, f_X7_leave u.1 z r mo p1 = some (bb, r1) ∧ zi r1 0 mo 0 = rr ∧ (rr = 0 → zl u.2.2 170 ou 0 = Int32.toInt64 bb) ∧ I (n + 1) u.1 u.2.1 u.2.2 r1

def S_22 (I : Nat → (Nat → Nat) → List Nat → zS → zS → Prop) (z ms mo ou : Nat) : Prop := ∀ (n : Nat) (K : Nat → Nat) (L : List Nat) (c r : zS) (p1 : Int32), n < 512 → I n K L c r →
  ∃ res, f_X6_hour K z c ms p1 = some res ∧ (∀ x, res = .inr x → x = 2 ∨ x = 3) ∧ ∀ (rr : Int32) (u : zU), ((∃ c1 : zS, res = .inl c1 ∧ rr = 0 ∧ u = (K, L, c1)) ∨ (res = .inr 2 ∧ rr = 1 ∧ u = (K, L, c)) ∨ (res = .inr 3 ∧ rr = 2 ∧ u = (K, L, c))) →
    ∃ r1 : zS, f_X7_hour u.1 z r mo p1 = some r1 ∧ zi r1 0 mo 0 = rr ∧ I (n + 1) u.1 u.2.1 u.2.2 r1

def S_23 (I : Nat → (Nat → Nat) → List Nat → zS → zS → Prop) (z ms mo ou : Nat) : Prop := ∀ (n : Nat) (K : Nat → Nat) (L : List Nat) (c r : zS), n < 512 → I n K L c r →
  ∃ res, f_X6_close K z c ms = some res ∧ (∀ x, res = .inr x → x = 3) ∧ ∀ (rr : Int32) (u : zU), ((∃ (x : Int32) (c1 : zS), res = .inl (x, c1) ∧ rr = 0 ∧ u = (K, L, zul c1 170 ou 0 (Int32.toInt64 x))) ∨ (res = .inr 3 ∧ rr = 1 ∧ u = (K, L, c))) →
    ∃ bb : Int32, ∃ r1 : zS, f_X7_close u.1 z r mo = some (bb, r1) ∧ zi r1 0 mo 0 = rr ∧ (rr = 0 → zl u.2.2 170 ou 0 = Int32.toInt64 bb) ∧ I (n + 1) u.1 u.2.1 u.2.2 r1

def S_24 (I : Nat → (Nat → Nat) → List Nat → zS → zS → Prop) (z ms mo ou : Nat) : Prop := ∀ (n : Nat) (K : Nat → Nat) (L : List Nat) (c r : zS) (p1 : Int32) (p2 : Int32) (p3 : Int32), n < 512 → I n K L c r →
  ∃ res, f_X6_pay K z c ms p1 (((Int32.toInt64 p2) <<< (Int32.toInt64 32 &&& 63)) ||| ((Int32.toInt64 p3) &&& 4294967295)) = some res ∧ (∀ x, res = .inr x → x = 1 ∨ x = 2) ∧ ∀ (rr : Int32) (u : zU), ((∃ (x : Int64) (c1 : zS), res = .inl (x, c1) ∧ rr = 0 ∧ u = (K, L, zul c1 170 ou 0 x)) ∨ (res = .inr 1 ∧ rr = 1 ∧ u = (K, L, c)) ∨ (res = .inr 2 ∧ rr = 2 ∧ u = (K, L, c))) →
    ∃ bb : Int64, ∃ r1 : zS, f_X7_pay u.1 z r mo p1 (((Int32.toInt64 p2) <<< (Int32.toInt64 32 &&& 63)) ||| ((Int32.toInt64 p3) &&& 4294967295)) = some (bb, r1) ∧ zi r1 0 mo 0 = rr ∧ (rr = 0 → zl u.2.2 170 ou 0 = bb) ∧ I (n + 1) u.1 u.2.1 u.2.2 r1

def S_25 (I : Nat → (Nat → Nat) → List Nat → zS → zS → Prop) (z ms mo ou : Nat) : Prop := ∀ (n : Nat) (K : Nat → Nat) (L : List Nat) (c r : zS) (p1 : Int32) (p2 : Int32), n < 512 → I n K L c r →
  ∃ res, f_X6_look K z c ms p1 p2 = some res ∧ (∀ x, res = .inr x → x = 1 ∨ x = 2) ∧ ∀ (rr : Int32) (u : zU), ((∃ x : Int32, res = .inl x ∧ rr = 0 ∧ u = (K, L, zul c 170 ou 0 (Int32.toInt64 x))) ∨ (res = .inr 1 ∧ rr = 1 ∧ u = (K, L, c)) ∨ (res = .inr 2 ∧ rr = 2 ∧ u = (K, L, c))) →
    ∃ bb : Int32, ∃ r1 : zS, f_X7_look u.1 z r mo p1 p2 = some (bb, r1) ∧ zi r1 0 mo 0 = rr ∧ (rr = 0 → zl u.2.2 170 ou 0 = Int32.toInt64 bb) ∧ I (n + 1) u.1 u.2.1 u.2.2 r1

def S_26 (I : Nat → (Nat → Nat) → List Nat → zS → zS → Prop) (z ms mo ou : Nat) : Prop := ∀ (n : Nat) (K : Nat → Nat) (L : List Nat) (c r : zS) (p1 : Int32), n < 512 → I n K L c r →
  ∃ res, f_X6_owed K z c ms p1 = some res ∧ (∀ x, res = .inr x → x = 1) ∧ ∀ (rr : Int32) (u : zU), ((∃ x : Int64, res = .inl x ∧ rr = 0 ∧ u = (K, L, zul c 170 ou 0 x)) ∨ (res = .inr 1 ∧ rr = 1 ∧ u = (K, L, c))) →
    ∃ bb : Int64, ∃ r1 : zS, f_X7_owed u.1 z r mo p1 = some (bb, r1) ∧ zi r1 0 mo 0 = rr ∧ (rr = 0 → zl u.2.2 170 ou 0 = bb) ∧ I (n + 1) u.1 u.2.1 u.2.2 r1

def S_27 (I : Nat → (Nat → Nat) → List Nat → zS → zS → Prop) (z ms mo ou : Nat) : Prop := ∀ (n : Nat) (K : Nat → Nat) (L : List Nat) (c r : zS) (p1 : Int32) (p2 : Int32), n < 512 → I n K L c r →
  ∃ rr : Int32, f_X6_stall K z c ms p1 p2 = some rr ∧ ∃ bb : Int32, ∃ r1 : zS, f_X7_stall K z r mo p1 p2 = some (bb, r1) ∧ rr = bb ∧ I (n + 1) K L c r1

def S_28 (I : Nat → (Nat → Nat) → List Nat → zS → zS → Prop) (z ms mo ou : Nat) : Prop := ∀ (n : Nat) (K : Nat → Nat) (L : List Nat) (c r : zS) (p1 : Int32) (p2 : Int32), n < 512 → I n K L c r →
  ∃ rr : Int32, f_X6_square K z c ms p1 p2 = some rr ∧ ∃ bb : Int32, ∃ r1 : zS, f_X7_square K z r mo p1 p2 = some (bb, r1) ∧ rr = bb ∧ I (n + 1) K L c r1

def S_29 (I : Nat → (Nat → Nat) → List Nat → zS → zS → Prop) (z ms mo ou : Nat) : Prop := ∀ (n : Nat) (K : Nat → Nat) (L : List Nat) (c r : zS) (p1 : Int32), n < 512 → I n K L c r →
  ∃ rr : Int64, f_X6_count K z c ms p1 = some rr ∧ ∃ bb : Int64, ∃ r1 : zS, f_X7_count K z r mo p1 = some (bb, r1) ∧ rr = bb ∧ I (n + 1) K L c r1

