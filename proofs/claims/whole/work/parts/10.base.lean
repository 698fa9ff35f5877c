/-! the state of the class (zS), of the model (zS) and of the law's out: maps by label, address, place -/
abbrev zS : Type := (Nat → Nat → Nat → Int32) × (Nat → Nat → Nat → Int64) × (Nat → Nat → Nat → Option Nat)
abbrev zW : Type := zS × zS × Int64
def zi (S : zS) (f a j : Nat) : Int32 := S.1 f a j
def zl (S : zS) (f a j : Nat) : Int64 := S.2.1 f a j
def zr (S : zS) (f a j : Nat) : Option Nat := S.2.2 f a j
def zui (S : zS) (f a j : Nat) (v : Int32) : zS := (fun f' a' j' => if f' = f ∧ a' = a ∧ j' = j then v else S.1 f' a' j', S.2.1, S.2.2)
def zul (S : zS) (f a j : Nat) (v : Int64) : zS := (S.1, fun f' a' j' => if f' = f ∧ a' = a ∧ j' = j then v else S.2.1 f' a' j', S.2.2)
def zur (S : zS) (f a j : Nat) (v : Option Nat) : zS := (S.1, S.2.1, fun f' a' j' => if f' = f ∧ a' = a ∧ j' = j then v else S.2.2 f' a' j')
theorem zi_zui (S : zS) (f a j : Nat) (v : Int32) (f' a' j' : Nat) : zi (zui S f a j v) f' a' j' = if f' = f ∧ a' = a ∧ j' = j then v else zi S f' a' j' := rfl
theorem zl_zui (S : zS) (f a j : Nat) (v : Int32) (f' a' j' : Nat) : zl (zui S f a j v) f' a' j' = zl S f' a' j' := rfl
theorem zr_zui (S : zS) (f a j : Nat) (v : Int32) (f' a' j' : Nat) : zr (zui S f a j v) f' a' j' = zr S f' a' j' := rfl
theorem zl_zul (S : zS) (f a j : Nat) (v : Int64) (f' a' j' : Nat) : zl (zul S f a j v) f' a' j' = if f' = f ∧ a' = a ∧ j' = j then v else zl S f' a' j' := rfl
theorem zi_zul (S : zS) (f a j : Nat) (v : Int64) (f' a' j' : Nat) : zi (zul S f a j v) f' a' j' = zi S f' a' j' := rfl
theorem zr_zul (S : zS) (f a j : Nat) (v : Int64) (f' a' j' : Nat) : zr (zul S f a j v) f' a' j' = zr S f' a' j' := rfl
theorem zr_zur (S : zS) (f a j : Nat) (v : Option Nat) (f' a' j' : Nat) : zr (zur S f a j v) f' a' j' = if f' = f ∧ a' = a ∧ j' = j then v else zr S f' a' j' := rfl
theorem zi_zur (S : zS) (f a j : Nat) (v : Option Nat) (f' a' j' : Nat) : zi (zur S f a j v) f' a' j' = zi S f' a' j' := rfl
theorem zl_zur (S : zS) (f a j : Nat) (v : Option Nat) (f' a' j' : Nat) : zl (zur S f a j v) f' a' j' = zl S f' a' j' := rfl
theorem zi_ne {S : zS} {f a j : Nat} {v : Int32} {b : Nat} (h : b ≠ a) (f' : Nat) : zi S f' b = zi (zui S f a j v) f' b := by funext j'; rw [zi_zui, if_neg (fun h2 => h h2.2.1)]
theorem zl_ne {S : zS} {f a j : Nat} {v : Int64} {b : Nat} (h : b ≠ a) (f' : Nat) : zl S f' b = zl (zul S f a j v) f' b := by funext j'; rw [zl_zul, if_neg (fun h2 => h h2.2.1)]
theorem zr_ne {S : zS} {f a j : Nat} {v : Option Nat} {b : Nat} (h : b ≠ a) (f' : Nat) : zr S f' b = zr (zur S f a j v) f' b := by funext j'; rw [zr_zur, if_neg (fun h2 => h h2.2.1)]
theorem zi_fn (S : zS) (f a k : Nat) (v : Int32) : upd (zi S f a) k v = zi (zui S f a k v) f a := by funext j; rw [zi_zui]; unfold upd; by_cases h : j = k <;> simp [h]
theorem zl_fn (S : zS) (f a k : Nat) (v : Int64) : vp_updL (zl S f a) k v = zl (zul S f a k v) f a := by funext j; rw [zl_zul]; unfold vp_updL; by_cases h : j = k <;> simp [h]
theorem zr_fn (S : zS) (f a k : Nat) (v : Option Nat) : va_up (zr S f a) k v = zr (zur S f a k v) f a := by funext j; rw [zr_zur]; unfold va_up; by_cases h : j = k <;> simp [h]

/-- what lies at an address of label k -/
def zcell (cy : Nat → ClassId) (Z : zW) (k a : Nat) : va_E :=
  if k = 0 then .inr (0, [va_rf (zr Z.1 0 a 0), va_rf (zr Z.1 1 a 0), .int (zi Z.1 2 a 0)]) else
  if k = 1 then .inr (1, [.int (zi Z.1 20 a 0), .int (zi Z.1 21 a 0), .int (zi Z.1 22 a 0)]) else
  if k = 2 then .inr (2, [va_rf (zr Z.1 40 a 0), .int (zi Z.1 41 a 0), .int (zi Z.1 42 a 0), .int (zi Z.1 43 a 0), .int (zi Z.1 44 a 0), .int (zi Z.1 45 a 0), .int (zi Z.1 46 a 0), .int (zi Z.1 47 a 0)]) else
  if k = 3 then .inr (3, [.int (zi Z.1 60 a 0), .int (zi Z.1 61 a 0), .int (zi Z.1 62 a 0), .int (zi Z.1 63 a 0), .int (zi Z.1 64 a 0), .int (zi Z.1 65 a 0)]) else
  if k = 4 then .inr (4, [.int (zi Z.1 80 a 0), va_rf (zr Z.1 81 a 0), .int (zi Z.1 82 a 0), va_rf (zr Z.1 83 a 0), va_rf (zr Z.1 84 a 0), va_rf (zr Z.1 85 a 0), .int (zi Z.1 86 a 0), .int (zi Z.1 87 a 0), .int (zi Z.1 88 a 0), .int (zi Z.1 89 a 0), .int (zi Z.1 90 a 0), .int (zi Z.1 91 a 0), .int (zi Z.1 92 a 0), .long (zl Z.1 93 a 0)]) else
  if k = 5 then .inr (5, [va_rf (zr Z.1 100 a 0), va_rf (zr Z.1 101 a 0), .int (zi Z.1 102 a 0), .int (zi Z.1 103 a 0)]) else
  if k = 6 then .inr (6, [va_rf (zr Z.1 120 a 0), va_rf (zr Z.1 121 a 0), va_rf (zr Z.1 122 a 0), va_rf (zr Z.1 123 a 0), va_rf (zr Z.1 124 a 0), .int (zi Z.1 125 a 0), .int (zi Z.1 126 a 0), .int (zi Z.1 127 a 0), .int (zi Z.1 128 a 0), .int (zi Z.1 129 a 0), .int (zi Z.1 130 a 0), .int (zi Z.1 131 a 0), .int (zi Z.1 132 a 0), .int (zi Z.1 133 a 0), .long (zl Z.1 134 a 0), .long (zl Z.1 135 a 0), .long (zl Z.1 136 a 0), .long (zl Z.1 137 a 0)]) else
  if k = 7 then .inr (7, [.int (zi Z.2.1 0 a 0), va_rf (zr Z.2.1 1 a 0), va_rf (zr Z.2.1 2 a 0), va_rf (zr Z.2.1 3 a 0), va_rf (zr Z.2.1 4 a 0), va_rf (zr Z.2.1 5 a 0), va_rf (zr Z.2.1 6 a 0), .int (zi Z.2.1 7 a 0), va_rf (zr Z.2.1 8 a 0), va_rf (zr Z.2.1 9 a 0), va_rf (zr Z.2.1 10 a 0), va_rf (zr Z.2.1 11 a 0), va_rf (zr Z.2.1 12 a 0), va_rf (zr Z.2.1 13 a 0), va_rf (zr Z.2.1 14 a 0), va_rf (zr Z.2.1 15 a 0), va_rf (zr Z.2.1 16 a 0), va_rf (zr Z.2.1 17 a 0), va_rf (zr Z.2.1 18 a 0), va_rf (zr Z.2.1 19 a 0), va_rf (zr Z.2.1 20 a 0), va_rf (zr Z.2.1 21 a 0), va_rf (zr Z.2.1 22 a 0), va_rf (zr Z.2.1 23 a 0), va_rf (zr Z.2.1 24 a 0), va_rf (zr Z.2.1 25 a 0), va_rf (zr Z.2.1 26 a 0), va_rf (zr Z.2.1 27 a 0), va_rf (zr Z.2.1 28 a 0), va_rf (zr Z.2.1 29 a 0), va_rf (zr Z.2.1 30 a 0), va_rf (zr Z.2.1 31 a 0), va_rf (zr Z.2.1 32 a 0), va_rf (zr Z.2.1 33 a 0), va_rf (zr Z.2.1 34 a 0), .int (zi Z.2.1 35 a 0), .int (zi Z.2.1 36 a 0), .int (zi Z.2.1 37 a 0), .int (zi Z.2.1 38 a 0), .int (zi Z.2.1 39 a 0), .int (zi Z.2.1 40 a 0), .int (zi Z.2.1 41 a 0), .int (zi Z.2.1 42 a 0), .long (zl Z.2.1 43 a 0), .long (zl Z.2.1 44 a 0), va_rf (zr Z.2.1 45 a 0), va_rf (zr Z.2.1 46 a 0), va_rf (zr Z.2.1 47 a 0), .int (zi Z.2.1 48 a 0), va_rf (zr Z.2.1 49 a 0), va_rf (zr Z.2.1 50 a 0)]) else
  if k = 8 then .inl (cy 0, 200, .inl (zi Z.1 140 a)) else
  if k = 9 then .inl (cy 0, 12, .inl (zi Z.1 141 a)) else
  if k = 10 then .inl (cy 0, 12, .inl (zi Z.1 142 a)) else
  if k = 11 then .inl (cy 4, 40, .inr (.inr (.inr (.inr (zr Z.1 143 a))))) else
  if k = 12 then .inl (cy 5, 20, .inr (.inr (.inr (.inr (zr Z.1 144 a))))) else
  if k = 13 then .inl (cy 6, 200, .inr (.inr (.inr (.inr (zr Z.1 145 a))))) else
  if k = 14 then .inl (cy 6, 200, .inr (.inr (.inr (.inr (zr Z.1 146 a))))) else
  if k = 15 then .inl (cy 6, 200, .inr (.inr (.inr (.inr (zr Z.1 147 a))))) else
  if k = 16 then .inl (cy 6, 200, .inr (.inr (.inr (.inr (zr Z.1 148 a))))) else
  if k = 17 then .inl (cy 3, 1, .inr (.inl (zl Z.1 170 a))) else
  if k = 101 then .inl (cy 0, 40, .inl (zi Z.2.1 101 a)) else
  if k = 102 then .inl (cy 1, 8000, .inl (zi Z.2.1 102 a)) else
  if k = 103 then .inl (cy 0, 20, .inl (zi Z.2.1 103 a)) else
  if k = 104 then .inl (cy 0, 20, .inl (zi Z.2.1 104 a)) else
  if k = 105 then .inl (cy 2, 20, .inl (zi Z.2.1 105 a)) else
  if k = 106 then .inl (cy 2, 400, .inl (zi Z.2.1 106 a)) else
  if k = 108 then .inl (cy 0, 200, .inl (zi Z.2.1 108 a)) else
  if k = 109 then .inl (cy 0, 200, .inl (zi Z.2.1 109 a)) else
  if k = 110 then .inl (cy 0, 200, .inl (zi Z.2.1 110 a)) else
  if k = 111 then .inl (cy 0, 200, .inl (zi Z.2.1 111 a)) else
  if k = 112 then .inl (cy 2, 200, .inl (zi Z.2.1 112 a)) else
  if k = 113 then .inl (cy 0, 200, .inl (zi Z.2.1 113 a)) else
  if k = 114 then .inl (cy 0, 200, .inl (zi Z.2.1 114 a)) else
  if k = 115 then .inl (cy 0, 200, .inl (zi Z.2.1 115 a)) else
  if k = 116 then .inl (cy 0, 2400, .inl (zi Z.2.1 116 a)) else
  if k = 117 then .inl (cy 0, 2400, .inl (zi Z.2.1 117 a)) else
  if k = 118 then .inl (cy 0, 200, .inl (zi Z.2.1 118 a)) else
  if k = 119 then .inl (cy 2, 200, .inl (zi Z.2.1 119 a)) else
  if k = 120 then .inl (cy 2, 200, .inl (zi Z.2.1 120 a)) else
  if k = 121 then .inl (cy 2, 200, .inl (zi Z.2.1 121 a)) else
  if k = 122 then .inl (cy 2, 200, .inl (zi Z.2.1 122 a)) else
  if k = 123 then .inl (cy 2, 200, .inl (zi Z.2.1 123 a)) else
  if k = 124 then .inl (cy 2, 200, .inl (zi Z.2.1 124 a)) else
  if k = 125 then .inl (cy 2, 200, .inl (zi Z.2.1 125 a)) else
  if k = 126 then .inl (cy 2, 200, .inl (zi Z.2.1 126 a)) else
  if k = 127 then .inl (cy 2, 200, .inl (zi Z.2.1 127 a)) else
  if k = 128 then .inl (cy 0, 200, .inl (zi Z.2.1 128 a)) else
  if k = 129 then .inl (cy 0, 200, .inl (zi Z.2.1 129 a)) else
  if k = 130 then .inl (cy 0, 200, .inl (zi Z.2.1 130 a)) else
  if k = 131 then .inl (cy 0, 200, .inl (zi Z.2.1 131 a)) else
  if k = 132 then .inl (cy 0, 200, .inl (zi Z.2.1 132 a)) else
  if k = 133 then .inl (cy 0, 200, .inl (zi Z.2.1 133 a)) else
  if k = 134 then .inl (cy 3, 200, .inr (.inl (zl Z.2.1 134 a))) else
  if k = 145 then .inl (cy 2, 8000, .inl (zi Z.2.1 145 a)) else
  if k = 146 then .inl (cy 0, 201, .inl (zi Z.2.1 146 a)) else
  if k = 147 then .inl (cy 0, 200, .inl (zi Z.2.1 147 a)) else
  if k = 149 then .inl (cy 0, 200, .inl (zi Z.2.1 149 a)) else
  if k = 150 then .inl (cy 2, 200, .inl (zi Z.2.1 150 a)) else
  .inl (cy 3, 1, .inr (.inl (fun _ => 0)))
theorem zc_0 (cy : Nat → ClassId) (Z : zW) (a : Nat) : zcell cy Z 0 a = .inr (0, [va_rf (zr Z.1 0 a 0), va_rf (zr Z.1 1 a 0), .int (zi Z.1 2 a 0)]) := rfl
theorem zc_1 (cy : Nat → ClassId) (Z : zW) (a : Nat) : zcell cy Z 1 a = .inr (1, [.int (zi Z.1 20 a 0), .int (zi Z.1 21 a 0), .int (zi Z.1 22 a 0)]) := rfl
theorem zc_2 (cy : Nat → ClassId) (Z : zW) (a : Nat) : zcell cy Z 2 a = .inr (2, [va_rf (zr Z.1 40 a 0), .int (zi Z.1 41 a 0), .int (zi Z.1 42 a 0), .int (zi Z.1 43 a 0), .int (zi Z.1 44 a 0), .int (zi Z.1 45 a 0), .int (zi Z.1 46 a 0), .int (zi Z.1 47 a 0)]) := rfl
theorem zc_3 (cy : Nat → ClassId) (Z : zW) (a : Nat) : zcell cy Z 3 a = .inr (3, [.int (zi Z.1 60 a 0), .int (zi Z.1 61 a 0), .int (zi Z.1 62 a 0), .int (zi Z.1 63 a 0), .int (zi Z.1 64 a 0), .int (zi Z.1 65 a 0)]) := rfl
theorem zc_4 (cy : Nat → ClassId) (Z : zW) (a : Nat) : zcell cy Z 4 a = .inr (4, [.int (zi Z.1 80 a 0), va_rf (zr Z.1 81 a 0), .int (zi Z.1 82 a 0), va_rf (zr Z.1 83 a 0), va_rf (zr Z.1 84 a 0), va_rf (zr Z.1 85 a 0), .int (zi Z.1 86 a 0), .int (zi Z.1 87 a 0), .int (zi Z.1 88 a 0), .int (zi Z.1 89 a 0), .int (zi Z.1 90 a 0), .int (zi Z.1 91 a 0), .int (zi Z.1 92 a 0), .long (zl Z.1 93 a 0)]) := rfl
theorem zc_5 (cy : Nat → ClassId) (Z : zW) (a : Nat) : zcell cy Z 5 a = .inr (5, [va_rf (zr Z.1 100 a 0), va_rf (zr Z.1 101 a 0), .int (zi Z.1 102 a 0), .int (zi Z.1 103 a 0)]) := rfl
theorem zc_6 (cy : Nat → ClassId) (Z : zW) (a : Nat) : zcell cy Z 6 a = .inr (6, [va_rf (zr Z.1 120 a 0), va_rf (zr Z.1 121 a 0), va_rf (zr Z.1 122 a 0), va_rf (zr Z.1 123 a 0), va_rf (zr Z.1 124 a 0), .int (zi Z.1 125 a 0), .int (zi Z.1 126 a 0), .int (zi Z.1 127 a 0), .int (zi Z.1 128 a 0), .int (zi Z.1 129 a 0), .int (zi Z.1 130 a 0), .int (zi Z.1 131 a 0), .int (zi Z.1 132 a 0), .int (zi Z.1 133 a 0), .long (zl Z.1 134 a 0), .long (zl Z.1 135 a 0), .long (zl Z.1 136 a 0), .long (zl Z.1 137 a 0)]) := rfl
theorem zc_7 (cy : Nat → ClassId) (Z : zW) (a : Nat) : zcell cy Z 7 a = .inr (7, [.int (zi Z.2.1 0 a 0), va_rf (zr Z.2.1 1 a 0), va_rf (zr Z.2.1 2 a 0), va_rf (zr Z.2.1 3 a 0), va_rf (zr Z.2.1 4 a 0), va_rf (zr Z.2.1 5 a 0), va_rf (zr Z.2.1 6 a 0), .int (zi Z.2.1 7 a 0), va_rf (zr Z.2.1 8 a 0), va_rf (zr Z.2.1 9 a 0), va_rf (zr Z.2.1 10 a 0), va_rf (zr Z.2.1 11 a 0), va_rf (zr Z.2.1 12 a 0), va_rf (zr Z.2.1 13 a 0), va_rf (zr Z.2.1 14 a 0), va_rf (zr Z.2.1 15 a 0), va_rf (zr Z.2.1 16 a 0), va_rf (zr Z.2.1 17 a 0), va_rf (zr Z.2.1 18 a 0), va_rf (zr Z.2.1 19 a 0), va_rf (zr Z.2.1 20 a 0), va_rf (zr Z.2.1 21 a 0), va_rf (zr Z.2.1 22 a 0), va_rf (zr Z.2.1 23 a 0), va_rf (zr Z.2.1 24 a 0), va_rf (zr Z.2.1 25 a 0), va_rf (zr Z.2.1 26 a 0), va_rf (zr Z.2.1 27 a 0), va_rf (zr Z.2.1 28 a 0), va_rf (zr Z.2.1 29 a 0), va_rf (zr Z.2.1 30 a 0), va_rf (zr Z.2.1 31 a 0), va_rf (zr Z.2.1 32 a 0), va_rf (zr Z.2.1 33 a 0), va_rf (zr Z.2.1 34 a 0), .int (zi Z.2.1 35 a 0), .int (zi Z.2.1 36 a 0), .int (zi Z.2.1 37 a 0), .int (zi Z.2.1 38 a 0), .int (zi Z.2.1 39 a 0), .int (zi Z.2.1 40 a 0), .int (zi Z.2.1 41 a 0), .int (zi Z.2.1 42 a 0), .long (zl Z.2.1 43 a 0), .long (zl Z.2.1 44 a 0), va_rf (zr Z.2.1 45 a 0), va_rf (zr Z.2.1 46 a 0), va_rf (zr Z.2.1 47 a 0), .int (zi Z.2.1 48 a 0), va_rf (zr Z.2.1 49 a 0), va_rf (zr Z.2.1 50 a 0)]) := rfl
theorem zc_8 (cy : Nat → ClassId) (Z : zW) (a : Nat) : zcell cy Z 8 a = .inl (cy 0, 200, .inl (zi Z.1 140 a)) := rfl
theorem zc_9 (cy : Nat → ClassId) (Z : zW) (a : Nat) : zcell cy Z 9 a = .inl (cy 0, 12, .inl (zi Z.1 141 a)) := rfl
theorem zc_10 (cy : Nat → ClassId) (Z : zW) (a : Nat) : zcell cy Z 10 a = .inl (cy 0, 12, .inl (zi Z.1 142 a)) := rfl
theorem zc_11 (cy : Nat → ClassId) (Z : zW) (a : Nat) : zcell cy Z 11 a = .inl (cy 4, 40, .inr (.inr (.inr (.inr (zr Z.1 143 a))))) := rfl
theorem zc_12 (cy : Nat → ClassId) (Z : zW) (a : Nat) : zcell cy Z 12 a = .inl (cy 5, 20, .inr (.inr (.inr (.inr (zr Z.1 144 a))))) := rfl
theorem zc_13 (cy : Nat → ClassId) (Z : zW) (a : Nat) : zcell cy Z 13 a = .inl (cy 6, 200, .inr (.inr (.inr (.inr (zr Z.1 145 a))))) := rfl
theorem zc_14 (cy : Nat → ClassId) (Z : zW) (a : Nat) : zcell cy Z 14 a = .inl (cy 6, 200, .inr (.inr (.inr (.inr (zr Z.1 146 a))))) := rfl
theorem zc_15 (cy : Nat → ClassId) (Z : zW) (a : Nat) : zcell cy Z 15 a = .inl (cy 6, 200, .inr (.inr (.inr (.inr (zr Z.1 147 a))))) := rfl
theorem zc_16 (cy : Nat → ClassId) (Z : zW) (a : Nat) : zcell cy Z 16 a = .inl (cy 6, 200, .inr (.inr (.inr (.inr (zr Z.1 148 a))))) := rfl
theorem zc_17 (cy : Nat → ClassId) (Z : zW) (a : Nat) : zcell cy Z 17 a = .inl (cy 3, 1, .inr (.inl (zl Z.1 170 a))) := rfl
theorem zc_101 (cy : Nat → ClassId) (Z : zW) (a : Nat) : zcell cy Z 101 a = .inl (cy 0, 40, .inl (zi Z.2.1 101 a)) := rfl
theorem zc_102 (cy : Nat → ClassId) (Z : zW) (a : Nat) : zcell cy Z 102 a = .inl (cy 1, 8000, .inl (zi Z.2.1 102 a)) := rfl
theorem zc_103 (cy : Nat → ClassId) (Z : zW) (a : Nat) : zcell cy Z 103 a = .inl (cy 0, 20, .inl (zi Z.2.1 103 a)) := rfl
theorem zc_104 (cy : Nat → ClassId) (Z : zW) (a : Nat) : zcell cy Z 104 a = .inl (cy 0, 20, .inl (zi Z.2.1 104 a)) := rfl
theorem zc_105 (cy : Nat → ClassId) (Z : zW) (a : Nat) : zcell cy Z 105 a = .inl (cy 2, 20, .inl (zi Z.2.1 105 a)) := rfl
theorem zc_106 (cy : Nat → ClassId) (Z : zW) (a : Nat) : zcell cy Z 106 a = .inl (cy 2, 400, .inl (zi Z.2.1 106 a)) := rfl
theorem zc_108 (cy : Nat → ClassId) (Z : zW) (a : Nat) : zcell cy Z 108 a = .inl (cy 0, 200, .inl (zi Z.2.1 108 a)) := rfl
theorem zc_109 (cy : Nat → ClassId) (Z : zW) (a : Nat) : zcell cy Z 109 a = .inl (cy 0, 200, .inl (zi Z.2.1 109 a)) := rfl
theorem zc_110 (cy : Nat → ClassId) (Z : zW) (a : Nat) : zcell cy Z 110 a = .inl (cy 0, 200, .inl (zi Z.2.1 110 a)) := rfl
theorem zc_111 (cy : Nat → ClassId) (Z : zW) (a : Nat) : zcell cy Z 111 a = .inl (cy 0, 200, .inl (zi Z.2.1 111 a)) := rfl
theorem zc_112 (cy : Nat → ClassId) (Z : zW) (a : Nat) : zcell cy Z 112 a = .inl (cy 2, 200, .inl (zi Z.2.1 112 a)) := rfl
theorem zc_113 (cy : Nat → ClassId) (Z : zW) (a : Nat) : zcell cy Z 113 a = .inl (cy 0, 200, .inl (zi Z.2.1 113 a)) := rfl
theorem zc_114 (cy : Nat → ClassId) (Z : zW) (a : Nat) : zcell cy Z 114 a = .inl (cy 0, 200, .inl (zi Z.2.1 114 a)) := rfl
theorem zc_115 (cy : Nat → ClassId) (Z : zW) (a : Nat) : zcell cy Z 115 a = .inl (cy 0, 200, .inl (zi Z.2.1 115 a)) := rfl
theorem zc_116 (cy : Nat → ClassId) (Z : zW) (a : Nat) : zcell cy Z 116 a = .inl (cy 0, 2400, .inl (zi Z.2.1 116 a)) := rfl
theorem zc_117 (cy : Nat → ClassId) (Z : zW) (a : Nat) : zcell cy Z 117 a = .inl (cy 0, 2400, .inl (zi Z.2.1 117 a)) := rfl
theorem zc_118 (cy : Nat → ClassId) (Z : zW) (a : Nat) : zcell cy Z 118 a = .inl (cy 0, 200, .inl (zi Z.2.1 118 a)) := rfl
theorem zc_119 (cy : Nat → ClassId) (Z : zW) (a : Nat) : zcell cy Z 119 a = .inl (cy 2, 200, .inl (zi Z.2.1 119 a)) := rfl
theorem zc_120 (cy : Nat → ClassId) (Z : zW) (a : Nat) : zcell cy Z 120 a = .inl (cy 2, 200, .inl (zi Z.2.1 120 a)) := rfl
theorem zc_121 (cy : Nat → ClassId) (Z : zW) (a : Nat) : zcell cy Z 121 a = .inl (cy 2, 200, .inl (zi Z.2.1 121 a)) := rfl
theorem zc_122 (cy : Nat → ClassId) (Z : zW) (a : Nat) : zcell cy Z 122 a = .inl (cy 2, 200, .inl (zi Z.2.1 122 a)) := rfl
theorem zc_123 (cy : Nat → ClassId) (Z : zW) (a : Nat) : zcell cy Z 123 a = .inl (cy 2, 200, .inl (zi Z.2.1 123 a)) := rfl
theorem zc_124 (cy : Nat → ClassId) (Z : zW) (a : Nat) : zcell cy Z 124 a = .inl (cy 2, 200, .inl (zi Z.2.1 124 a)) := rfl
theorem zc_125 (cy : Nat → ClassId) (Z : zW) (a : Nat) : zcell cy Z 125 a = .inl (cy 2, 200, .inl (zi Z.2.1 125 a)) := rfl
theorem zc_126 (cy : Nat → ClassId) (Z : zW) (a : Nat) : zcell cy Z 126 a = .inl (cy 2, 200, .inl (zi Z.2.1 126 a)) := rfl
theorem zc_127 (cy : Nat → ClassId) (Z : zW) (a : Nat) : zcell cy Z 127 a = .inl (cy 2, 200, .inl (zi Z.2.1 127 a)) := rfl
theorem zc_128 (cy : Nat → ClassId) (Z : zW) (a : Nat) : zcell cy Z 128 a = .inl (cy 0, 200, .inl (zi Z.2.1 128 a)) := rfl
theorem zc_129 (cy : Nat → ClassId) (Z : zW) (a : Nat) : zcell cy Z 129 a = .inl (cy 0, 200, .inl (zi Z.2.1 129 a)) := rfl
theorem zc_130 (cy : Nat → ClassId) (Z : zW) (a : Nat) : zcell cy Z 130 a = .inl (cy 0, 200, .inl (zi Z.2.1 130 a)) := rfl
theorem zc_131 (cy : Nat → ClassId) (Z : zW) (a : Nat) : zcell cy Z 131 a = .inl (cy 0, 200, .inl (zi Z.2.1 131 a)) := rfl
theorem zc_132 (cy : Nat → ClassId) (Z : zW) (a : Nat) : zcell cy Z 132 a = .inl (cy 0, 200, .inl (zi Z.2.1 132 a)) := rfl
theorem zc_133 (cy : Nat → ClassId) (Z : zW) (a : Nat) : zcell cy Z 133 a = .inl (cy 0, 200, .inl (zi Z.2.1 133 a)) := rfl
theorem zc_134 (cy : Nat → ClassId) (Z : zW) (a : Nat) : zcell cy Z 134 a = .inl (cy 3, 200, .inr (.inl (zl Z.2.1 134 a))) := rfl
theorem zc_145 (cy : Nat → ClassId) (Z : zW) (a : Nat) : zcell cy Z 145 a = .inl (cy 2, 8000, .inl (zi Z.2.1 145 a)) := rfl
theorem zc_146 (cy : Nat → ClassId) (Z : zW) (a : Nat) : zcell cy Z 146 a = .inl (cy 0, 201, .inl (zi Z.2.1 146 a)) := rfl
theorem zc_147 (cy : Nat → ClassId) (Z : zW) (a : Nat) : zcell cy Z 147 a = .inl (cy 0, 200, .inl (zi Z.2.1 147 a)) := rfl
theorem zc_149 (cy : Nat → ClassId) (Z : zW) (a : Nat) : zcell cy Z 149 a = .inl (cy 0, 200, .inl (zi Z.2.1 149 a)) := rfl
theorem zc_150 (cy : Nat → ClassId) (Z : zW) (a : Nat) : zcell cy Z 150 a = .inl (cy 2, 200, .inl (zi Z.2.1 150 a)) := rfl
set_option maxHeartbeats 4000000 in
theorem zcell_congr (cy : Nat → ClassId) (Z Z' : zW) (k a : Nat) (h1 : ∀ f, zi Z.1 f a = zi Z'.1 f a) (h2 : ∀ f, zl Z.1 f a = zl Z'.1 f a) (h3 : ∀ f, zr Z.1 f a = zr Z'.1 f a) (h4 : ∀ f, zi Z.2.1 f a = zi Z'.2.1 f a) (h5 : ∀ f, zl Z.2.1 f a = zl Z'.2.1 f a) (h6 : ∀ f, zr Z.2.1 f a = zr Z'.2.1 f a) (h7 : Z.2.2 = Z'.2.2) : zcell cy Z k a = zcell cy Z' k a := by
  unfold zcell
  simp only [h1, h2, h3, h4, h5, h6, h7]
def zpool (cy : Nat → ClassId) (K : Nat → Nat) (L : List Nat) (Z : zW) : va_W := va_pl L (fun a => zcell cy Z (K a) a)
abbrev zA (base : Nat) : Nat → Prop := fun q => base ≤ q
/-- where the walk stands: the pool in the heap, what was changed since the entry -/
def zC (D : va_G) (cy : Nat → ClassId) (base : Nat) (K : Nat → Nat) (L : List Nat) (Z : zW) (H0 H : Heap) (locs : List Loc) : Prop :=
  va_P D vwCl (zpool cy K L Z) H ∧ va_D (zA base) (zpool cy K L Z) ∧ va_S (zA base) H0 H locs ∧ ∀ a, K a < 255 → a ∈ L
def ztys (cy : Nat → ClassId) : List (ClassId × FieldType) := [(cy 0, .int), (cy 1, .byte), (cy 2, .boolean), (cy 3, .long), (cy 4, .object RX0), (cy 5, .object RX3), (cy 6, .object RX4)]
/-- what lies outside the pool: the statics of Throwable, the texts of the throws, the links among nest mates -/
def zxs : List String := ["java/lang/IndexOutOfBoundsException", "java/lang/IllegalArgumentException", "java/lang/IllegalStateException", "java/lang/UnsupportedOperationException"]
def zao : List String := [RX0, RX3, RX4]
def zds : List String := ["java/lang/RuntimeException", "java/lang/Exception", "java/lang/Throwable"]
def zJ (zts : List (String × Nat × String)) (zns : List (String × Nat × MethodName × String)) (base : Nat) (st : Nat → Nat) (U : State) (H : Heap) : Prop :=
  vx_Zq Bundle.tN "UNASSIGNED_STACK" Bundle.steD (zA base) U H ∧ vx_Zq Bundle.tN "SUPPRESSED_SENTINEL" Bundle.listD (zA base) U H ∧ (∀ (i : Nat) (q : String × Nat × String), zts[i]? = some q → vk_R q.1 q.2.1 q.2.2 (st i) U) ∧ (∀ q ∈ zns, va_Nw (.methodLinkNest q.1 q.2.1 q.2.2.1 q.2.2.2) U) ∧ (∀ x ∈ zxs, va_Nw (.castable x x) U) ∧ (∀ x ∈ zxs, ∀ y ∈ zxs, x ≠ y → va_Nc x y U) ∧ (∀ x ∈ zao, va_AO x U) ∧ ∀ x ∈ zds, va_Nw (.declares (Bundle.initS x)) U
/-- the texts of the throws, by class and entry -/
def zGW (zts : List (String × Nat × String)) (zns : List (String × Nat × MethodName × String)) (D : va_G) (cy : Nat → ClassId) (base : Nat) (st : Nat → Nat) (K : Nat → Nat) (L : List Nat) (Z : zW) (U : State) : Prop :=
  base ≤ U.heap.size ∧ va_P D vwCl (zpool cy K L Z) U.heap ∧ va_D (zA base) (zpool cy K L Z) ∧ va_K D vwCl (ztys cy) U ∧ (∀ a, K a < 255 → a ∈ L) ∧ zJ zts zns base st U U.heap
theorem zJ.step {zts zns} {base : Nat} {st : Nat → Nat} {s t : State} {H : Heap} (h : zJ zts zns base st s s.heap) (hW : s.WarmedH t.vm) (hq : ∀ a : Nat, a < s.heap.size → ¬ zA base a → H[a]? = s.heap[a]?) : zJ zts zns base st t H :=
  ⟨(vx_Zq.moved hW.alike h.1).kept hq, (vx_Zq.moved hW.alike h.2.1).kept hq, fun i q hi => (h.2.2.1 i q hi).warm hW, fun q hqz => (h.2.2.2.1 q hqz).warmM hW, fun x hx => (h.2.2.2.2.1 x hx).warmC hW, fun x hx y hy n => (h.2.2.2.2.2.1 x hx y hy n).moved hW.alike, fun x hx => (h.2.2.2.2.2.2.1 x hx).moved hW.alike, fun x hx => (h.2.2.2.2.2.2.2 x hx).warmD hW⟩
theorem zGW.blind {zts zns} {D : va_G} {cy : Nat → ClassId} {base : Nat} {st : Nat → Nat} {K : Nat → Nat} {L : List Nat} {Z : zW} {av : List Value} : FrameBlind (va_Pc av (zGW zts zns D cy base st K L Z)) := by
  intro a U g mk h
  obtain ⟨h0, h1, h2, h3, h4, h5, h6, h7, h8, h9, h10, h11, h12, h13⟩ := h
  exact ⟨h0, h1, h2, h3, va_K.moved (u := U) (U := U.calling g mk a) (Vm.Alike.refl U.vm) h4, h5, vx_Zq.moved (u := U) (U := U.calling g mk a) (Vm.Alike.refl U.vm) h6, vx_Zq.moved (u := U) (U := U.calling g mk a) (Vm.Alike.refl U.vm) h7, fun i q hi => (h8 i q hi).same (U := U.calling g mk a) rfl, fun q hq => (h9 q hq).same (U := U.calling g mk a) rfl rfl, fun x hx => (h10 x hx).same (U := U.calling g mk a) rfl rfl, fun x hx y hy n => va_Nc.moved (u := U) (U := U.calling g mk a) (Vm.Alike.refl U.vm) (h11 x hx y hy n), fun x hx => va_AO.moved (u := U) (U := U.calling g mk a) (Vm.Alike.refl U.vm) (h12 x hx), fun x hx => (h13 x hx).same (U := U.calling g mk a) rfl rfl⟩
section ZR
variable {p : Program} {l : Launch} {e : Env} {R : Room} {s : State} {m : MethodId} {args : Array Value} {below : List Frame} {meth : Method} {c : Code} {H : Heap} {locs : List Loc} {cells slots : Nat} {Q : State → Prop}
variable {cc : ByteArray} {pc : Nat} {ls : Array Slot} {rest : List Value} {D : va_G} {a : Nat} {H0 : Heap} {cy : Nat → ClassId} {base : Nat} {K : Nat → Nat} {L : List Nat} {Z Z' : zW}
variable {zts : List (String × Nat × String)} {zns : List (String × Nat × MethodName × String)} {st : Nat → Nat}
theorem zGW.enter (h : zGW zts zns D cy base st K L Z s) : zC D cy base K L Z s.heap s.heap [] := ⟨h.2.1, h.2.2.1, va_S.rf, h.2.2.2.2.1⟩
theorem zGW.exit {t : State} {K' : Nat → Nat} {L' : List Nat} (h : zGW zts zns D cy base st K L Z s) (hC : zC D cy base K' L' Z' s.heap H locs) (ht : t.heap = H) (hW : s.WarmedH t.vm) : zGW zts zns D cy base st K' L' Z' t := by
  subst ht
  exact ⟨Nat.le_trans h.1 hC.2.2.1.1, hC.1, hC.2.1, va_K.moved hW.alike h.2.2.2.1, hC.2.2.2, h.2.2.2.2.2.step hW hC.2.2.1.2.1⟩
theorem zC.find (hC : zC D cy base K L Z H0 H locs) (hk : K a < 255) : ∃ q0 : Nat, (zpool cy K L Z)[q0]? = some (a, zcell cy Z (K a) a) := by
  obtain ⟨k, hk⟩ := va_pl_get (X := []) (f := fun a => zcell cy Z (K a) a) (hC.2.2.2 a hk)
  exact ⟨k, by simpa [zpool] using hk⟩
/-- two states that differ at one address alone -/
def zOff (cy : Nat → ClassId) (Z Z' : zW) (a : Nat) : Prop := ∀ b, b ≠ a → ∀ k, zcell cy Z k b = zcell cy Z' k b
theorem zOff.ii {c r : zS} {o : Int64} {f j : Nat} {v : Int32} : zOff cy (c, r, o) (zui c f a j v, r, o) a := fun b h k => zcell_congr cy _ _ k b (fun f' => zi_ne h f') (fun _ => rfl) (fun _ => rfl) (fun _ => rfl) (fun _ => rfl) (fun _ => rfl) rfl
theorem zOff.jj {c r : zS} {o : Int64} {f j : Nat} {v : Int64} : zOff cy (c, r, o) (zul c f a j v, r, o) a := fun b h k => zcell_congr cy _ _ k b (fun _ => rfl) (fun f' => zl_ne h f') (fun _ => rfl) (fun _ => rfl) (fun _ => rfl) (fun _ => rfl) rfl
theorem zOff.rr {c r : zS} {o : Int64} {f j : Nat} {v : Option Nat} : zOff cy (c, r, o) (zur c f a j v, r, o) a := fun b h k => zcell_congr cy _ _ k b (fun _ => rfl) (fun _ => rfl) (fun f' => zr_ne h f') (fun _ => rfl) (fun _ => rfl) (fun _ => rfl) rfl
theorem zOff.mi {c r : zS} {o : Int64} {f j : Nat} {v : Int32} : zOff cy (c, r, o) (c, zui r f a j v, o) a := fun b h k => zcell_congr cy _ _ k b (fun _ => rfl) (fun _ => rfl) (fun _ => rfl) (fun f' => zi_ne h f') (fun _ => rfl) (fun _ => rfl) rfl
theorem zOff.mj {c r : zS} {o : Int64} {f j : Nat} {v : Int64} : zOff cy (c, r, o) (c, zul r f a j v, o) a := fun b h k => zcell_congr cy _ _ k b (fun _ => rfl) (fun _ => rfl) (fun _ => rfl) (fun _ => rfl) (fun f' => zl_ne h f') (fun _ => rfl) rfl
theorem zOff.mr {c r : zS} {o : Int64} {f j : Nat} {v : Option Nat} : zOff cy (c, r, o) (c, zur r f a j v, o) a := fun b h k => zcell_congr cy _ _ k b (fun _ => rfl) (fun _ => rfl) (fun _ => rfl) (fun _ => rfl) (fun _ => rfl) (fun f' => zr_ne h f') rfl
theorem zpool_set {A : Nat → Prop} {q0 : Nat} {ee : va_E} (hD : va_D A (zpool cy K L Z)) (hL : a ∈ L) (he : (zpool cy K L Z)[q0]? = some (a, zcell cy Z (K a) a)) (ho : zOff cy Z Z' a) (hn : ee = zcell cy Z' (K a) a) : (zpool cy K L Z).set q0 (a, ee) = zpool cy K L Z' := by
  have h := va_pl_set (X := []) (L := L) (f := fun a => zcell cy Z (K a) a) (a := a) (k := q0) (e := ee) (A := A) (by simpa [zpool] using hD) hL (by simpa [zpool] using he)
  simp only [List.nil_append] at h
  refine h.trans (va_pl_congr (fun b => ?_))
  by_cases hb : b = a
  · subst hb; rw [va_up_self, hn]
  · rw [va_up_ne _ _ hb]; exact ho b hb (K b)
/-- a field is read -/
theorem z_get (hexec : p.tables.exec = Jvm.exec) (hb : c.code = cc) {own C : String} {T : u_T} {N ci index : Nat} {Ts : List Cond} (hts : ∀ w ∈ Ts, w.before args s = true) (hin : ∀ w ∈ u_ws C T N, w ∈ Ts) (hown : s.vm.findClass own = some m.cls) (hK : va_K D vwCl (ztys cy) s) (hC : zC D cy base K L Z H0 H locs) (hk : K a < 255) {fs : List Value} (hf : zcell cy Z (K a) a = .inr (ci, fs)) (hc : vwCl[ci]? = some (C, T, N)) (k : Nat) (hkN : k < N) (hlink : (Cond.fieldLink own index (T k).1 (T k).2.1 (T k).2.2.1).before args s = true) {v : Value} (hv : fs[k]? = some v) (hdg : decode cc pc = .ok (.getfield index, 3))
    (kk : W p l e R s m args below meth c H locs cells slots Q (F0 m (pc + 3) ls (v :: rest))) : W p l e R s m args below meth c H locs cells slots Q (F0 m pc ls (.ref a :: rest)) := by
  obtain ⟨q0, h0⟩ := hC.find hk
  rw [hf] at h0
  exact va_get (D := D) (ci := ci) (C := C) (T := T) (N := N) hexec hb hts hin hown hK hC.1 q0 h0 hc k hkN hlink (fun _ h => h) hv hdg kk
/-- a field is written -/
theorem z_put (hexec : p.tables.exec = Jvm.exec) (hb : c.code = cc) {own C : String} {T : u_T} {N ci index : Nat} {Ts : List Cond} (hts : ∀ w ∈ Ts, w.before args s = true) (hin : ∀ w ∈ u_ws C T N, w ∈ Ts) (ty0 : Nat → FieldType) (hty : ∀ k, k < N → parseFieldDescriptor (T k).2.2.1 = some (ty0 k)) (hnm : ∀ a, a < N → ∀ b, b < N → a ≠ b → (T a).2.1 ≠ (T b).2.1) (hown : s.vm.findClass own = some m.cls) (hK : va_K D vwCl (ztys cy) s) (hC : zC D cy base K L Z H0 H locs) (hk : K a < 255) {fs : List Value} (hf : zcell cy Z (K a) a = .inr (ci, fs)) (hc : vwCl[ci]? = some (C, T, N)) (k : Nat) (hkN : k < N) (hlink : (Cond.fieldLink own index (T k).1 (T k).2.1 (T k).2.2.1).before args s = true) (hfin : (T k).2.2.2 = false) {v : Value} (hn : narrow (ty0 k) v = v) (hfit : fits (ty0 k) v = true) (hl : k < fs.length)
    (ho : zOff cy Z Z' a) (hn' : zcell cy Z' (K a) a = .inr (ci, fs.set k v)) (hdg : decode cc pc = .ok (.putfield index, 3))
    (kk : ∀ (H1 : Heap) (locs1 : List Loc), zC D cy base K L Z' H0 H1 locs1 → W p l e R s m args below meth c H1 locs1 cells slots Q (F0 m (pc + 3) ls rest)) : W p l e R s m args below meth c H locs cells slots Q (F0 m pc ls (v :: .ref a :: rest)) := by
  obtain ⟨q0, h0⟩ := hC.find hk
  have h1 := h0
  rw [hf] at h1
  refine va_put (D := D) (ci := ci) (C := C) (T := T) (N := N) hexec hb hts hin ty0 hty hnm hown hK hC.1 hC.2.1 hC.2.2.1 q0 h1 hc k hkN hlink (fun _ h => h) hfin (hty k hkN) hn hfit hl hdg (fun H1 locs1 hP hD hS => ?_)
  have he := zpool_set (Z' := Z') hC.2.1 (hC.2.2.2 a hk) h0 ho hn'.symm
  rw [he] at hP hD
  exact kk H1 locs1 ⟨hP, hD, hS, hC.2.2.2⟩
/-- a final field, in a constructor -/
theorem z_putF (hexec : p.tables.exec = Jvm.exec) (hb : c.code = cc) {own C : String} {T : u_T} {N ci index : Nat} {Ts : List Cond} (hts : ∀ w ∈ Ts, w.before args s = true) (hin : ∀ w ∈ u_ws C T N, w ∈ Ts) (ty0 : Nat → FieldType) (hty : ∀ k, k < N → parseFieldDescriptor (T k).2.2.1 = some (ty0 k)) (hnm : ∀ a, a < N → ∀ b, b < N → a ≠ b → (T a).2.1 ≠ (T b).2.1) (hown : s.vm.findClass own = some m.cls) (hK : va_K D vwCl (ztys cy) s) (hC : zC D cy base K L Z H0 H locs) (hk : K a < 255) {fs : List Value} (hf : zcell cy Z (K a) a = .inr (ci, fs)) (hc : vwCl[ci]? = some (C, T, N)) (k : Nat) (hkN : k < N) (hlink : (Cond.fieldLink own index (T k).1 (T k).2.1 (T k).2.2.1).before args s = true) (hfin : (T k).2.2.2 = true) (hin2 : meth.name = "<init>") (hdecl : (T k).1 = own) {v : Value} (hn : narrow (ty0 k) v = v) (hfit : fits (ty0 k) v = true) (hl : k < fs.length)
    (ho : zOff cy Z Z' a) (hn' : zcell cy Z' (K a) a = .inr (ci, fs.set k v)) (hdg : decode cc pc = .ok (.putfield index, 3))
    (kk : ∀ (H1 : Heap) (locs1 : List Loc), zC D cy base K L Z' H0 H1 locs1 → W p l e R s m args below meth c H1 locs1 cells slots Q (F0 m (pc + 3) ls rest)) : W p l e R s m args below meth c H locs cells slots Q (F0 m pc ls (v :: .ref a :: rest)) := by
  obtain ⟨q0, h0⟩ := hC.find hk
  have h1 := h0
  rw [hf] at h1
  refine va_putF (D := D) (ci := ci) (C := C) (T := T) (N := N) hexec hb hts hin ty0 hty hnm hown hK hC.1 hC.2.1 hC.2.2.1 q0 h1 hc k hkN hlink (fun _ h => h) hfin hin2 hdecl (hty k hkN) hn hfit hl hdg (fun H1 locs1 hP hD hS => ?_)
  have he := zpool_set (Z' := Z') hC.2.1 (hC.2.2.2 a hk) h0 ho hn'.symm
  rw [he] at hP hD
  exact kk H1 locs1 ⟨hP, hD, hS, hC.2.2.2⟩
/-- a place of an array is read -/
theorem z_iald (hexec : p.tables.exec = Jvm.exec) (hb : c.code = cc) (hK : va_K D vwCl (ztys cy) s) (hC : zC D cy base K L Z H0 H locs) (hk : K a < 255) {n : Nat} {f : Nat → Int32} (hf : zcell cy Z (K a) a = .inl (cy 0, n, .inl f)) {i : Int32} (hin : vp_in i n) (hdg : decode cc pc = .ok (.iaload, 1))
    (kk : W p l e R s m args below meth c H locs cells slots Q (F0 m (pc + 1) ls (.int (f i.toNatClampNeg) :: rest))) : W p l e R s m args below meth c H locs cells slots Q (F0 m pc ls (.int i :: .ref a :: rest)) := by
  obtain ⟨q0, h0⟩ := hC.find hk
  rw [hf] at h0
  exact va_iald hexec hb hK hC.1 q0 0 h0 rfl hin hdg kk
theorem z_bald (hexec : p.tables.exec = Jvm.exec) (hb : c.code = cc) (hK : va_K D vwCl (ztys cy) s) (hC : zC D cy base K L Z H0 H locs) (hk : K a < 255) {n : Nat} {f : Nat → Int32} (hf : zcell cy Z (K a) a = .inl (cy 1, n, .inl f)) {i : Int32} (hin : vp_in i n) (hdg : decode cc pc = .ok (.baload, 1))
    (kk : W p l e R s m args below meth c H locs cells slots Q (F0 m (pc + 1) ls (.int (f i.toNatClampNeg) :: rest))) : W p l e R s m args below meth c H locs cells slots Q (F0 m pc ls (.int i :: .ref a :: rest)) := by
  obtain ⟨q0, h0⟩ := hC.find hk
  rw [hf] at h0
  exact va_bald hexec hb hK hC.1 q0 1 h0 rfl hin hdg kk
theorem z_zald (hexec : p.tables.exec = Jvm.exec) (hb : c.code = cc) (hK : va_K D vwCl (ztys cy) s) (hC : zC D cy base K L Z H0 H locs) (hk : K a < 255) {n : Nat} {f : Nat → Int32} (hf : zcell cy Z (K a) a = .inl (cy 2, n, .inl f)) {i : Int32} (hin : vp_in i n) (hdg : decode cc pc = .ok (.baload, 1))
    (kk : W p l e R s m args below meth c H locs cells slots Q (F0 m (pc + 1) ls (.int (f i.toNatClampNeg) :: rest))) : W p l e R s m args below meth c H locs cells slots Q (F0 m pc ls (.int i :: .ref a :: rest)) := by
  obtain ⟨q0, h0⟩ := hC.find hk
  rw [hf] at h0
  exact va_zald hexec hb hK hC.1 q0 2 h0 rfl hin hdg kk
theorem z_lald (hexec : p.tables.exec = Jvm.exec) (hb : c.code = cc) (hK : va_K D vwCl (ztys cy) s) (hC : zC D cy base K L Z H0 H locs) (hk : K a < 255) {n : Nat} {f : Nat → Int64} (hf : zcell cy Z (K a) a = .inl (cy 3, n, .inr (.inl f))) {i : Int32} (hin : vp_in i n) (hdg : decode cc pc = .ok (.laload, 1))
    (kk : W p l e R s m args below meth c H locs cells slots Q (F0 m (pc + 1) ls (.long (f i.toNatClampNeg) :: rest))) : W p l e R s m args below meth c H locs cells slots Q (F0 m pc ls (.int i :: .ref a :: rest)) := by
  obtain ⟨q0, h0⟩ := hC.find hk
  rw [hf] at h0
  exact va_lald hexec hb hK hC.1 q0 3 h0 rfl hin hdg kk
theorem z_aald (hexec : p.tables.exec = Jvm.exec) (hb : c.code = cc) (hK : va_K D vwCl (ztys cy) s) (hC : zC D cy base K L Z H0 H locs) (hk : K a < 255) (t0 : Nat) {C : String} {n : Nat} {f : Nat → Option Nat} (hf : zcell cy Z (K a) a = .inl (cy t0, n, .inr (.inr (.inr (.inr f))))) (ht : (ztys cy)[t0]? = some (cy t0, .object C)) {i : Int32} (hin : vp_in i n) (hdg : decode cc pc = .ok (.aaload, 1))
    (kk : W p l e R s m args below meth c H locs cells slots Q (F0 m (pc + 1) ls (va_rf (f i.toNatClampNeg) :: rest))) : W p l e R s m args below meth c H locs cells slots Q (F0 m pc ls (.int i :: .ref a :: rest)) := by
  obtain ⟨q0, h0⟩ := hC.find hk
  rw [hf] at h0
  exact va_aldq hexec hb hK hC.1 q0 t0 h0 ht hin hdg kk
/-- a place of an array is written -/
theorem z_iast (hexec : p.tables.exec = Jvm.exec) (hb : c.code = cc) (hK : va_K D vwCl (ztys cy) s) (hC : zC D cy base K L Z H0 H locs) (hk : K a < 255) {n : Nat} {f : Nat → Int32} (hf : zcell cy Z (K a) a = .inl (cy 0, n, .inl f)) {i x : Int32} (hin : vp_in i n) (ho : zOff cy Z Z' a) (hn' : zcell cy Z' (K a) a = .inl (cy 0, n, .inl (upd f i.toNatClampNeg x))) (hdg : decode cc pc = .ok (.iastore, 1))
    (kk : ∀ (H1 : Heap) (locs1 : List Loc), zC D cy base K L Z' H0 H1 locs1 → W p l e R s m args below meth c H1 locs1 cells slots Q (F0 m (pc + 1) ls rest)) : W p l e R s m args below meth c H locs cells slots Q (F0 m pc ls (.int x :: .int i :: .ref a :: rest)) := by
  obtain ⟨q0, h0⟩ := hC.find hk
  have h1 := h0
  rw [hf] at h1
  refine va_iast hexec hb hK hC.1 hC.2.1 hC.2.2.1 q0 0 h1 rfl hin hdg (fun H1 locs1 hP hD hS => ?_)
  have he := zpool_set (Z' := Z') hC.2.1 (hC.2.2.2 a hk) h0 ho hn'.symm
  rw [he] at hP hD
  exact kk H1 locs1 ⟨hP, hD, hS, hC.2.2.2⟩
theorem z_bast (hexec : p.tables.exec = Jvm.exec) (hb : c.code = cc) (hK : va_K D vwCl (ztys cy) s) (hC : zC D cy base K L Z H0 H locs) (hk : K a < 255) {n : Nat} {f : Nat → Int32} (hf : zcell cy Z (K a) a = .inl (cy 1, n, .inl f)) {i x : Int32} (hin : vp_in i n) (ho : zOff cy Z Z' a) (hn' : zcell cy Z' (K a) a = .inl (cy 1, n, .inl (upd f i.toNatClampNeg (vp_nar .byte x)))) (hdg : decode cc pc = .ok (.bastore, 1))
    (kk : ∀ (H1 : Heap) (locs1 : List Loc), zC D cy base K L Z' H0 H1 locs1 → W p l e R s m args below meth c H1 locs1 cells slots Q (F0 m (pc + 1) ls rest)) : W p l e R s m args below meth c H locs cells slots Q (F0 m pc ls (.int x :: .int i :: .ref a :: rest)) := by
  obtain ⟨q0, h0⟩ := hC.find hk
  have h1 := h0
  rw [hf] at h1
  refine va_bast hexec hb hK hC.1 hC.2.1 hC.2.2.1 q0 1 h1 rfl hin hdg (fun H1 locs1 hP hD hS => ?_)
  have he := zpool_set (Z' := Z') hC.2.1 (hC.2.2.2 a hk) h0 ho hn'.symm
  rw [he] at hP hD
  exact kk H1 locs1 ⟨hP, hD, hS, hC.2.2.2⟩
theorem z_zast (hexec : p.tables.exec = Jvm.exec) (hb : c.code = cc) (hK : va_K D vwCl (ztys cy) s) (hC : zC D cy base K L Z H0 H locs) (hk : K a < 255) {n : Nat} {f : Nat → Int32} (hf : zcell cy Z (K a) a = .inl (cy 2, n, .inl f)) {i x : Int32} (hin : vp_in i n) (ho : zOff cy Z Z' a) (hn' : zcell cy Z' (K a) a = .inl (cy 2, n, .inl (upd f i.toNatClampNeg (vp_nar .boolean x)))) (hdg : decode cc pc = .ok (.bastore, 1))
    (kk : ∀ (H1 : Heap) (locs1 : List Loc), zC D cy base K L Z' H0 H1 locs1 → W p l e R s m args below meth c H1 locs1 cells slots Q (F0 m (pc + 1) ls rest)) : W p l e R s m args below meth c H locs cells slots Q (F0 m pc ls (.int x :: .int i :: .ref a :: rest)) := by
  obtain ⟨q0, h0⟩ := hC.find hk
  have h1 := h0
  rw [hf] at h1
  refine va_zast hexec hb hK hC.1 hC.2.1 hC.2.2.1 q0 2 h1 rfl hin hdg (fun H1 locs1 hP hD hS => ?_)
  have he := zpool_set (Z' := Z') hC.2.1 (hC.2.2.2 a hk) h0 ho hn'.symm
  rw [he] at hP hD
  exact kk H1 locs1 ⟨hP, hD, hS, hC.2.2.2⟩
theorem z_last (hexec : p.tables.exec = Jvm.exec) (hb : c.code = cc) (hK : va_K D vwCl (ztys cy) s) (hC : zC D cy base K L Z H0 H locs) (hk : K a < 255) {n : Nat} {f : Nat → Int64} (hf : zcell cy Z (K a) a = .inl (cy 3, n, .inr (.inl f))) {i : Int32} {x : Int64} (hin : vp_in i n) (ho : zOff cy Z Z' a) (hn' : zcell cy Z' (K a) a = .inl (cy 3, n, .inr (.inl (vp_updL f i.toNatClampNeg x)))) (hdg : decode cc pc = .ok (.lastore, 1))
    (kk : ∀ (H1 : Heap) (locs1 : List Loc), zC D cy base K L Z' H0 H1 locs1 → W p l e R s m args below meth c H1 locs1 cells slots Q (F0 m (pc + 1) ls rest)) : W p l e R s m args below meth c H locs cells slots Q (F0 m pc ls (.long x :: .int i :: .ref a :: rest)) := by
  obtain ⟨q0, h0⟩ := hC.find hk
  have h1 := h0
  rw [hf] at h1
  refine va_last hexec hb hK hC.1 hC.2.1 hC.2.2.1 q0 3 h1 rfl hin hdg (fun H1 locs1 hP hD hS => ?_)
  have he := zpool_set (Z' := Z') hC.2.1 (hC.2.2.2 a hk) h0 ho hn'.symm
  rw [he] at hP hD
  exact kk H1 locs1 ⟨hP, hD, hS, hC.2.2.2⟩
/-- a reference goes into an array: an object of class ci that the pool holds -/
theorem z_aast (hexec : p.tables.exec = Jvm.exec) (hb : c.code = cc) (hK : va_K D vwCl (ztys cy) s) (hC : zC D cy base K L Z H0 H locs) (hk : K a < 255) (t0 ci : Nat) {q : vw_C} {n v : Nat} {vs : List Value} {f : Nat → Option Nat} (hf : zcell cy Z (K a) a = .inl (cy t0, n, .inr (.inr (.inr (.inr f))))) (ht : (ztys cy)[t0]? = some (cy t0, .object q.1)) (hkv : K v < 255) (hfv : zcell cy Z (K v) v = .inr (ci, vs)) (hc : vwCl[ci]? = some q) {i : Int32} (hin : vp_in i n) (ho : zOff cy Z Z' a) (hn' : zcell cy Z' (K a) a = .inl (cy t0, n, .inr (.inr (.inr (.inr (va_up f i.toNatClampNeg (some v))))))) (hdg : decode cc pc = .ok (.aastore, 1))
    (kk : ∀ (H1 : Heap) (locs1 : List Loc), zC D cy base K L Z' H0 H1 locs1 → W p l e R s m args below meth c H1 locs1 cells slots Q (F0 m (pc + 1) ls rest)) : W p l e R s m args below meth c H locs cells slots Q (F0 m pc ls (.ref v :: .int i :: .ref a :: rest)) := by
  obtain ⟨q0, h0⟩ := hC.find hk
  obtain ⟨q1, h2⟩ := hC.find hkv
  have h1 := h0
  rw [hf] at h1
  rw [hfv] at h2
  refine va_astq hexec hb hK hC.1 hC.2.1 hC.2.2.1 q0 t0 q1 ci h1 ht h2 hc hin hdg (fun H1 locs1 hP hD hS => ?_)
  have he := zpool_set (Z' := Z') hC.2.1 (hC.2.2.2 a hk) h0 ho hn'.symm
  rw [he] at hP hD
  exact kk H1 locs1 ⟨hP, hD, hS, hC.2.2.2⟩
theorem z_aastN (hexec : p.tables.exec = Jvm.exec) (hb : c.code = cc) (hK : va_K D vwCl (ztys cy) s) (hC : zC D cy base K L Z H0 H locs) (hk : K a < 255) (t0 : Nat) {C : String} {n : Nat} {f : Nat → Option Nat} (hf : zcell cy Z (K a) a = .inl (cy t0, n, .inr (.inr (.inr (.inr f))))) (ht : (ztys cy)[t0]? = some (cy t0, .object C)) {i : Int32} (hin : vp_in i n) (ho : zOff cy Z Z' a) (hn' : zcell cy Z' (K a) a = .inl (cy t0, n, .inr (.inr (.inr (.inr (va_up f i.toNatClampNeg none)))))) (hdg : decode cc pc = .ok (.aastore, 1))
    (kk : ∀ (H1 : Heap) (locs1 : List Loc), zC D cy base K L Z' H0 H1 locs1 → W p l e R s m args below meth c H1 locs1 cells slots Q (F0 m (pc + 1) ls rest)) : W p l e R s m args below meth c H locs cells slots Q (F0 m pc ls (.null :: .int i :: .ref a :: rest)) := by
  obtain ⟨q0, h0⟩ := hC.find hk
  have h1 := h0
  rw [hf] at h1
  refine va_astqN hexec hb hK hC.1 hC.2.1 hC.2.2.1 q0 t0 h1 ht hin hdg (fun H1 locs1 hP hD hS => ?_)
  have he := zpool_set (Z' := Z') hC.2.1 (hC.2.2.2 a hk) h0 ho hn'.symm
  rw [he] at hP hD
  exact kk H1 locs1 ⟨hP, hD, hS, hC.2.2.2⟩
end ZR

