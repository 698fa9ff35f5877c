/-! what the class's objects hold -/
def tbl : List (Nat × Nat × Nat) := [(82, 4, 10), (86, 4, 8), (87, 4, 11), (88, 4, 15), (89, 4, 20), (90, 4, 31), (91, 4, 32), (92, 4, 33), (20, 5, 12), (21, 5, 13), (22, 5, 14), (102, 6, 18), (103, 6, 19), (41, 9, 30), (42, 9, 21), (44, 9, 23), (45, 9, 24), (46, 9, 25), (20, 10, 27), (21, 10, 28), (22, 10, 29)]
def cov (V : zV) (o i q : Nat) : Prop := st V o ∧ sr V o = i ∧ sp V o ≤ q ∧ q < sp V o + fN V o
def Ai (A : Nat → Nat → Nat) : Prop := ∀ k j k' j', A k j = A k' j' → k = k' ∧ j = j'
def R1 (K : Nat → Nat) (A : Nat → Nat → Nat) (V : zV) : Prop := (∀ i, i < 40 → K (A 0 i) = 0 ∧ K (A 1 i) = 8 ∧ K (A 2 i) = 16) ∧ (∀ j, j < rN V → K (A 3 j) = 3) ∧ (∀ j, j < tN V → K (A 4 j) = 4 ∧ K (A 5 j) = 1 ∧ K (A 6 j) = 5 ∧ K (A 7 j) = 9 ∧ K (A 8 j) = 10 ∧ K (A 9 j) = 2 ∧ K (A 10 j) = 1) ∧ K (A 11 0) = 11 ∧ K (A 12 0) = 12 ∧ K (A 13 0) = 13 ∧ K (A 14 0) = 14 ∧ K (A 15 0) = 15
def R2 (A : Nat → Nat → Nat) (c : zS) (ms : Nat) : Prop := zr c 120 ms 0 = some (A 11 0) ∧ zr c 121 ms 0 = some (A 12 0) ∧ zr c 122 ms 0 = some (A 13 0) ∧ zr c 123 ms 0 = some (A 14 0) ∧ zr c 124 ms 0 = some (A 15 0) ∧ ∀ i, i < 40 → zr c 143 (A 11 0) i = some (A 0 i) ∧ zr c 0 (A 0 i) 0 = some (A 1 i) ∧ zr c 1 (A 0 i) 0 = some (A 2 i)
def R3 (A : Nat → Nat → Nat) (c : zS) (V : zV) : Prop := (∀ j, j < 20 → zr c 144 (A 12 0) j = if j < rN V then some (A 3 j) else none) ∧ ∀ j, j < 200 → zr c 145 (A 13 0) j = if j < tN V then some (A 4 j) else none
def R4 (A : Nat → Nat → Nat) (c : zS) (V : zV) : Prop := ∀ j, j < tN V → zr c 81 (A 4 j) 0 = some (A 3 (tr V j)) ∧ zr c 83 (A 4 j) 0 = some (A 5 j) ∧ zr c 84 (A 4 j) 0 = some (A 6 j) ∧ zr c 85 (A 4 j) 0 = some (A 9 j) ∧ zr c 40 (A 9 j) 0 = some (A 10 j) ∧ zr c 100 (A 6 j) 0 = some (A 7 j) ∧ zr c 101 (A 6 j) 0 = some (A 8 j)
def R5 (A : Nat → Nat → Nat) (c : zS) (V : zV) : Prop := ∀ q, q ∈ tbl → ∀ j, j < tN V → zi c q.1 (A q.2.1 j) 0 = V.1 q.2.2 j
def R6 (A : Nat → Nat → Nat) (c : zS) (V : zV) : Prop := ∀ j, j < tN V → ∀ k, k < 12 → zi c 141 (A 7 j) k = V.1 16 (12 * j + k) ∧ zi c 142 (A 8 j) k = V.1 17 (12 * j + k)
def R7 (A : Nat → Nat → Nat) (c : zS) (V : zV) : Prop := ∀ i, i < 40 → zi c 2 (A 0 i) 0 = V.1 1 i ∧ ∀ p, p < 200 → zi c 140 (A 1 i) p = V.1 2 (200 * i + p)
def R8 (A : Nat → Nat → Nat) (c : zS) (V : zV) : Prop := ∀ j, j < rN V → zi c 60 (A 3 j) 0 = nI j ∧ zi c 61 (A 3 j) 0 = V.1 3 j ∧ zi c 62 (A 3 j) 0 = V.1 4 j ∧ zi c 63 (A 3 j) 0 = V.1 5 j ∧ ∀ k, k < 20 → ((zi c 64 (A 3 j) 0 >>> (nI k &&& 31)) &&& 1 = 1 ↔ ¬ V.1 6 (20 * j + k) = 0)
def R9 (A : Nat → Nat → Nat) (c : zS) (V : zV) : Prop := ∀ j, j < tN V → zi c 80 (A 4 j) 0 = nI j ∧ zi c 43 (A 9 j) 0 = (if V.1 21 j = 0 then V.1 22 j else 0) ∧ zl c 93 (A 4 j) 0 = V.2 34 j
def R10 (A : Nat → Nat → Nat) (c : zS) (V : zV) (ms : Nat) : Prop := zi c 125 ms 0 = V.1 7 0 ∧ zi c 126 ms 0 = V.1 35 0 ∧ zi c 127 ms 0 = V.1 36 0 ∧ zi c 128 ms 0 = V.1 37 0 ∧ zi c 129 ms 0 = V.1 40 0 ∧ zi c 130 ms 0 = V.1 38 0 ∧ zi c 131 ms 0 = V.1 39 0 ∧ zl c 134 ms 0 = V.2 43 0 ∧ zl c 135 ms 0 = V.2 44 0 ∧ zl c 136 ms 0 = Int32.toInt64 (V.1 41 0) ∧ zl c 137 ms 0 = Int32.toInt64 (V.1 42 0)
def R11 (A : Nat → Nat → Nat) (c : zS) (V : zV) : Prop := ∀ j, j < rN V → zi c 65 (A 3 j) 0 = nI (cn (fun o => st V o ∧ tr V o = j) (tN V))
def R12 (A : Nat → Nat → Nat) (c : zS) (V : zV) (ms : Nat) : Prop := zi c 132 ms 0 = nI (cn (fun o => st V o) (tN V)) ∧ zi c 133 ms 0 = nI (cn (fun o => st V o ∧ V.1 8 o = 4) (tN V))
def R13 (A : Nat → Nat → Nat) (c : zS) (V : zV) : Prop := ∀ i q, i < 40 → q < 200 → (∃ o, o < tN V ∧ cov V o i q ∧ zr c 148 (A 2 i) q = some (A 4 o)) ∨ ((∀ o, o < tN V → ¬ cov V o i q) ∧ zr c 148 (A 2 i) q = none)
def R14 (A : Nat → Nat → Nat) (c : zS) (V : zV) : Prop := ∃ rk, (∀ i, i < tN V → zr c 146 (A 14 0) i = some (A 4 (rk i))) ∧ Ls (rkI V) (fun x => x < tN V) (tN V) rk
def R15 (A : Nat → Nat → Nat) (c : zS) (V : zV) : Prop := ∀ j, j < tN V → zi c 47 (A 9 j) 0 = V.1 60 j
def RC (K : Nat → Nat) (A : Nat → Nat → Nat) (c : zS) (V : zV) (ms : Nat) : Prop := Ai A ∧ R1 K A V ∧ R2 A c ms ∧ R3 A c V ∧ R4 A c V ∧ R5 A c V ∧ R6 A c V ∧ R7 A c V ∧ R8 A c V ∧ R9 A c V ∧ R10 A c V ms ∧ R11 A c V ∧ R12 A c V ms ∧ R13 A c V ∧ R14 A c V ∧ R15 A c V
section RW
variable {K : Nat → Nat} {A : Nat → Nat → Nat} {c c' : zS} {V V' : zV} {ms : Nat}
theorem zi_o {f a j : Nat} {v : Int32} {g : Nat} (h : g ≠ f) : zi (zui c f a j v) g = zi c g := by funext b k; rw [zi_zui, if_neg (fun x => h x.1)]
theorem zr_o {f a j : Nat} {v : Option Nat} {g : Nat} (h : g ≠ f) : zr (zur c f a j v) g = zr c g := by funext b k; rw [zr_zur, if_neg (fun x => h x.1)]
theorem zl_o {f a j : Nat} {v : Int64} {g : Nat} (h : g ≠ f) : zl (zul c f a j v) g = zl c g := by funext b k; rw [zl_zul, if_neg (fun x => h x.1)]
theorem C1 (h : RC K A c V ms) : R1 K A V := h.2.1
theorem R1_c (e7 : V'.1 7 = V.1 7) (e35 : V'.1 35 = V.1 35) (h : R1 K A V) : R1 K A V' := by
  unfold R1 at h ⊢
  simp only [tN, rN, e7, e35] at h ⊢
  exact h
theorem C2 (h : RC K A c V ms) : R2 A c ms := h.2.2.1
theorem R2_c (r0 : zr c' 0 = zr c 0) (r1 : zr c' 1 = zr c 1) (r120 : zr c' 120 = zr c 120) (r121 : zr c' 121 = zr c 121) (r122 : zr c' 122 = zr c 122) (r123 : zr c' 123 = zr c 123) (r124 : zr c' 124 = zr c 124) (r143 : zr c' 143 = zr c 143) (h : R2 A c ms) : R2 A c' ms := by
  unfold R2 at h ⊢
  first | (simp only [tN, rN, fN, tr, sr, sp, pl, wN, st, cov, r0, r1, r120, r121, r122, r123, r124, r143] at h ⊢; exact h) | (simp only [tN, rN, fN, tr, sr, sp, pl, wN, st, cov, r0, r1, r120, r121, r122, r123, r124, r143]; exact h)
theorem C3 (h : RC K A c V ms) : R3 A c V := h.2.2.2.1
theorem R3_c (r144 : zr c' 144 = zr c 144) (r145 : zr c' 145 = zr c 145) (e7 : V'.1 7 = V.1 7) (e35 : V'.1 35 = V.1 35) (h : R3 A c V) : R3 A c' V' := by
  unfold R3 at h ⊢
  first | (simp only [tN, rN, fN, tr, sr, sp, pl, wN, st, cov, r144, r145, e7, e35] at h ⊢; exact h) | (simp only [tN, rN, fN, tr, sr, sp, pl, wN, st, cov, r144, r145, e7, e35]; exact h)
theorem C4 (h : RC K A c V ms) : R4 A c V := h.2.2.2.2.1
theorem R4_c (r40 : zr c' 40 = zr c 40) (r81 : zr c' 81 = zr c 81) (r83 : zr c' 83 = zr c 83) (r84 : zr c' 84 = zr c 84) (r85 : zr c' 85 = zr c 85) (r100 : zr c' 100 = zr c 100) (r101 : zr c' 101 = zr c 101) (e9 : V'.1 9 = V.1 9) (e35 : V'.1 35 = V.1 35) (h : R4 A c V) : R4 A c' V' := by
  unfold R4 at h ⊢
  first | (simp only [tN, rN, fN, tr, sr, sp, pl, wN, st, cov, r40, r81, r83, r84, r85, r100, r101, e9, e35] at h ⊢; exact h) | (simp only [tN, rN, fN, tr, sr, sp, pl, wN, st, cov, r40, r81, r83, r84, r85, r100, r101, e9, e35]; exact h)
theorem C5 (h : RC K A c V ms) : R5 A c V := h.2.2.2.2.2.1
theorem R5_c (a20 : zi c' 20 = zi c 20) (a21 : zi c' 21 = zi c 21) (a22 : zi c' 22 = zi c 22) (a41 : zi c' 41 = zi c 41) (a42 : zi c' 42 = zi c 42) (a44 : zi c' 44 = zi c 44) (a45 : zi c' 45 = zi c 45) (a46 : zi c' 46 = zi c 46) (a82 : zi c' 82 = zi c 82) (a86 : zi c' 86 = zi c 86) (a87 : zi c' 87 = zi c 87) (a88 : zi c' 88 = zi c 88) (a89 : zi c' 89 = zi c 89) (a90 : zi c' 90 = zi c 90) (a91 : zi c' 91 = zi c 91) (a92 : zi c' 92 = zi c 92) (a102 : zi c' 102 = zi c 102) (a103 : zi c' 103 = zi c 103) (e8 : V'.1 8 = V.1 8) (e10 : V'.1 10 = V.1 10) (e11 : V'.1 11 = V.1 11) (e12 : V'.1 12 = V.1 12) (e13 : V'.1 13 = V.1 13) (e14 : V'.1 14 = V.1 14) (e15 : V'.1 15 = V.1 15) (e18 : V'.1 18 = V.1 18) (e19 : V'.1 19 = V.1 19) (e20 : V'.1 20 = V.1 20) (e21 : V'.1 21 = V.1 21) (e23 : V'.1 23 = V.1 23) (e24 : V'.1 24 = V.1 24) (e25 : V'.1 25 = V.1 25) (e27 : V'.1 27 = V.1 27) (e28 : V'.1 28 = V.1 28) (e29 : V'.1 29 = V.1 29) (e30 : V'.1 30 = V.1 30) (e31 : V'.1 31 = V.1 31) (e32 : V'.1 32 = V.1 32) (e33 : V'.1 33 = V.1 33) (e35 : V'.1 35 = V.1 35) (h : R5 A c V) : R5 A c' V' := by
  have eN : tN V' = tN V := by unfold tN; rw [e35]
  intro q hq j hj
  rw [eN] at hj
  have h1 := h q hq j hj
  have e1 : zi c' q.1 = zi c q.1 := by
    revert hq; intro hq
    simp only [tbl, List.mem_cons, List.not_mem_nil, or_false] at hq
    rcases hq with rfl | rfl | rfl | rfl | rfl | rfl | rfl | rfl | rfl | rfl | rfl | rfl | rfl | rfl | rfl | rfl | rfl | rfl | rfl | rfl | rfl
    · exact a82
    · exact a86
    · exact a87
    · exact a88
    · exact a89
    · exact a90
    · exact a91
    · exact a92
    · exact a20
    · exact a21
    · exact a22
    · exact a102
    · exact a103
    · exact a41
    · exact a42
    · exact a44
    · exact a45
    · exact a46
    · exact a20
    · exact a21
    · exact a22
  have e2 : V'.1 q.2.2 = V.1 q.2.2 := by
    simp only [tbl, List.mem_cons, List.not_mem_nil, or_false] at hq
    rcases hq with rfl | rfl | rfl | rfl | rfl | rfl | rfl | rfl | rfl | rfl | rfl | rfl | rfl | rfl | rfl | rfl | rfl | rfl | rfl | rfl | rfl
    · exact e10
    · exact e8
    · exact e11
    · exact e15
    · exact e20
    · exact e31
    · exact e32
    · exact e33
    · exact e12
    · exact e13
    · exact e14
    · exact e18
    · exact e19
    · exact e30
    · exact e21
    · exact e23
    · exact e24
    · exact e25
    · exact e27
    · exact e28
    · exact e29
  rw [e1, e2]; exact h1
theorem C6 (h : RC K A c V ms) : R6 A c V := h.2.2.2.2.2.2.1
theorem R6_c (a141 : zi c' 141 = zi c 141) (a142 : zi c' 142 = zi c 142) (e16 : V'.1 16 = V.1 16) (e17 : V'.1 17 = V.1 17) (e35 : V'.1 35 = V.1 35) (h : R6 A c V) : R6 A c' V' := by
  unfold R6 at h ⊢
  first | (simp only [tN, rN, fN, tr, sr, sp, pl, wN, st, cov, a141, a142, e16, e17, e35] at h ⊢; exact h) | (simp only [tN, rN, fN, tr, sr, sp, pl, wN, st, cov, a141, a142, e16, e17, e35]; exact h)
theorem C7 (h : RC K A c V ms) : R7 A c V := h.2.2.2.2.2.2.2.1
theorem R7_c (a2 : zi c' 2 = zi c 2) (a140 : zi c' 140 = zi c 140) (e1 : V'.1 1 = V.1 1) (e2 : V'.1 2 = V.1 2) (h : R7 A c V) : R7 A c' V' := by
  unfold R7 at h ⊢
  first | (simp only [tN, rN, fN, tr, sr, sp, pl, wN, st, cov, a2, a140, e1, e2] at h ⊢; exact h) | (simp only [tN, rN, fN, tr, sr, sp, pl, wN, st, cov, a2, a140, e1, e2]; exact h)
theorem C8 (h : RC K A c V ms) : R8 A c V := h.2.2.2.2.2.2.2.2.1
theorem R8_c (a60 : zi c' 60 = zi c 60) (a61 : zi c' 61 = zi c 61) (a62 : zi c' 62 = zi c 62) (a63 : zi c' 63 = zi c 63) (a64 : zi c' 64 = zi c 64) (e3 : V'.1 3 = V.1 3) (e4 : V'.1 4 = V.1 4) (e5 : V'.1 5 = V.1 5) (e6 : V'.1 6 = V.1 6) (e7 : V'.1 7 = V.1 7) (h : R8 A c V) : R8 A c' V' := by
  unfold R8 at h ⊢
  first | (simp only [tN, rN, fN, tr, sr, sp, pl, wN, st, cov, a60, a61, a62, a63, a64, e3, e4, e5, e6, e7] at h ⊢; exact h) | (simp only [tN, rN, fN, tr, sr, sp, pl, wN, st, cov, a60, a61, a62, a63, a64, e3, e4, e5, e6, e7]; exact h)
theorem C9 (h : RC K A c V ms) : R9 A c V := h.2.2.2.2.2.2.2.2.2.1
theorem R9_c (a43 : zi c' 43 = zi c 43) (a80 : zi c' 80 = zi c 80) (l93 : zl c' 93 = zl c 93) (e21 : V'.1 21 = V.1 21) (e22 : V'.1 22 = V.1 22) (e35 : V'.1 35 = V.1 35) (g34 : V'.2 34 = V.2 34) (h : R9 A c V) : R9 A c' V' := by
  unfold R9 at h ⊢
  first | (simp only [tN, rN, fN, tr, sr, sp, pl, wN, st, cov, a43, a80, l93, e21, e22, e35, g34] at h ⊢; exact h) | (simp only [tN, rN, fN, tr, sr, sp, pl, wN, st, cov, a43, a80, l93, e21, e22, e35, g34]; exact h)
theorem C10 (h : RC K A c V ms) : R10 A c V ms := h.2.2.2.2.2.2.2.2.2.2.1
theorem R10_c (a125 : zi c' 125 = zi c 125) (a126 : zi c' 126 = zi c 126) (a127 : zi c' 127 = zi c 127) (a128 : zi c' 128 = zi c 128) (a129 : zi c' 129 = zi c 129) (a130 : zi c' 130 = zi c 130) (a131 : zi c' 131 = zi c 131) (l134 : zl c' 134 = zl c 134) (l135 : zl c' 135 = zl c 135) (l136 : zl c' 136 = zl c 136) (l137 : zl c' 137 = zl c 137) (e7 : V'.1 7 = V.1 7) (e35 : V'.1 35 = V.1 35) (e36 : V'.1 36 = V.1 36) (e37 : V'.1 37 = V.1 37) (e38 : V'.1 38 = V.1 38) (e39 : V'.1 39 = V.1 39) (e40 : V'.1 40 = V.1 40) (e41 : V'.1 41 = V.1 41) (e42 : V'.1 42 = V.1 42) (g43 : V'.2 43 = V.2 43) (g44 : V'.2 44 = V.2 44) (h : R10 A c V ms) : R10 A c' V' ms := by
  unfold R10 at h ⊢
  first | (simp only [tN, rN, fN, tr, sr, sp, pl, wN, st, cov, a125, a126, a127, a128, a129, a130, a131, l134, l135, l136, l137, e7, e35, e36, e37, e38, e39, e40, e41, e42, g43, g44] at h ⊢; exact h) | (simp only [tN, rN, fN, tr, sr, sp, pl, wN, st, cov, a125, a126, a127, a128, a129, a130, a131, l134, l135, l136, l137, e7, e35, e36, e37, e38, e39, e40, e41, e42, g43, g44]; exact h)
theorem C11 (h : RC K A c V ms) : R11 A c V := h.2.2.2.2.2.2.2.2.2.2.2.1
theorem R11_c (a65 : zi c' 65 = zi c 65) (e7 : V'.1 7 = V.1 7) (e9 : V'.1 9 = V.1 9) (e27 : V'.1 27 = V.1 27) (e35 : V'.1 35 = V.1 35) (h : R11 A c V) : R11 A c' V' := by
  unfold R11 at h ⊢
  first | (simp only [tN, rN, fN, tr, sr, sp, pl, wN, st, cov, a65, e7, e9, e27, e35] at h ⊢; exact h) | (simp only [tN, rN, fN, tr, sr, sp, pl, wN, st, cov, a65, e7, e9, e27, e35]; exact h)
theorem C12 (h : RC K A c V ms) : R12 A c V ms := h.2.2.2.2.2.2.2.2.2.2.2.2.1
theorem R12_c (a132 : zi c' 132 = zi c 132) (a133 : zi c' 133 = zi c 133) (e8 : V'.1 8 = V.1 8) (e27 : V'.1 27 = V.1 27) (e35 : V'.1 35 = V.1 35) (h : R12 A c V ms) : R12 A c' V' ms := by
  unfold R12 at h ⊢
  first | (simp only [tN, rN, fN, tr, sr, sp, pl, wN, st, cov, a132, a133, e8, e27, e35] at h ⊢; exact h) | (simp only [tN, rN, fN, tr, sr, sp, pl, wN, st, cov, a132, a133, e8, e27, e35]; exact h)
theorem C13 (h : RC K A c V ms) : R13 A c V := h.2.2.2.2.2.2.2.2.2.2.2.2.2.1
theorem R13_c (r148 : zr c' 148 = zr c 148) (e10 : V'.1 10 = V.1 10) (e27 : V'.1 27 = V.1 27) (e28 : V'.1 28 = V.1 28) (e29 : V'.1 29 = V.1 29) (e35 : V'.1 35 = V.1 35) (h : R13 A c V) : R13 A c' V' := by
  unfold R13 at h ⊢
  first | (simp only [tN, rN, fN, tr, sr, sp, pl, wN, st, cov, r148, e10, e27, e28, e29, e35] at h ⊢; exact h) | (simp only [tN, rN, fN, tr, sr, sp, pl, wN, st, cov, r148, e10, e27, e28, e29, e35]; exact h)
theorem C14 (h : RC K A c V ms) : R14 A c V := h.2.2.2.2.2.2.2.2.2.2.2.2.2.2.1
theorem R14_c (r146 : zr c' 146 = zr c 146) (e11 : V'.1 11 = V.1 11) (e35 : V'.1 35 = V.1 35) (h : R14 A c V) : R14 A c' V' := by
  have eN : tN V' = tN V := by unfold tN; rw [e35]
  have eR : rkI V' = rkI V := by funext t; unfold rkI; rw [e11]
  unfold R14 at h ⊢
  rw [eN, eR, r146]; exact h
theorem C15 (h : RC K A c V ms) : R15 A c V := h.2.2.2.2.2.2.2.2.2.2.2.2.2.2.2
theorem R15_c (a47 : zi c' 47 = zi c 47) (e35 : V'.1 35 = V.1 35) (e60 : V'.1 60 = V.1 60) (h : R15 A c V) : R15 A c' V' := by
  unfold R15 at h ⊢
  first | (simp only [tN, rN, fN, tr, sr, sp, pl, wN, st, cov, a47, e35, e60] at h ⊢; exact h) | (simp only [tN, rN, fN, tr, sr, sp, pl, wN, st, cov, a47, e35, e60]; exact h)
theorem rt_82_4 (h : RC K A c V ms) {j : Nat} (hj : j < tN V) : zi c 82 (A 4 j) 0 = V.1 10 j := C5 h (82, 4, 10) (by decide) j hj
theorem rt_86_4 (h : RC K A c V ms) {j : Nat} (hj : j < tN V) : zi c 86 (A 4 j) 0 = V.1 8 j := C5 h (86, 4, 8) (by decide) j hj
theorem rt_87_4 (h : RC K A c V ms) {j : Nat} (hj : j < tN V) : zi c 87 (A 4 j) 0 = V.1 11 j := C5 h (87, 4, 11) (by decide) j hj
theorem rt_88_4 (h : RC K A c V ms) {j : Nat} (hj : j < tN V) : zi c 88 (A 4 j) 0 = V.1 15 j := C5 h (88, 4, 15) (by decide) j hj
theorem rt_89_4 (h : RC K A c V ms) {j : Nat} (hj : j < tN V) : zi c 89 (A 4 j) 0 = V.1 20 j := C5 h (89, 4, 20) (by decide) j hj
theorem rt_90_4 (h : RC K A c V ms) {j : Nat} (hj : j < tN V) : zi c 90 (A 4 j) 0 = V.1 31 j := C5 h (90, 4, 31) (by decide) j hj
theorem rt_91_4 (h : RC K A c V ms) {j : Nat} (hj : j < tN V) : zi c 91 (A 4 j) 0 = V.1 32 j := C5 h (91, 4, 32) (by decide) j hj
theorem rt_92_4 (h : RC K A c V ms) {j : Nat} (hj : j < tN V) : zi c 92 (A 4 j) 0 = V.1 33 j := C5 h (92, 4, 33) (by decide) j hj
theorem rt_20_5 (h : RC K A c V ms) {j : Nat} (hj : j < tN V) : zi c 20 (A 5 j) 0 = V.1 12 j := C5 h (20, 5, 12) (by decide) j hj
theorem rt_21_5 (h : RC K A c V ms) {j : Nat} (hj : j < tN V) : zi c 21 (A 5 j) 0 = V.1 13 j := C5 h (21, 5, 13) (by decide) j hj
theorem rt_22_5 (h : RC K A c V ms) {j : Nat} (hj : j < tN V) : zi c 22 (A 5 j) 0 = V.1 14 j := C5 h (22, 5, 14) (by decide) j hj
theorem rt_102_6 (h : RC K A c V ms) {j : Nat} (hj : j < tN V) : zi c 102 (A 6 j) 0 = V.1 18 j := C5 h (102, 6, 18) (by decide) j hj
theorem rt_103_6 (h : RC K A c V ms) {j : Nat} (hj : j < tN V) : zi c 103 (A 6 j) 0 = V.1 19 j := C5 h (103, 6, 19) (by decide) j hj
theorem rt_41_9 (h : RC K A c V ms) {j : Nat} (hj : j < tN V) : zi c 41 (A 9 j) 0 = V.1 30 j := C5 h (41, 9, 30) (by decide) j hj
theorem rt_42_9 (h : RC K A c V ms) {j : Nat} (hj : j < tN V) : zi c 42 (A 9 j) 0 = V.1 21 j := C5 h (42, 9, 21) (by decide) j hj
theorem rt_44_9 (h : RC K A c V ms) {j : Nat} (hj : j < tN V) : zi c 44 (A 9 j) 0 = V.1 23 j := C5 h (44, 9, 23) (by decide) j hj
theorem rt_45_9 (h : RC K A c V ms) {j : Nat} (hj : j < tN V) : zi c 45 (A 9 j) 0 = V.1 24 j := C5 h (45, 9, 24) (by decide) j hj
theorem rt_46_9 (h : RC K A c V ms) {j : Nat} (hj : j < tN V) : zi c 46 (A 9 j) 0 = V.1 25 j := C5 h (46, 9, 25) (by decide) j hj
theorem rt_20_10 (h : RC K A c V ms) {j : Nat} (hj : j < tN V) : zi c 20 (A 10 j) 0 = V.1 27 j := C5 h (20, 10, 27) (by decide) j hj
theorem rt_21_10 (h : RC K A c V ms) {j : Nat} (hj : j < tN V) : zi c 21 (A 10 j) 0 = V.1 28 j := C5 h (21, 10, 28) (by decide) j hj
theorem rt_22_10 (h : RC K A c V ms) {j : Nat} (hj : j < tN V) : zi c 22 (A 10 j) 0 = V.1 29 j := C5 h (22, 10, 29) (by decide) j hj
theorem tbl_1 : ∀ q, q ∈ tbl → ∀ q', q' ∈ tbl → q.1 = q'.1 → q.2.1 = q'.2.1 → q = q' := by decide
theorem tbl_2 : ∀ q, q ∈ tbl → ∀ q', q' ∈ tbl → q.2.2 = q'.2.2 → q = q' := by decide
/-- a row of the table, changed on both sides -/
theorem R5_u (hA : Ai A) {f k m t : Nat} {v : Int32} (hq : (f, k, m) ∈ tbl) (hz : ∀ g a, zi c' g a 0 = if g = f ∧ a = A k t then v else zi c g a 0) (h1 : V'.1 = (uV V m t v).1) (hm : m ≠ 35) (h : R5 A c V) : R5 A c' V' := by
  have eN : tN V' = tN V := by unfold tN; rw [h1, uV_o (Ne.symm hm)]
  intro q hq2 j hj
  rw [eN] at hj
  rw [hz, h1, uV_1]
  by_cases e : q = (f, k, m)
  · subst e
    by_cases e2 : j = t
    · subst e2; rw [if_pos ⟨rfl, rfl⟩, if_pos ⟨rfl, rfl⟩]
    · rw [if_neg (fun x => e2 (hA _ _ _ _ x.2).2), if_neg (fun x => e2 x.2)]; exact h _ hq2 j hj
  · rw [if_neg (fun x => e (tbl_1 q hq2 _ hq x.1 (hA _ _ _ _ x.2).1)), if_neg (fun x => e (tbl_2 q hq2 _ hq x.1))]
    exact h _ hq2 j hj
theorem R5_u1 (hA : Ai A) {f k m t : Nat} {v : Int32} (hq : (f, k, m) ∈ tbl) (hm : m ≠ 35) (h : R5 A c V) : R5 A (zui c f (A k t) 0 v) (uV V m t v) :=
  R5_u hA hq (fun g a => by rw [zi_zui]; by_cases h1 : g = f ∧ a = A k t
                            · rw [if_pos ⟨h1.1, h1.2, rfl⟩, if_pos h1]
                            · rw [if_neg (fun x => h1 ⟨x.1, x.2.1⟩), if_neg h1]) rfl hm h
theorem kn_120 (h : RC K A c V ms) {α : Type} (f : Nat → Option α) : zn K (zr c 120 ms 0) 11 f = f (A 11 0) := by rw [(C2 h).1]; exact zn_s ((C1 h).2.2.2.1)
theorem kn_121 (h : RC K A c V ms) {α : Type} (f : Nat → Option α) : zn K (zr c 121 ms 0) 12 f = f (A 12 0) := by rw [(C2 h).2.1]; exact zn_s ((C1 h).2.2.2.2.1)
theorem kn_122 (h : RC K A c V ms) {α : Type} (f : Nat → Option α) : zn K (zr c 122 ms 0) 13 f = f (A 13 0) := by rw [(C2 h).2.2.1]; exact zn_s ((C1 h).2.2.2.2.2.1)
theorem kn_123 (h : RC K A c V ms) {α : Type} (f : Nat → Option α) : zn K (zr c 123 ms 0) 14 f = f (A 14 0) := by rw [(C2 h).2.2.2.1]; exact zn_s ((C1 h).2.2.2.2.2.2.1)
theorem kn_124 (h : RC K A c V ms) {α : Type} (f : Nat → Option α) : zn K (zr c 124 ms 0) 15 f = f (A 15 0) := by rw [(C2 h).2.2.2.2.1]; exact zn_s ((C1 h).2.2.2.2.2.2.2)
theorem kn_143 (h : RC K A c V ms) {i : Nat} (hi : i < 40) {α : Type} (f : Nat → Option α) : zn K (zr c 143 (A 11 0) i) 0 f = f (A 0 i) := by rw [((C2 h).2.2.2.2.2 i hi).1]; exact zn_s (((C1 h).1 i hi).1)
theorem kn_0 (h : RC K A c V ms) {i : Nat} (hi : i < 40) {α : Type} (f : Nat → Option α) : zn K (zr c 0 (A 0 i) 0) 8 f = f (A 1 i) := by rw [((C2 h).2.2.2.2.2 i hi).2.1]; exact zn_s (((C1 h).1 i hi).2.1)
theorem kn_1 (h : RC K A c V ms) {i : Nat} (hi : i < 40) {α : Type} (f : Nat → Option α) : zn K (zr c 1 (A 0 i) 0) 16 f = f (A 2 i) := by rw [((C2 h).2.2.2.2.2 i hi).2.2]; exact zn_s (((C1 h).1 i hi).2.2)
theorem kn_144 (h : RC K A c V ms) {j : Nat} (hj : j < rN V) (h2 : j < 20) {α : Type} (f : Nat → Option α) : zn K (zr c 144 (A 12 0) j) 3 f = f (A 3 j) := by rw [(C3 h).1 j h2, if_pos hj]; exact zn_s ((C1 h).2.1 j hj)
theorem kn_145 (h : RC K A c V ms) {j : Nat} (hj : j < tN V) (h2 : j < 200) {α : Type} (f : Nat → Option α) : zn K (zr c 145 (A 13 0) j) 4 f = f (A 4 j) := by rw [(C3 h).2 j h2, if_pos hj]; exact zn_s (((C1 h).2.2.1 j hj).1)
theorem kn_81 (h : RC K A c V ms) (hW : WB V) {j : Nat} (hj : j < tN V) {α : Type} (f : Nat → Option α) : zn K (zr c 81 (A 4 j) 0) 3 f = f (A 3 (tr V j)) := by rw [(C4 h j hj).1]; exact zn_s ((C1 h).2.1 _ (WB_5 hW hj).2)
theorem kn_83 (h : RC K A c V ms) {j : Nat} (hj : j < tN V) {α : Type} (f : Nat → Option α) : zn K (zr c 83 (A 4 j) 0) 1 f = f (A 5 j) := by rw [(C4 h j hj).2.1]; exact zn_s (((C1 h).2.2.1 j hj).2.1)
theorem kn_84 (h : RC K A c V ms) {j : Nat} (hj : j < tN V) {α : Type} (f : Nat → Option α) : zn K (zr c 84 (A 4 j) 0) 5 f = f (A 6 j) := by rw [(C4 h j hj).2.2.1]; exact zn_s (((C1 h).2.2.1 j hj).2.2.1)
theorem kn_85 (h : RC K A c V ms) {j : Nat} (hj : j < tN V) {α : Type} (f : Nat → Option α) : zn K (zr c 85 (A 4 j) 0) 2 f = f (A 9 j) := by rw [(C4 h j hj).2.2.2.1]; exact zn_s (((C1 h).2.2.1 j hj).2.2.2.2.2.1)
theorem kn_40 (h : RC K A c V ms) {j : Nat} (hj : j < tN V) {α : Type} (f : Nat → Option α) : zn K (zr c 40 (A 9 j) 0) 1 f = f (A 10 j) := by rw [(C4 h j hj).2.2.2.2.1]; exact zn_s (((C1 h).2.2.1 j hj).2.2.2.2.2.2)
theorem kn_100 (h : RC K A c V ms) {j : Nat} (hj : j < tN V) {α : Type} (f : Nat → Option α) : zn K (zr c 100 (A 6 j) 0) 9 f = f (A 7 j) := by rw [(C4 h j hj).2.2.2.2.2.1]; exact zn_s (((C1 h).2.2.1 j hj).2.2.2.1)
theorem kn_101 (h : RC K A c V ms) {j : Nat} (hj : j < tN V) {α : Type} (f : Nat → Option α) : zn K (zr c 101 (A 6 j) 0) 10 f = f (A 8 j) := by rw [(C4 h j hj).2.2.2.2.2.2]; exact zn_s (((C1 h).2.2.1 j hj).2.2.2.2.1)
theorem K4 (h : RC K A c V ms) {j : Nat} (hj : j < tN V) : K (A 4 j) = 4 := ((C1 h).2.2.1 j hj).1
theorem A4 (h : RC K A c V ms) {j k : Nat} : (A 4 j = A 4 k) = (j = k) := propext ⟨fun e => (h.1 _ _ _ _ e).2, fun e => by rw [e]⟩
end RW
/-! the line alone is written -/
def Fl (c c' : zS) : Prop := c'.1 = c.1 ∧ c'.2.1 = c.2.1 ∧ ∀ f, f ≠ 147 → c'.2.2 f = c.2.2 f
theorem Fl_rf {c : zS} : Fl c c := ⟨rfl, rfl, fun _ _ => rfl⟩
theorem Fl_tr {c c1 c2 : zS} (h : Fl c c1) (h2 : Fl c1 c2) : Fl c c2 := ⟨h2.1.trans h.1, h2.2.1.trans h.2.1, fun f hf => (h2.2.2 f hf).trans (h.2.2 f hf)⟩
theorem Fl_up {c : zS} {a j : Nat} {v : Option Nat} : Fl c (zur c 147 a j v) := ⟨rfl, rfl, fun f hf => by funext b k; exact if_neg (fun x => hf x.1)⟩
theorem Fl_zi {c c1 : zS} (h : Fl c c1) (f : Nat) : zi c1 f = zi c f := by unfold zi; rw [h.1]
theorem Fl_zl {c c1 : zS} (h : Fl c c1) (f : Nat) : zl c1 f = zl c f := by unfold zl; rw [h.2.1]
theorem Fl_zr {c c1 : zS} (h : Fl c c1) (f : Nat) (hf : f ≠ 147) : zr c1 f = zr c f := h.2.2 f hf
theorem RC_Fl {K : Nat → Nat} {A : Nat → Nat → Nat} {c c1 : zS} {V : zV} {ms : Nat} (h : RC K A c V ms) (hf : Fl c c1) : RC K A c1 V ms := ⟨h.1, R1_c rfl rfl (C1 h), R2_c (Fl_zr hf 0 (by decide)) (Fl_zr hf 1 (by decide)) (Fl_zr hf 120 (by decide)) (Fl_zr hf 121 (by decide)) (Fl_zr hf 122 (by decide)) (Fl_zr hf 123 (by decide)) (Fl_zr hf 124 (by decide)) (Fl_zr hf 143 (by decide)) (C2 h), R3_c (Fl_zr hf 144 (by decide)) (Fl_zr hf 145 (by decide)) rfl rfl (C3 h), R4_c (Fl_zr hf 40 (by decide)) (Fl_zr hf 81 (by decide)) (Fl_zr hf 83 (by decide)) (Fl_zr hf 84 (by decide)) (Fl_zr hf 85 (by decide)) (Fl_zr hf 100 (by decide)) (Fl_zr hf 101 (by decide)) rfl rfl (C4 h), R5_c (Fl_zi hf 20) (Fl_zi hf 21) (Fl_zi hf 22) (Fl_zi hf 41) (Fl_zi hf 42) (Fl_zi hf 44) (Fl_zi hf 45) (Fl_zi hf 46) (Fl_zi hf 82) (Fl_zi hf 86) (Fl_zi hf 87) (Fl_zi hf 88) (Fl_zi hf 89) (Fl_zi hf 90) (Fl_zi hf 91) (Fl_zi hf 92) (Fl_zi hf 102) (Fl_zi hf 103) rfl rfl rfl rfl rfl rfl rfl rfl rfl rfl rfl rfl rfl rfl rfl rfl rfl rfl rfl rfl rfl rfl (C5 h), R6_c (Fl_zi hf 141) (Fl_zi hf 142) rfl rfl rfl (C6 h), R7_c (Fl_zi hf 2) (Fl_zi hf 140) rfl rfl (C7 h), R8_c (Fl_zi hf 60) (Fl_zi hf 61) (Fl_zi hf 62) (Fl_zi hf 63) (Fl_zi hf 64) rfl rfl rfl rfl rfl (C8 h), R9_c (Fl_zi hf 43) (Fl_zi hf 80) (Fl_zl hf 93) rfl rfl rfl rfl (C9 h), R10_c (Fl_zi hf 125) (Fl_zi hf 126) (Fl_zi hf 127) (Fl_zi hf 128) (Fl_zi hf 129) (Fl_zi hf 130) (Fl_zi hf 131) (Fl_zl hf 134) (Fl_zl hf 135) (Fl_zl hf 136) (Fl_zl hf 137) rfl rfl rfl rfl rfl rfl rfl rfl rfl rfl rfl (C10 h), R11_c (Fl_zi hf 65) rfl rfl rfl rfl (C11 h), R12_c (Fl_zi hf 132) (Fl_zi hf 133) rfl rfl rfl (C12 h), R13_c (Fl_zr hf 148 (by decide)) rfl rfl rfl rfl rfl (C13 h), R14_c (Fl_zr hf 146 (by decide)) rfl rfl (C14 h), R15_c (Fl_zi hf 47) rfl rfl (C15 h)⟩
