/-! THE PURE PART. zV: the state by the reference's slots: V.1 k t (numbers), V.2 k t (sums); what both sides hold, apart from addresses. -/
abbrev zV : Type := (Nat → Nat → Int32) × (Nat → Nat → Int64)
def uV (V : zV) (k t : Nat) (v : Int32) : zV := (fun k' t' => if k' = k ∧ t' = t then v else V.1 k' t', V.2)
def uL (V : zV) (k t : Nat) (v : Int64) : zV := (V.1, fun k' t' => if k' = k ∧ t' = t then v else V.2 k' t')
theorem uV_1 (V : zV) (k t : Nat) (v : Int32) (k' t' : Nat) : (uV V k t v).1 k' t' = if k' = k ∧ t' = t then v else V.1 k' t' := rfl
theorem uV_2 (V : zV) (k t : Nat) (v : Int32) : (uV V k t v).2 = V.2 := rfl
theorem uL_1 (V : zV) (k t : Nat) (v : Int64) : (uL V k t v).1 = V.1 := rfl
theorem uL_2 (V : zV) (k t : Nat) (v : Int64) (k' t' : Nat) : (uL V k t v).2 k' t' = if k' = k ∧ t' = t then v else V.2 k' t' := rfl
theorem uV_o {V : zV} {k t : Nat} {v : Int32} {k' : Nat} (h : k' ≠ k) : (uV V k t v).1 k' = V.1 k' := by funext t'; rw [uV_1, if_neg (fun x => h x.1)]
theorem uV_s {V : zV} {k t : Nat} {v : Int32} : (uV V k t v).1 k t = v := if_pos ⟨rfl, rfl⟩
theorem uV_t {V : zV} {k t : Nat} {v : Int32} {t' : Nat} (h : t' ≠ t) : (uV V k t v).1 k t' = V.1 k t' := if_neg (fun x => h x.2)
theorem uV_self (V : zV) (k t : Nat) : uV V k t (V.1 k t) = V := by
  refine Prod.ext (funext fun k' => funext fun t' => ?_) rfl
  rw [uV_1]; split
  · rename_i h; rw [h.1, h.2]
  · rfl
theorem zV_ext {V W : zV} (h1 : ∀ k t, V.1 k t = W.1 k t) (h2 : ∀ k t, V.2 k t = W.2 k t) : V = W := Prod.ext (funext fun k => funext fun t => h1 k t) (funext fun k => funext fun t => h2 k t)
def scr (k : Nat) : Bool := k == 0 || k == 45 || k == 46 || k == 47 || k == 48 || k == 49 || k == 50 || k == 60
def arr (k : Nat) : Bool := Nat.ble 1 k && Nat.ble k 6 || Nat.ble 8 k && Nat.ble k 34 || k == 45 || k == 46 || k == 47 || k == 49 || k == 50
/-- the reference's view -/
def vr (ra : Nat → Nat) (mo : Nat) (r : zS) : zV := (fun k t => if scr k = true then 0 else if arr k = true then zi r (k + 100) (ra k) t else if k < 100 then zi r k mo t else 0, fun k t => if k = 34 then zl r 134 (ra 34) t else if k < 100 then zl r k mo t else 0)
def MS (K : Nat → Nat) (ra : Nat → Nat) (mo : Nat) (r : zS) : Prop := ∀ k, arr k = true → zr r k mo 0 = some (ra k) ∧ K (ra k) = k + 100
section VW
variable {K : Nat → Nat} {ra : Nat → Nat} {mo : Nat} {r : zS}
theorem zq (hM : MS K ra mo r) (k : Nat) (ha : arr k = true) {α : Type} (f : Nat → Option α) : zn K (zr r k mo 0) (k + 100) f = f (ra k) := by
  obtain ⟨h1, h2⟩ := hM k ha
  rw [h1]; exact if_pos h2
theorem arr_lt {k : Nat} (h : arr k = true) : k < 100 := by
  rcases Nat.lt_or_ge k 100 with h1 | h1
  · exact h1
  · exfalso
    have e : ∀ n, n < 100 → (k == n) = false := fun n hn => beq_eq_false_iff_ne.mpr (by omega)
    have e1 : Nat.ble k 6 = false := by rw [Bool.eq_false_iff]; intro h; have := Nat.le_of_ble_eq_true h; omega
    have e2 : Nat.ble k 34 = false := by rw [Bool.eq_false_iff]; intro h; have := Nat.le_of_ble_eq_true h; omega
    simp [arr, e1, e2, e] at h
theorem vr_ai (k : Nat) (ha : arr k = true) (hs : scr k = false) (t : Nat) (v : Int32) : vr ra mo (zui r (k + 100) (ra k) t v) = uV (vr ra mo r) k t v := by
  refine zV_ext (fun k' t' => ?_) (fun k' t' => rfl)
  rw [uV_1]
  show (if scr k' = true then (0 : Int32) else if arr k' = true then zi (zui r (k + 100) (ra k) t v) (k' + 100) (ra k') t' else if k' < 100 then zi (zui r (k + 100) (ra k) t v) k' mo t' else 0) = if k' = k ∧ t' = t then v else (if scr k' = true then (0 : Int32) else if arr k' = true then zi r (k' + 100) (ra k') t' else if k' < 100 then zi r k' mo t' else 0)
  by_cases hk : k' = k
  · subst hk
    by_cases ht : t' = t
    · subst ht; simp [hs, ha, zi_zui]
    · simp [hs, ha, zi_zui, ht]
  · have h2 : ¬ (k' + 100 = k + 100 ∧ ra k' = ra k ∧ t' = t) := fun h => hk (by omega)
    have h1 : ¬ (k' = k ∧ t' = t) := fun h => hk h.1
    rw [zi_zui, zi_zui, if_neg h2, if_neg h1]
    by_cases h4 : k' < 100
    · have h3 : ¬ (k' = k + 100 ∧ mo = ra k ∧ t' = t) := fun h => by omega
      rw [if_neg h3]
    · simp only [if_neg h4]
theorem vr_si (k : Nat) (ha : arr k = false) (hs : scr k = false) (hk1 : k < 100) (v : Int32) : vr ra mo (zui r k mo 0 v) = uV (vr ra mo r) k 0 v := by
  refine zV_ext (fun k' t' => ?_) (fun k' t' => rfl)
  rw [uV_1]
  show (if scr k' = true then (0 : Int32) else if arr k' = true then zi (zui r k mo 0 v) (k' + 100) (ra k') t' else if k' < 100 then zi (zui r k mo 0 v) k' mo t' else 0) = if k' = k ∧ t' = 0 then v else (if scr k' = true then (0 : Int32) else if arr k' = true then zi r (k' + 100) (ra k') t' else if k' < 100 then zi r k' mo t' else 0)
  by_cases hk : k' = k
  · subst hk
    by_cases ht : t' = 0
    · subst ht; simp [hs, ha, zi_zui, hk1]
    · simp [hs, ha, zi_zui, ht, hk1]
  · have h2 : ¬ (k' + 100 = k ∧ ra k' = mo ∧ t' = 0) := fun h => by omega
    have h1 : ¬ (k' = k ∧ t' = 0) := fun h => hk h.1
    have h3 : ¬ (k' = k ∧ mo = mo ∧ t' = 0) := fun h => hk h.1
    rw [zi_zui, zi_zui, if_neg h2, if_neg h1, if_neg h3]
theorem vr_xa (k : Nat) (hs : scr k = true) (hk1 : k < 100) (a t : Nat) (v : Int32) : vr ra mo (zui r (k + 100) a t v) = vr ra mo r := by
  refine zV_ext (fun k' t' => ?_) (fun k' t' => rfl)
  show (if scr k' = true then (0 : Int32) else if arr k' = true then zi (zui r (k + 100) a t v) (k' + 100) (ra k') t' else if k' < 100 then zi (zui r (k + 100) a t v) k' mo t' else 0) = (if scr k' = true then (0 : Int32) else if arr k' = true then zi r (k' + 100) (ra k') t' else if k' < 100 then zi r k' mo t' else 0)
  by_cases h1 : scr k' = true
  · simp only [if_pos h1]
  · have h2 : ¬ (k' + 100 = k + 100 ∧ ra k' = a ∧ t' = t) := fun h => h1 (by rw [show k' = k by omega]; exact hs)
    simp only [if_neg h1]
    rw [zi_zui, zi_zui, if_neg h2]
    by_cases h4 : k' < 100
    · have h3 : ¬ (k' = k + 100 ∧ mo = a ∧ t' = t) := fun h => by omega
      rw [if_neg h3]
    · simp only [if_neg h4]
theorem vr_xs (k : Nat) (hs : scr k = true) (hk1 : k < 100) (v : Int32) : vr ra mo (zui r k mo 0 v) = vr ra mo r := by
  refine zV_ext (fun k' t' => ?_) (fun k' t' => rfl)
  show (if scr k' = true then (0 : Int32) else if arr k' = true then zi (zui r k mo 0 v) (k' + 100) (ra k') t' else if k' < 100 then zi (zui r k mo 0 v) k' mo t' else 0) = (if scr k' = true then (0 : Int32) else if arr k' = true then zi r (k' + 100) (ra k') t' else if k' < 100 then zi r k' mo t' else 0)
  by_cases h1 : scr k' = true
  · simp only [if_pos h1]
  · have h2 : ¬ (k' + 100 = k ∧ ra k' = mo ∧ t' = 0) := fun h => by omega
    have h3 : ¬ (k' = k ∧ mo = mo ∧ t' = 0) := fun h => h1 (by rw [h.1]; exact hs)
    rw [zi_zui, zi_zui, if_neg h2, if_neg h3]
theorem vr_al (t : Nat) (v : Int64) : vr ra mo (zul r 134 (ra 34) t v) = uL (vr ra mo r) 34 t v := by
  refine zV_ext (fun k' t' => rfl) (fun k' t' => ?_)
  rw [uL_2]
  show (if k' = 34 then zl (zul r 134 (ra 34) t v) 134 (ra 34) t' else if k' < 100 then zl (zul r 134 (ra 34) t v) k' mo t' else 0) = if k' = 34 ∧ t' = t then v else (if k' = 34 then zl r 134 (ra 34) t' else if k' < 100 then zl r k' mo t' else 0)
  by_cases hk : k' = 34
  · subst hk
    by_cases ht : t' = t
    · subst ht; simp [zl_zul]
    · simp [zl_zul, ht]
  · have h1 : ¬ (k' = 34 ∧ t' = t) := fun h => hk h.1
    simp only [if_neg hk, if_neg h1]
    rw [zl_zul]
    by_cases h4 : k' < 100
    · have h3 : ¬ (k' = 134 ∧ mo = ra 34 ∧ t' = t) := fun h => by omega
      rw [if_neg h3]
    · simp only [if_neg h4]
theorem vr_sl (k : Nat) (hk4 : k ≠ 34) (hk1 : k < 100) (v : Int64) : vr ra mo (zul r k mo 0 v) = uL (vr ra mo r) k 0 v := by
  refine zV_ext (fun k' t' => rfl) (fun k' t' => ?_)
  rw [uL_2]
  show (if k' = 34 then zl (zul r k mo 0 v) 134 (ra 34) t' else if k' < 100 then zl (zul r k mo 0 v) k' mo t' else 0) = if k' = k ∧ t' = 0 then v else (if k' = 34 then zl r 134 (ra 34) t' else if k' < 100 then zl r k' mo t' else 0)
  by_cases hk : k' = 34
  · have h1 : ¬ (k' = k ∧ t' = 0) := fun h => hk4 (h.1.symm.trans hk)
    have h3 : ¬ (134 = k ∧ ra 34 = mo ∧ t' = 0) := fun h => by omega
    simp only [if_pos hk, if_neg h1]
    rw [zl_zul, if_neg h3]
  · simp only [if_neg hk]
    by_cases hk2 : k' = k
    · subst hk2
      by_cases ht : t' = 0
      · subst ht; simp [zl_zul, hk1]
      · simp [zl_zul, ht, hk1]
    · have h1 : ¬ (k' = k ∧ t' = 0) := fun h => hk2 h.1
      have h3 : ¬ (k' = k ∧ mo = mo ∧ t' = 0) := fun h => hk2 h.1
      rw [zl_zul, if_neg h3, if_neg h1]
theorem zq_1 (hM : MS K ra mo r) {α : Type} (f : Nat → Option α) : zn K (zr r 1 mo 0) 101 f = f (ra 1) := zq hM 1 rfl f
theorem rd_1 (t : Nat) : zi r 101 (ra 1) t = (vr ra mo r).1 1 t := rfl
theorem vw_1 (t : Nat) (v : Int32) : vr ra mo (zui r 101 (ra 1) t v) = uV (vr ra mo r) 1 t v := vr_ai 1 rfl rfl t v
theorem zq_2 (hM : MS K ra mo r) {α : Type} (f : Nat → Option α) : zn K (zr r 2 mo 0) 102 f = f (ra 2) := zq hM 2 rfl f
theorem rd_2 (t : Nat) : zi r 102 (ra 2) t = (vr ra mo r).1 2 t := rfl
theorem vw_2 (t : Nat) (v : Int32) : vr ra mo (zui r 102 (ra 2) t v) = uV (vr ra mo r) 2 t v := vr_ai 2 rfl rfl t v
theorem zq_3 (hM : MS K ra mo r) {α : Type} (f : Nat → Option α) : zn K (zr r 3 mo 0) 103 f = f (ra 3) := zq hM 3 rfl f
theorem rd_3 (t : Nat) : zi r 103 (ra 3) t = (vr ra mo r).1 3 t := rfl
theorem vw_3 (t : Nat) (v : Int32) : vr ra mo (zui r 103 (ra 3) t v) = uV (vr ra mo r) 3 t v := vr_ai 3 rfl rfl t v
theorem zq_4 (hM : MS K ra mo r) {α : Type} (f : Nat → Option α) : zn K (zr r 4 mo 0) 104 f = f (ra 4) := zq hM 4 rfl f
theorem rd_4 (t : Nat) : zi r 104 (ra 4) t = (vr ra mo r).1 4 t := rfl
theorem vw_4 (t : Nat) (v : Int32) : vr ra mo (zui r 104 (ra 4) t v) = uV (vr ra mo r) 4 t v := vr_ai 4 rfl rfl t v
theorem zq_5 (hM : MS K ra mo r) {α : Type} (f : Nat → Option α) : zn K (zr r 5 mo 0) 105 f = f (ra 5) := zq hM 5 rfl f
theorem rd_5 (t : Nat) : zi r 105 (ra 5) t = (vr ra mo r).1 5 t := rfl
theorem vw_5 (t : Nat) (v : Int32) : vr ra mo (zui r 105 (ra 5) t v) = uV (vr ra mo r) 5 t v := vr_ai 5 rfl rfl t v
theorem zq_6 (hM : MS K ra mo r) {α : Type} (f : Nat → Option α) : zn K (zr r 6 mo 0) 106 f = f (ra 6) := zq hM 6 rfl f
theorem rd_6 (t : Nat) : zi r 106 (ra 6) t = (vr ra mo r).1 6 t := rfl
theorem vw_6 (t : Nat) (v : Int32) : vr ra mo (zui r 106 (ra 6) t v) = uV (vr ra mo r) 6 t v := vr_ai 6 rfl rfl t v
theorem zq_8 (hM : MS K ra mo r) {α : Type} (f : Nat → Option α) : zn K (zr r 8 mo 0) 108 f = f (ra 8) := zq hM 8 rfl f
theorem rd_8 (t : Nat) : zi r 108 (ra 8) t = (vr ra mo r).1 8 t := rfl
theorem vw_8 (t : Nat) (v : Int32) : vr ra mo (zui r 108 (ra 8) t v) = uV (vr ra mo r) 8 t v := vr_ai 8 rfl rfl t v
theorem zq_9 (hM : MS K ra mo r) {α : Type} (f : Nat → Option α) : zn K (zr r 9 mo 0) 109 f = f (ra 9) := zq hM 9 rfl f
theorem rd_9 (t : Nat) : zi r 109 (ra 9) t = (vr ra mo r).1 9 t := rfl
theorem vw_9 (t : Nat) (v : Int32) : vr ra mo (zui r 109 (ra 9) t v) = uV (vr ra mo r) 9 t v := vr_ai 9 rfl rfl t v
theorem zq_10 (hM : MS K ra mo r) {α : Type} (f : Nat → Option α) : zn K (zr r 10 mo 0) 110 f = f (ra 10) := zq hM 10 rfl f
theorem rd_10 (t : Nat) : zi r 110 (ra 10) t = (vr ra mo r).1 10 t := rfl
theorem vw_10 (t : Nat) (v : Int32) : vr ra mo (zui r 110 (ra 10) t v) = uV (vr ra mo r) 10 t v := vr_ai 10 rfl rfl t v
theorem zq_11 (hM : MS K ra mo r) {α : Type} (f : Nat → Option α) : zn K (zr r 11 mo 0) 111 f = f (ra 11) := zq hM 11 rfl f
theorem rd_11 (t : Nat) : zi r 111 (ra 11) t = (vr ra mo r).1 11 t := rfl
theorem vw_11 (t : Nat) (v : Int32) : vr ra mo (zui r 111 (ra 11) t v) = uV (vr ra mo r) 11 t v := vr_ai 11 rfl rfl t v
theorem zq_12 (hM : MS K ra mo r) {α : Type} (f : Nat → Option α) : zn K (zr r 12 mo 0) 112 f = f (ra 12) := zq hM 12 rfl f
theorem rd_12 (t : Nat) : zi r 112 (ra 12) t = (vr ra mo r).1 12 t := rfl
theorem vw_12 (t : Nat) (v : Int32) : vr ra mo (zui r 112 (ra 12) t v) = uV (vr ra mo r) 12 t v := vr_ai 12 rfl rfl t v
theorem zq_13 (hM : MS K ra mo r) {α : Type} (f : Nat → Option α) : zn K (zr r 13 mo 0) 113 f = f (ra 13) := zq hM 13 rfl f
theorem rd_13 (t : Nat) : zi r 113 (ra 13) t = (vr ra mo r).1 13 t := rfl
theorem vw_13 (t : Nat) (v : Int32) : vr ra mo (zui r 113 (ra 13) t v) = uV (vr ra mo r) 13 t v := vr_ai 13 rfl rfl t v
theorem zq_14 (hM : MS K ra mo r) {α : Type} (f : Nat → Option α) : zn K (zr r 14 mo 0) 114 f = f (ra 14) := zq hM 14 rfl f
theorem rd_14 (t : Nat) : zi r 114 (ra 14) t = (vr ra mo r).1 14 t := rfl
theorem vw_14 (t : Nat) (v : Int32) : vr ra mo (zui r 114 (ra 14) t v) = uV (vr ra mo r) 14 t v := vr_ai 14 rfl rfl t v
theorem zq_15 (hM : MS K ra mo r) {α : Type} (f : Nat → Option α) : zn K (zr r 15 mo 0) 115 f = f (ra 15) := zq hM 15 rfl f
theorem rd_15 (t : Nat) : zi r 115 (ra 15) t = (vr ra mo r).1 15 t := rfl
theorem vw_15 (t : Nat) (v : Int32) : vr ra mo (zui r 115 (ra 15) t v) = uV (vr ra mo r) 15 t v := vr_ai 15 rfl rfl t v
theorem zq_16 (hM : MS K ra mo r) {α : Type} (f : Nat → Option α) : zn K (zr r 16 mo 0) 116 f = f (ra 16) := zq hM 16 rfl f
theorem rd_16 (t : Nat) : zi r 116 (ra 16) t = (vr ra mo r).1 16 t := rfl
theorem vw_16 (t : Nat) (v : Int32) : vr ra mo (zui r 116 (ra 16) t v) = uV (vr ra mo r) 16 t v := vr_ai 16 rfl rfl t v
theorem zq_17 (hM : MS K ra mo r) {α : Type} (f : Nat → Option α) : zn K (zr r 17 mo 0) 117 f = f (ra 17) := zq hM 17 rfl f
theorem rd_17 (t : Nat) : zi r 117 (ra 17) t = (vr ra mo r).1 17 t := rfl
theorem vw_17 (t : Nat) (v : Int32) : vr ra mo (zui r 117 (ra 17) t v) = uV (vr ra mo r) 17 t v := vr_ai 17 rfl rfl t v
theorem zq_18 (hM : MS K ra mo r) {α : Type} (f : Nat → Option α) : zn K (zr r 18 mo 0) 118 f = f (ra 18) := zq hM 18 rfl f
theorem rd_18 (t : Nat) : zi r 118 (ra 18) t = (vr ra mo r).1 18 t := rfl
theorem vw_18 (t : Nat) (v : Int32) : vr ra mo (zui r 118 (ra 18) t v) = uV (vr ra mo r) 18 t v := vr_ai 18 rfl rfl t v
theorem zq_19 (hM : MS K ra mo r) {α : Type} (f : Nat → Option α) : zn K (zr r 19 mo 0) 119 f = f (ra 19) := zq hM 19 rfl f
theorem rd_19 (t : Nat) : zi r 119 (ra 19) t = (vr ra mo r).1 19 t := rfl
theorem vw_19 (t : Nat) (v : Int32) : vr ra mo (zui r 119 (ra 19) t v) = uV (vr ra mo r) 19 t v := vr_ai 19 rfl rfl t v
theorem zq_20 (hM : MS K ra mo r) {α : Type} (f : Nat → Option α) : zn K (zr r 20 mo 0) 120 f = f (ra 20) := zq hM 20 rfl f
theorem rd_20 (t : Nat) : zi r 120 (ra 20) t = (vr ra mo r).1 20 t := rfl
theorem vw_20 (t : Nat) (v : Int32) : vr ra mo (zui r 120 (ra 20) t v) = uV (vr ra mo r) 20 t v := vr_ai 20 rfl rfl t v
theorem zq_21 (hM : MS K ra mo r) {α : Type} (f : Nat → Option α) : zn K (zr r 21 mo 0) 121 f = f (ra 21) := zq hM 21 rfl f
theorem rd_21 (t : Nat) : zi r 121 (ra 21) t = (vr ra mo r).1 21 t := rfl
theorem vw_21 (t : Nat) (v : Int32) : vr ra mo (zui r 121 (ra 21) t v) = uV (vr ra mo r) 21 t v := vr_ai 21 rfl rfl t v
theorem zq_22 (hM : MS K ra mo r) {α : Type} (f : Nat → Option α) : zn K (zr r 22 mo 0) 122 f = f (ra 22) := zq hM 22 rfl f
theorem rd_22 (t : Nat) : zi r 122 (ra 22) t = (vr ra mo r).1 22 t := rfl
theorem vw_22 (t : Nat) (v : Int32) : vr ra mo (zui r 122 (ra 22) t v) = uV (vr ra mo r) 22 t v := vr_ai 22 rfl rfl t v
theorem zq_23 (hM : MS K ra mo r) {α : Type} (f : Nat → Option α) : zn K (zr r 23 mo 0) 123 f = f (ra 23) := zq hM 23 rfl f
theorem rd_23 (t : Nat) : zi r 123 (ra 23) t = (vr ra mo r).1 23 t := rfl
theorem vw_23 (t : Nat) (v : Int32) : vr ra mo (zui r 123 (ra 23) t v) = uV (vr ra mo r) 23 t v := vr_ai 23 rfl rfl t v
theorem zq_24 (hM : MS K ra mo r) {α : Type} (f : Nat → Option α) : zn K (zr r 24 mo 0) 124 f = f (ra 24) := zq hM 24 rfl f
theorem rd_24 (t : Nat) : zi r 124 (ra 24) t = (vr ra mo r).1 24 t := rfl
theorem vw_24 (t : Nat) (v : Int32) : vr ra mo (zui r 124 (ra 24) t v) = uV (vr ra mo r) 24 t v := vr_ai 24 rfl rfl t v
theorem zq_25 (hM : MS K ra mo r) {α : Type} (f : Nat → Option α) : zn K (zr r 25 mo 0) 125 f = f (ra 25) := zq hM 25 rfl f
theorem rd_25 (t : Nat) : zi r 125 (ra 25) t = (vr ra mo r).1 25 t := rfl
theorem vw_25 (t : Nat) (v : Int32) : vr ra mo (zui r 125 (ra 25) t v) = uV (vr ra mo r) 25 t v := vr_ai 25 rfl rfl t v
theorem zq_26 (hM : MS K ra mo r) {α : Type} (f : Nat → Option α) : zn K (zr r 26 mo 0) 126 f = f (ra 26) := zq hM 26 rfl f
theorem rd_26 (t : Nat) : zi r 126 (ra 26) t = (vr ra mo r).1 26 t := rfl
theorem vw_26 (t : Nat) (v : Int32) : vr ra mo (zui r 126 (ra 26) t v) = uV (vr ra mo r) 26 t v := vr_ai 26 rfl rfl t v
theorem zq_27 (hM : MS K ra mo r) {α : Type} (f : Nat → Option α) : zn K (zr r 27 mo 0) 127 f = f (ra 27) := zq hM 27 rfl f
theorem rd_27 (t : Nat) : zi r 127 (ra 27) t = (vr ra mo r).1 27 t := rfl
theorem vw_27 (t : Nat) (v : Int32) : vr ra mo (zui r 127 (ra 27) t v) = uV (vr ra mo r) 27 t v := vr_ai 27 rfl rfl t v
theorem zq_28 (hM : MS K ra mo r) {α : Type} (f : Nat → Option α) : zn K (zr r 28 mo 0) 128 f = f (ra 28) := zq hM 28 rfl f
theorem rd_28 (t : Nat) : zi r 128 (ra 28) t = (vr ra mo r).1 28 t := rfl
theorem vw_28 (t : Nat) (v : Int32) : vr ra mo (zui r 128 (ra 28) t v) = uV (vr ra mo r) 28 t v := vr_ai 28 rfl rfl t v
theorem zq_29 (hM : MS K ra mo r) {α : Type} (f : Nat → Option α) : zn K (zr r 29 mo 0) 129 f = f (ra 29) := zq hM 29 rfl f
theorem rd_29 (t : Nat) : zi r 129 (ra 29) t = (vr ra mo r).1 29 t := rfl
theorem vw_29 (t : Nat) (v : Int32) : vr ra mo (zui r 129 (ra 29) t v) = uV (vr ra mo r) 29 t v := vr_ai 29 rfl rfl t v
theorem zq_30 (hM : MS K ra mo r) {α : Type} (f : Nat → Option α) : zn K (zr r 30 mo 0) 130 f = f (ra 30) := zq hM 30 rfl f
theorem rd_30 (t : Nat) : zi r 130 (ra 30) t = (vr ra mo r).1 30 t := rfl
theorem vw_30 (t : Nat) (v : Int32) : vr ra mo (zui r 130 (ra 30) t v) = uV (vr ra mo r) 30 t v := vr_ai 30 rfl rfl t v
theorem zq_31 (hM : MS K ra mo r) {α : Type} (f : Nat → Option α) : zn K (zr r 31 mo 0) 131 f = f (ra 31) := zq hM 31 rfl f
theorem rd_31 (t : Nat) : zi r 131 (ra 31) t = (vr ra mo r).1 31 t := rfl
theorem vw_31 (t : Nat) (v : Int32) : vr ra mo (zui r 131 (ra 31) t v) = uV (vr ra mo r) 31 t v := vr_ai 31 rfl rfl t v
theorem zq_32 (hM : MS K ra mo r) {α : Type} (f : Nat → Option α) : zn K (zr r 32 mo 0) 132 f = f (ra 32) := zq hM 32 rfl f
theorem rd_32 (t : Nat) : zi r 132 (ra 32) t = (vr ra mo r).1 32 t := rfl
theorem vw_32 (t : Nat) (v : Int32) : vr ra mo (zui r 132 (ra 32) t v) = uV (vr ra mo r) 32 t v := vr_ai 32 rfl rfl t v
theorem zq_33 (hM : MS K ra mo r) {α : Type} (f : Nat → Option α) : zn K (zr r 33 mo 0) 133 f = f (ra 33) := zq hM 33 rfl f
theorem rd_33 (t : Nat) : zi r 133 (ra 33) t = (vr ra mo r).1 33 t := rfl
theorem vw_33 (t : Nat) (v : Int32) : vr ra mo (zui r 133 (ra 33) t v) = uV (vr ra mo r) 33 t v := vr_ai 33 rfl rfl t v
theorem zq_34 (hM : MS K ra mo r) {α : Type} (f : Nat → Option α) : zn K (zr r 34 mo 0) 134 f = f (ra 34) := zq hM 34 rfl f
theorem zq_45 (hM : MS K ra mo r) {α : Type} (f : Nat → Option α) : zn K (zr r 45 mo 0) 145 f = f (ra 45) := zq hM 45 rfl f
theorem vw_45 (t : Nat) (v : Int32) : vr ra mo (zui r 145 (ra 45) t v) = vr ra mo r := vr_xa 45 rfl (by decide) _ t v
theorem zq_46 (hM : MS K ra mo r) {α : Type} (f : Nat → Option α) : zn K (zr r 46 mo 0) 146 f = f (ra 46) := zq hM 46 rfl f
theorem vw_46 (t : Nat) (v : Int32) : vr ra mo (zui r 146 (ra 46) t v) = vr ra mo r := vr_xa 46 rfl (by decide) _ t v
theorem zq_47 (hM : MS K ra mo r) {α : Type} (f : Nat → Option α) : zn K (zr r 47 mo 0) 147 f = f (ra 47) := zq hM 47 rfl f
theorem vw_47 (t : Nat) (v : Int32) : vr ra mo (zui r 147 (ra 47) t v) = vr ra mo r := vr_xa 47 rfl (by decide) _ t v
theorem zq_49 (hM : MS K ra mo r) {α : Type} (f : Nat → Option α) : zn K (zr r 49 mo 0) 149 f = f (ra 49) := zq hM 49 rfl f
theorem vw_49 (t : Nat) (v : Int32) : vr ra mo (zui r 149 (ra 49) t v) = vr ra mo r := vr_xa 49 rfl (by decide) _ t v
theorem zq_50 (hM : MS K ra mo r) {α : Type} (f : Nat → Option α) : zn K (zr r 50 mo 0) 150 f = f (ra 50) := zq hM 50 rfl f
theorem vw_50 (t : Nat) (v : Int32) : vr ra mo (zui r 150 (ra 50) t v) = vr ra mo r := vr_xa 50 rfl (by decide) _ t v
theorem rd_7 : zi r 7 mo 0 = (vr ra mo r).1 7 0 := rfl
theorem vw_7 (v : Int32) : vr ra mo (zui r 7 mo 0 v) = uV (vr ra mo r) 7 0 v := vr_si 7 rfl rfl (by decide) v
theorem rd_35 : zi r 35 mo 0 = (vr ra mo r).1 35 0 := rfl
theorem vw_35 (v : Int32) : vr ra mo (zui r 35 mo 0 v) = uV (vr ra mo r) 35 0 v := vr_si 35 rfl rfl (by decide) v
theorem rd_36 : zi r 36 mo 0 = (vr ra mo r).1 36 0 := rfl
theorem vw_36 (v : Int32) : vr ra mo (zui r 36 mo 0 v) = uV (vr ra mo r) 36 0 v := vr_si 36 rfl rfl (by decide) v
theorem rd_37 : zi r 37 mo 0 = (vr ra mo r).1 37 0 := rfl
theorem vw_37 (v : Int32) : vr ra mo (zui r 37 mo 0 v) = uV (vr ra mo r) 37 0 v := vr_si 37 rfl rfl (by decide) v
theorem rd_38 : zi r 38 mo 0 = (vr ra mo r).1 38 0 := rfl
theorem vw_38 (v : Int32) : vr ra mo (zui r 38 mo 0 v) = uV (vr ra mo r) 38 0 v := vr_si 38 rfl rfl (by decide) v
theorem rd_39 : zi r 39 mo 0 = (vr ra mo r).1 39 0 := rfl
theorem vw_39 (v : Int32) : vr ra mo (zui r 39 mo 0 v) = uV (vr ra mo r) 39 0 v := vr_si 39 rfl rfl (by decide) v
theorem rd_40 : zi r 40 mo 0 = (vr ra mo r).1 40 0 := rfl
theorem vw_40 (v : Int32) : vr ra mo (zui r 40 mo 0 v) = uV (vr ra mo r) 40 0 v := vr_si 40 rfl rfl (by decide) v
theorem rd_41 : zi r 41 mo 0 = (vr ra mo r).1 41 0 := rfl
theorem vw_41 (v : Int32) : vr ra mo (zui r 41 mo 0 v) = uV (vr ra mo r) 41 0 v := vr_si 41 rfl rfl (by decide) v
theorem rd_42 : zi r 42 mo 0 = (vr ra mo r).1 42 0 := rfl
theorem vw_42 (v : Int32) : vr ra mo (zui r 42 mo 0 v) = uV (vr ra mo r) 42 0 v := vr_si 42 rfl rfl (by decide) v
theorem rd_43 : zl r 43 mo 0 = (vr ra mo r).2 43 0 := rfl
theorem vw_43 (v : Int64) : vr ra mo (zul r 43 mo 0 v) = uL (vr ra mo r) 43 0 v := vr_sl 43 (by decide) (by decide) v
theorem rd_44 : zl r 44 mo 0 = (vr ra mo r).2 44 0 := rfl
theorem vw_44 (v : Int64) : vr ra mo (zul r 44 mo 0 v) = uL (vr ra mo r) 44 0 v := vr_sl 44 (by decide) (by decide) v
theorem rd_34 (t : Nat) : zl r 134 (ra 34) t = (vr ra mo r).2 34 t := rfl
theorem vw_0 (v : Int32) : vr ra mo (zui r 0 mo 0 v) = vr ra mo r := vr_xs 0 rfl (by decide) v
theorem vw_48 (v : Int32) : vr ra mo (zui r 48 mo 0 v) = vr ra mo r := vr_xs 48 rfl (by decide) v
theorem MS_zui {f a j : Nat} {v : Int32} (h : MS K ra mo r) : MS K ra mo (zui r f a j v) := h
theorem MS_zul {f a j : Nat} {v : Int64} (h : MS K ra mo r) : MS K ra mo (zul r f a j v) := h
end VW
/-! the words, as rules to write on with -/
theorem zn_s {α : Type} {K : Nat → Nat} {a lab : Nat} {f : Nat → Option α} (h : K a = lab) : zn K (some a) lab f = f a := if_pos h
theorem zo_s {α : Type} {K : Nat → Nat} {a lab : Nat} {A : Option α} {f : Nat → Option α} (h : K a = lab) : zo K (some a) lab A f = f a := if_pos h
theorem zo_n {α : Type} {K : Nat → Nat} {lab : Nat} {A : Option α} {f : Nat → Option α} : zo K none lab A f = A := rfl
theorem zb_s {α β : Type} {v : α} {k : α → Option β} : zb (some v) k = k v := rfl
theorem zb2_s {α β γ : Type} {v : α} {w : β} {k : α → β → Option γ} : zb2 (some (v, w)) k = k v w := rfl
theorem zt_l {α β : Type} {v : α} {k : α → Option (β ⊕ Nat)} : zt (some (.inl v)) k = k v := rfl
theorem zt_r {α β : Type} {e : Nat} {k : α → Option (β ⊕ Nat)} : zt (some (.inr e)) k = some (.inr e) := rfl
theorem zz_0 {α : Type} {k : Option α} : zz 0 k = k := if_pos (Or.inl rfl)
theorem zz_1 {α : Type} {k : Option α} : zz 1 k = k := if_pos (Or.inr rfl)
theorem zz_p {α : Type} {v : Int32} {k : Option α} (h : v = 0 ∨ v = 1) : zz v k = k := if_pos h
theorem zx_nI {α : Type} {t n : Nat} {k : Option α} (h : t < n) (hn : n < 2 ^ 31) : zx (nI t) n k = k := if_neg (nI_in h hn)
theorem zx_2 {α : Type} {t : Nat} {k : Option α} (h : t < 200) : zx (nI t) 200 k = k := zx_nI h (by decide)
theorem zx_4 {α : Type} {t : Nat} {k : Option α} (h : t < 40) : zx (nI t) 40 k = k := zx_nI h (by decide)
theorem zx_20 {α : Type} {t : Nat} {k : Option α} (h : t < 20) : zx (nI t) 20 k = k := zx_nI h (by decide)
theorem zx_12 {α : Type} {t : Nat} {k : Option α} (h : t < 12) : zx (nI t) 12 k = k := zx_nI h (by decide)
theorem zx_400 {α : Type} {t : Nat} {k : Option α} (h : t < 400) : zx (nI t) 400 k = k := zx_nI h (by decide)
theorem zx_2400 {α : Type} {t : Nat} {k : Option α} (h : t < 2400) : zx (nI t) 2400 k = k := zx_nI h (by decide)
theorem zx_8000 {α : Type} {t : Nat} {k : Option α} (h : t < 8000) : zx (nI t) 8000 k = k := zx_nI h (by decide)
theorem zx_201 {α : Type} {t : Nat} {k : Option α} (h : t < 201) : zx (nI t) 201 k = k := zx_nI h (by decide)
theorem cl_ {t : Nat} (h : t < 8000) : (nI t).toNatClampNeg = t := nI_clamp (by omega)
theorem le_ {a b : Nat} (ha : a < 100000) (hb : b < 100000) : (nI a ≤ nI b) = (a ≤ b) := propext (nI_leI (by omega) (by omega))
theorem lt_ {a b : Nat} (ha : a < 100000) (hb : b < 100000) : (nI a < nI b) = (a < b) := propext (nI_ltI (by omega) (by omega))
theorem eq_ {a b : Nat} (ha : a < 100000) (hb : b < 100000) : (nI a = nI b) = (a = b) := propext (nI_eq (by omega) (by omega))
theorem iLE {α : Type} {a b : Nat} (ha : a < 100000) (hb : b < 100000) {x y : α} : (if nI a ≤ nI b then x else y) = if a ≤ b then x else y := by
  by_cases h : a ≤ b
  · rw [if_pos h, if_pos ((nI_leI (by omega) (by omega)).mpr h)]
  · rw [if_neg h, if_neg (fun e => h ((nI_leI (by omega) (by omega)).mp e))]
theorem iLT {α : Type} {a b : Nat} (ha : a < 100000) (hb : b < 100000) {x y : α} : (if nI a < nI b then x else y) = if a < b then x else y := by
  by_cases h : a < b
  · rw [if_pos h, if_pos ((nI_ltI (by omega) (by omega)).mpr h)]
  · rw [if_neg h, if_neg (fun e => h ((nI_ltI (by omega) (by omega)).mp e))]
theorem iEQ {α : Type} {a b : Nat} (ha : a < 100000) (hb : b < 100000) {x y : α} : (if nI a = nI b then x else y) = if a = b then x else y := by
  by_cases h : a = b
  · rw [if_pos h, if_pos ((nI_eq (by omega) (by omega)).mpr h)]
  · rw [if_neg h, if_neg (fun e => h ((nI_eq (by omega) (by omega)).mp e))]
theorem iP {α : Type} {P Q : Prop} [d : Decidable P] [e : Decidable Q] (h : P = Q) {x y : α} : (if P then x else y) = if Q then x else y := by
  subst h
  by_cases hp : P
  · rw [if_pos hp, if_pos hp]
  · rw [if_neg hp, if_neg hp]
theorem n200 : (200 : Int32) = nI 200 := rfl
theorem n40 : (40 : Int32) = nI 40 := rfl
theorem n20 : (20 : Int32) = nI 20 := rfl
theorem n12 : (12 : Int32) = nI 12 := rfl
theorem n8000 : (8000 : Int32) = nI 8000 := rfl
theorem n0 : (0 : Int32) = nI 0 := rfl
theorem n1 : (1 : Int32) = nI 1 := rfl
theorem n2 : (2 : Int32) = nI 2 := rfl
theorem n3 : (3 : Int32) = nI 3 := rfl
theorem n6 : (6 : Int32) = nI 6 := rfl
theorem n8 : (8 : Int32) = nI 8 := rfl
theorem Ine {a b : Nat} (ha : a < 100000) (hb : b < 100000) (h : a ≠ b) : nI a ≠ nI b := fun e => h ((nI_eq (by omega) (by omega)).mp e)
theorem in_of {p N : Int32} {n : Nat} (hN : N = nI n) (hn : n < 100000) : (∃ t, t < n ∧ p = nI t) ∨ p < 0 ∨ (¬ p < 0 ∧ ¬ p < N ∧ N ≤ p) := by
  subst hN
  rcases pk_ix p (n := n) (by omega) with h | h | h
  · exact Or.inr (Or.inl h)
  · by_cases h0 : p < 0
    · exact Or.inr (Or.inl h0)
    · exact Or.inr (Or.inr ⟨h0, Int32.not_lt.mpr h, h⟩)
  · exact Or.inl h
/-! cases on what is said -/
noncomputable def cif {α : Type} (P : Prop) (a b : α) : α := @ite α P (Classical.propDecidable P) a b
theorem cif_p {α : Type} {P : Prop} {a b : α} (h : P) : cif P a b = a := if_pos h
theorem cif_n {α : Type} {P : Prop} {a b : α} (h : ¬ P) : cif P a b = b := if_neg h
theorem cif_c {α : Type} {P Q : Prop} {a b : α} (h : P ↔ Q) : cif P a b = cif Q a b := by rw [propext h]
theorem cif_if {α : Type} {P : Prop} [inst : Decidable P] {a b : α} : (if P then a else b) = cif P a b := by by_cases h : P <;> simp [h, cif_p, cif_n]
noncomputable def oi (P : Prop) : Int32 := cif P 1 0
theorem oi_p {P : Prop} (h : P) : oi P = 1 := cif_p h
theorem oi_n {P : Prop} (h : ¬ P) : oi P = 0 := cif_n h
theorem oi_c {P Q : Prop} (h : P ↔ Q) : oi P = oi Q := cif_c h
theorem oi_0 {P : Prop} : (oi P = 0) = ¬ P := by by_cases h : P <;> simp [h, oi_p, oi_n] <;> decide
theorem oi_1 {P : Prop} : (oi P = 1) = P := by by_cases h : P <;> simp [h, oi_p, oi_n] <;> decide
theorem oi_b {P : Prop} : oi P = 0 ∨ oi P = 1 := by by_cases h : P; exact Or.inr (oi_p h); exact Or.inl (oi_n h)
noncomputable def cn (P : Nat → Prop) : Nat → Nat
  | 0 => 0
  | n + 1 => cn P n + cif (P n) 1 0
theorem cn_le (P : Nat → Prop) (n : Nat) : cn P n ≤ n := by
  induction n with
  | zero => exact Nat.le_refl _
  | succ n ih => rw [cn]; by_cases h : P n <;> simp only [h, cif_p, cif_n, not_false_eq_true] <;> omega
theorem cn_c {P Q : Nat → Prop} (n : Nat) (h : ∀ o, o < n → (P o ↔ Q o)) : cn P n = cn Q n := by
  induction n with
  | zero => rfl
  | succ n ih => rw [cn, cn, ih (fun o ho => h o (by omega)), cif_c (h n (by omega))]
theorem cn_0 {P : Nat → Prop} (n : Nat) (h : ∀ o, o < n → ¬ P o) : cn P n = 0 := by
  induction n with
  | zero => rfl
  | succ n ih => rw [cn, ih (fun o ho => h o (by omega)), cif_n (h n (by omega))]
theorem cn_off {P Q : Nat → Prop} {t : Nat} (n : Nat) (ht : t < n) (hP : P t) (hQ : ¬ Q t) (h : ∀ o, o ≠ t → (P o ↔ Q o)) : cn P n = cn Q n + 1 := by
  induction n with
  | zero => omega
  | succ n ih =>
    rw [cn, cn]
    by_cases e : t = n
    · subst e; rw [cif_p hP, cif_n hQ, cn_c t (fun o ho => h o (by omega))]
    · rw [ih (by omega), cif_c (h n (fun x => e x.symm))]; omega
theorem cn_pos {P : Nat → Prop} {t : Nat} (n : Nat) (ht : t < n) (hP : P t) : 0 < cn P n := by
  induction n with
  | zero => omega
  | succ n ih =>
    rw [cn]
    by_cases e : t = n
    · subst e; rw [cif_p hP]; omega
    · have := ih (by omega); omega
theorem cn_iff {P : Nat → Prop} (n : Nat) : 0 < cn P n ↔ ∃ o, o < n ∧ P o := by
  refine ⟨fun h => ?_, fun ⟨o, ho, hp⟩ => cn_pos n ho hp⟩
  rcases Classical.em (∃ o, o < n ∧ P o) with h1 | h1
  · exact h1
  · rw [cn_0 n (fun o ho hp => h1 ⟨o, ho, hp⟩)] at h; omega
