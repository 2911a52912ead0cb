/-! memory -/
theorem upA_s {M : Mem} {k : Nat} {f : Nat → Int32} : upA M k f k = f := by simp [upA]
theorem upA_o {M : Mem} {k a : Nat} {f : Nat → Int32} (h : a ≠ k) : upA M k f a = M a := by simp [upA, h]
theorem up_s {M : Mem} {k j : Nat} {v : Int32} : up M k j v k = upd (M k) j v := upA_s
theorem up_o {M : Mem} {k j a : Nat} {v : Int32} (h : a ≠ k) : up M k j v a = M a := upA_o h
theorem upd_s {f : Nat → Int32} {j : Nat} {v : Int32} : upd f j v j = v := by simp [upd]
theorem upd_o {f : Nat → Int32} {j i : Nat} {v : Int32} (h : i ≠ j) : upd f j v i = f i := by simp [upd, h]
theorem tN1 : (1 : Int32).toNatClampNeg = 1 := by decide
theorem tN0 : (0 : Int32).toNatClampNeg = 0 := by decide
theorem tN2 : (2 : Int32).toNatClampNeg = 2 := by decide
theorem tN3 : (3 : Int32).toNatClampNeg = 3 := by decide
theorem in1_62 : inb 1 62 = true := by decide
theorem in0_62 : inb 0 62 = true := by decide
theorem in2_62 : inb 2 62 = true := by decide
theorem in3_62 : inb 3 62 = true := by decide
theorem isB0 : isB 0 = true := by decide
theorem isB1 : isB 1 = true := by decide
/-! rows of numbers: what a shire is -/
def nH (N : Nat → Int32) : Nat := (N 1).toNatClampNeg
def kdN (N : Nat → Int32) (h : Nat) : Int32 := N (14 + 6 * h + 0)
def vaN (N : Nat → Int32) (h : Nat) : Int32 := N (14 + 6 * h + 1)
def spN (N : Nat → Int32) (h : Nat) : Int32 := N (14 + 6 * h + 2)
def tuN (N : Nat → Int32) (h : Nat) : Int32 := N (14 + 6 * h + 3)
def hiN (N : Nat → Int32) (h : Nat) : Int32 := N (14 + 6 * h + 4)
def boN (N : Nat → Int32) (h : Nat) : Int32 := N (14 + 6 * h + 5)
def Wh (N : Nat → Int32) (h : Nat) : Prop := inb (kdN N h) 7 = true ∧ inb (vaN N h) 12 = true ∧ (-5 ≤ (spN N h).toInt ∧ (spN N h).toInt ≤ 5) ∧ inb (tuN N h) 4 = true ∧ inb (hiN N h) 100 = true ∧ inb (boN N h) 10000 = true
def Wf (N : Nat → Int32) : Prop := N 1 = nI (nH N) ∧ nH N ≤ 8 ∧ inb (N 3) 10 = true ∧ (∀ h, h < 8 → Wh N h) ∧ ∀ i, i < 10 → -1 ≤ (N (4 + i)).toInt ∧ (N (4 + i)).toInt < nH N
def y12 (x : Int32) : Int32 := if 0 ≤ x - x / 12 * 12 then x - x / 12 * 12 else x - x / 12 * 12 + 12
def fcN (N : Nat → Int32) (h : Nat) : Int32 := y12 (vaN N h + foT (tuN N h).toNatClampNeg)
def stN (N : Nat → Int32) (v : Int32) : Int32 := bset (fun h => decide (vaN N h = v)) (nH N)
def loN (N : Nat → Int32) (v : Int32) : Int32 := bset (fun h => decide (fcN N h = v)) (nH N)
def mtB (N : Nat → Int32) (i z : Nat) : Bool := !(decide (z = i)) && (decide (fcN N i = vaN N z) && decide (fcN N z = vaN N i))
def mtN (N : Nat → Int32) (i : Nat) : Int32 := bset (mtB N i) (nH N)
def whoN (N : Nat → Int32) : Int32 := bset (fun i => !(decide (mtN N i = 0))) (nH N)
def pcn (k : Nat) : Nat := ((List.range 12).filter (fun i => k.testBit i)).length
def pc (x : Int32) : Int32 := nI (pcn x.toNatClampNeg)
def paN (N : Nat → Int32) (h : Nat) : Int32 := if mtN N h = 0 then spN N h else 0
def twN (N : Nat → Int32) (h : Nat) : Int32 := paN N h + pc (stN N (vaN N h)) - 1
def taN (N : Nat → Int32) (h : Nat) : Int32 := if hiN N h ≤ 50 then 0 else 1
def mvN (N : Nat → Int32) (h : Nat) : Int32 := if kdN N h = 1 then 2 * spN N h else if kdN N h = 2 then paN N h else if kdN N h = 3 then twN N h else if kdN N h = 4 then -twN N h else if kdN N h = 5 then 0 else if kdN N h = 6 then 2 * spN N h + taN N h else spN N h
def tnN (N : Nat → Int32) (h : Nat) : Int32 := if kdN N h = 1 then 0 else if kdN N h = 2 then 1 else if kdN N h = 3 then 1 + taN N h else if kdN N h = 4 then 3 * (1 + taN N h) else if kdN N h = 5 then 0 else if kdN N h = 6 then 2 else 1
def skN (N : Nat → Int32) (h : Nat) : Int32 := if kdN N h = 1 then N 3 else if kdN N h = 2 then N 3 + 1 else if kdN N h = 3 then (N 3 + 1) / 2 else if kdN N h = 4 then (N 3 + 1) / 2 else if kdN N h = 5 then 0 else if kdN N h = 6 then N 3 + 1 else 1
/-! the reference: what it reads -/
theorem y12_in (x : Int32) : inb (y12 x) 12 = true := by
  rw [inb_iff]
  have h1 : (x - x / 12 * 12).toInt = x.toInt.tmod 12 := rem_toInt x 12
  have h2 := tmod_bounds (a := x.toInt) (M := 12) (by decide)
  unfold y12
  by_cases h : 0 ≤ x - x / 12 * 12
  · rw [if_pos h]
    have h3 := z_nonneg.mp h
    omega
  · rw [if_neg h]
    have h3 : ¬ 0 ≤ (x - x / 12 * 12).toInt := fun z => h (z_nonneg.mpr z)
    have h4 : ((12 : Int32)).toInt = 12 := by decide
    rw [z_add (by omega) (by omega)]
    omega
theorem md_by12 (x : Int32) (M : Mem) : mi_X4_by12 x M = some (y12 x, M) := by
  unfold mi_X4_by12 pi_X4_by12_e y12
  rw [bI_e]
  split <;> rfl
theorem md_at {h f : Nat} (M : Mem) : mi_X4_at (nI h) (nI f) M = some (nI (14 + 6 * h + f), M) := by
  unfold mi_X4_at pi_X4_at_e
  have e1 : (14 : Int32) + 6 * nI h + nI f = nI (14 + 6 * h + f) := by
    rw [show (14 : Int32) = nI 14 from rfl, show (6 : Int32) = nI 6 from rfl, pk_mul, nI_add, nI_add]
  rw [e1]
theorem md_hillIs {h f : Nat} (hh : h < 8) (hf : f < 6) (M : Mem) : mi_X4_hillIs (nI h) (nI f) M = some (M 50 (14 + 6 * h + f), M) := by
  unfold mi_X4_hillIs pi_X4_hillIs_e
  rw [md_at, bd_s, inb_nI (by omega) (by decide), gd_t, nI_clamp (by omega)]
theorem md_h0 {h : Nat} (hh : h < 8) (M : Mem) : mi_X4_hillIs (nI h) 0 M = some (kdN (M 50) h, M) := md_hillIs (f := 0) hh (by decide) M
theorem md_h1 {h : Nat} (hh : h < 8) (M : Mem) : mi_X4_hillIs (nI h) 1 M = some (vaN (M 50) h, M) := md_hillIs (f := 1) hh (by decide) M
theorem md_h2 {h : Nat} (hh : h < 8) (M : Mem) : mi_X4_hillIs (nI h) 2 M = some (spN (M 50) h, M) := md_hillIs (f := 2) hh (by decide) M
theorem md_h3 {h : Nat} (hh : h < 8) (M : Mem) : mi_X4_hillIs (nI h) 3 M = some (tuN (M 50) h, M) := md_hillIs (f := 3) hh (by decide) M
theorem md_h4 {h : Nat} (hh : h < 8) (M : Mem) : mi_X4_hillIs (nI h) 4 M = some (hiN (M 50) h, M) := md_hillIs (f := 4) hh (by decide) M
theorem md_h5 {h : Nat} (hh : h < 8) (M : Mem) : mi_X4_hillIs (nI h) 5 M = some (boN (M 50) h, M) := md_hillIs (f := 5) hh (by decide) M
def Fc (M : Mem) : Prop := ∀ j, j < 4 → M 54 j = foT j
theorem md_faces {h : Nat} {M : Mem} (hh : h < 8) (hw : Wf (M 50)) (hf : Fc M) : mi_X4_facesOf (nI h) M = some (fcN (M 50) h, M) := by
  unfold mi_X4_facesOf pi_X4_facesOf_e
  have h4 := (hw.2.2.2.1 h hh).2.2.2.1
  rw [md_h1 hh, bd_s, md_h3 hh, bd_s, h4, gd_t, md_by12, bd_s, hf _ (inb_lt h4).2]
  rfl
/-- a loop of the reference that gathers a set -/
theorem md_set {G : (Int32 × Int32 × Mem → Option (Int32 × Mem)) → Int32 → Int32 → Mem → Option (Int32 × Mem)} {M : Mem} {P : Nat → Bool} {n : Nat} (hn : n ≤ 8)
    (hs : ∀ k, k < n → ∀ acc rec, G rec acc (nI k) M = rec (if P k then acc ||| b1 k else acc, nI (k + 1), M)) (he : ∀ acc rec, G rec acc (nI n) M = some (acc, M)) :
    lp (fun rc x => G rc x.1 x.2.1 x.2.2) FU (0, 0, M) = some (bset P n, M) :=
  lp_for (fun k => (bset P k, nI k, M)) n _ (fun k hk rec => hs k hk _ rec) (fun rec => he _ rec) (FU_le (by omega))
theorem md_atValley {M : Mem} (v : Int32) (hw : Wf (M 50)) : mi_X4_atValley v M = some (stN (M 50) v, M) := by
  unfold mi_X4_atValley pi_X4_atValley_e
  refine md_set (G := pi_X4_atValley_4 v) hw.2.1 ?_ ?_
  · intro k hk acc rec
    have h8 := hw.2.1
    unfold pi_X4_atValley_4
    rw [in1_62, gd_t, tN1, hw.1, if_neg (nI_ge hk (by omega)), md_h1 (by omega), bd_s]
    by_cases h : vaN (M 50) k = v
    · rw [if_pos h, bI_e, bI_e, nI_1]; simp [h, b1]
    · rw [if_neg h, bI_e, bI_e, or0, nI_1]; simp [h]
  · intro acc rec
    unfold pi_X4_atValley_4
    rw [in1_62, gd_t, tN1, hw.1, if_pos (Int32.le_refl _)]
theorem md_facing {M : Mem} (v : Int32) (hw : Wf (M 50)) (hf : Fc M) : mi_X4_facing v M = some (loN (M 50) v, M) := by
  unfold mi_X4_facing pi_X4_facing_e
  refine md_set (G := pi_X4_facing_4 v) hw.2.1 ?_ ?_
  · intro k hk acc rec
    have h8 := hw.2.1
    unfold pi_X4_facing_4
    rw [in1_62, gd_t, tN1, hw.1, if_neg (nI_ge hk (by omega)), md_faces (by omega) hw hf, bd_s]
    by_cases h : fcN (M 50) k = v
    · rw [if_pos h, bI_e, bI_e, nI_1]; simp [h, b1]
    · rw [if_neg h, bI_e, bI_e, or0, nI_1]; simp [h]
  · intro acc rec
    unfold pi_X4_facing_4
    rw [in1_62, gd_t, tN1, hw.1, if_pos (Int32.le_refl _)]
theorem md_meeting {M : Mem} {i : Nat} (hi : i < 8) (hw : Wf (M 50)) (hf : Fc M) : mi_X4_meeting (nI i) M = some (mtN (M 50) i, M) := by
  unfold mi_X4_meeting pi_X4_meeting_e
  refine md_set (G := pi_X4_meeting_4 (nI i)) hw.2.1 ?_ ?_
  · intro k hk acc rec
    have h8 := hw.2.1
    unfold pi_X4_meeting_4
    rw [in1_62, gd_t, tN1, hw.1, if_neg (nI_ge hk (by omega))]
    by_cases h : k = i
    · rw [if_pos (by rw [h]), bI_e, bI_e, or0, nI_1]; simp [mtB, h]
    · rw [if_neg (fun z => h ((nI_eq (by omega) (by omega)).mp z)), md_faces hi hw hf, bd_s, md_h1 (by omega), bd_s]
      by_cases h2 : fcN (M 50) i = vaN (M 50) k
      · rw [if_pos h2, md_faces (by omega) hw hf, bd_s, md_h1 hi, bd_s]
        by_cases h3 : fcN (M 50) k = vaN (M 50) i
        · rw [if_pos h3, bI_e, bI_e, nI_1]; simp [mtB, h, h2, h3, b1]
        · rw [if_neg h3, bI_e, bI_e, or0, nI_1]; simp [mtB, h3]
      · rw [if_neg h2, bI_e, bI_e, or0, nI_1]; simp [mtB, h2]
  · intro acc rec
    unfold pi_X4_meeting_4
    rw [in1_62, gd_t, tN1, hw.1, if_pos (Int32.le_refl _)]
theorem md_who {M : Mem} (hw : Wf (M 50)) (hf : Fc M) : mi_X4_whoMeets M = some (whoN (M 50), M) := by
  unfold mi_X4_whoMeets pi_X4_whoMeets_e
  refine md_set (G := pi_X4_whoMeets_4) hw.2.1 ?_ ?_
  · intro k hk acc rec
    have h8 := hw.2.1
    unfold pi_X4_whoMeets_4
    rw [in1_62, gd_t, tN1, hw.1, if_neg (nI_ge hk (by omega)), md_meeting (by omega) hw hf, bd_s]
    by_cases h : mtN (M 50) k = 0
    · rw [if_pos h, bI_e, bI_e, or0, nI_1]; simp [h]
    · rw [if_neg h, bI_e, bI_e, nI_1]; simp [h, b1]
  · intro acc rec
    unfold pi_X4_whoMeets_4
    rw [in1_62, gd_t, tN1, hw.1, if_pos (Int32.le_refl _)]
/-! how many: the reference counts by taking the lowest away, the class by halves -/
def kern : Nat → Int32 → Int32 → Option Int32
  | 0, _, _ => none
  | n + 1, a, x => if x = 0 then some a else kern n (a + 1) (x &&& (x - 1))
theorem kern_lp (v : Int32) (M : Mem) : ∀ (n : Nat) (a x r : Int32), kern n a x = some r → ∀ m, n ≤ m → lp (fun rc4 x => pi_X4_bits_4 v rc4 x.1 x.2.1 x.2.2) m (a, x, M) = some (r, M) := by
  intro n
  induction n with
  | zero => intro a x r h; cases h
  | succ n ih =>
    intro a x r h m hm
    cases m with
    | zero => omega
    | succ m =>
      rw [lp_s]
      show pi_X4_bits_4 v _ a x M = _
      unfold pi_X4_bits_4
      unfold kern at h
      by_cases hx : x = 0
      · rw [if_pos hx] at h ⊢
        cases h; rfl
      · rw [if_neg hx] at h ⊢
        rw [bI_e, bI_e]
        exact ih _ _ _ h m (by omega)
theorem kern_ok : ∀ k, k < 2048 → kern 20 0 (nI k) = some (nI (pcn k)) := by decide +kernel
theorem md_bits {k : Nat} (hk : k < 2048) (M : Mem) : mi_X4_bits (nI k) M = some (pc (nI k), M) := by
  unfold mi_X4_bits pi_X4_bits_e
  rw [kern_lp (nI k) M 20 0 (nI k) _ (kern_ok k hk) FU (by decide)]
  unfold pc
  rw [nI_clamp (by omega)]
theorem set_lt {P : Nat → Bool} {n m : Nat} (h : n ≤ m) : bnum P n < 2 ^ m := Nat.lt_of_lt_of_le (bnum_lt P n) (Nat.pow_le_pow_right (by decide) h)
theorem md_bits_set {P : Nat → Bool} {n : Nat} (hn : n ≤ 11) (M : Mem) : mi_X4_bits (bset P n) M = some (pc (bset P n), M) := by
  have h1 : bnum P n < 2048 := set_lt (m := 11) hn
  rw [bset_num (by omega)]
  exact md_bits h1 M
