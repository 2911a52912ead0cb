/-! the sheets: write -/
theorem sim_sh {c : Nat} {M Q : Mem} (h : Sim c M) (e : ∀ a, (a < 40 ∨ 47 < a) → a ≠ 62 → a ≠ 63 → a ≠ 64 → a ≠ 65 → Q a = M a) (s4 : Sh4 Q) : Sim c Q := by
  obtain ⟨⟨h1, h2, h3, h4, h5, h6, h7, h8⟩, h9⟩ := h
  have r : ∀ a, (a < 40 ∨ 47 < a) → a < 62 → Q a = M a := fun a q1 q2 => e a q1 (by omega) (by omega) (by omega) (by omega)
  have e50 : Q 50 = M 50 := r 50 (by omega) (by omega)
  have e51 : Q 51 = M 51 := r 51 (by omega) (by omega)
  have e49 : Q 49 = M 49 := r 49 (by omega) (by omega)
  have e48 : Q 48 = M 48 := r 48 (by omega) (by omega)
  have e53 : Q 53 = M 53 := r 53 (by omega) (by omega)
  have e59 : Q 59 = M 59 := r 59 (by omega) (by omega)
  refine ⟨⟨by rw [e50]; exact h1, by rw [e50]; exact h2.eq (fun a ha hb => r a (by omega) (by omega)), by rw [e50]; exact h3.eq (fun a ha hb => r a (by omega) (by omega)), by rw [e50]; exact h4, ⟨?_, ?_, ?_⟩, ?_, ?_, s4⟩, ?_⟩
  · rw [r 0 (by omega) (by omega), e49]; exact h5.1
  · rw [e49]; exact h5.2.1
  · intro hk
    rw [e49] at hk
    obtain ⟨q1, q2, q3⟩ := h5.2.2 hk
    rw [e51]
    exact ⟨q1, q2.eq (fun a ha hb => r a (by omega) (by omega)), q3⟩
  · intro j hj
    rw [r 54 (by omega) (by omega)]; exact h6 j hj
  · obtain ⟨t, t1, t2, t3, t4⟩ := h7
    refine ⟨t, t1, by rw [r 37 (by omega) (by omega)]; exact t2, by rw [e49]; exact t3, fun j hj => ?_⟩
    rw [r 38 (by omega) (by omega), e59]; exact t4 j hj
  · unfold Fnd
    rw [e48, e53]; exact h9
theorem inR_pred {v : Int32} {n : Nat} (hn : n < 900) : inR v 0 (nI n - 1) = inb v n := by
  cases n with
  | zero =>
    have e2 : inb v 0 = false := by
      cases h : inb v 0 with
      | false => rfl
      | true => have := inb_iff.mp h; omega
    rw [e2]
    cases h : inR v 0 (nI 0 - 1) with
    | false => rfl
    | true =>
      have h1 := inR_iff.mp h
      have h5 : (0 : Int32).toInt = 0 := by decide
      have h6 : (nI 0 - 1).toInt = -1 := by decide
      omega
  | succ k =>
    rw [nI_pred]
    exact inR_inb (by omega)
theorem e40n {z : Nat} (hz : z < 4) (k : Nat) : (40 : Int32) * nI z + nI k = nI (40 * z + k) := by
  rw [← nI_add]
  congr 1
  rcases (by omega : z = 0 ∨ z = 1 ∨ z = 2 ∨ z = 3) with rfl | rfl | rfl | rfl <;> decide
def cutN (x w : Int32) : Int32 := if w = 8 then x.toInt8.toInt32 else if w = 16 then x.toInt16.toInt32 else x
theorem op_write (v w x : Int32) : OpI (mi_X3_write v w x) (mi_X4_write v w x) := by
  intro c M hc hS
  obtain ⟨hw, hs, ht, ha, hk, hfc, hrd, h4⟩ := id hS.1
  cases hv : inb v 4 with
  | false =>
    refine op_find 0 (by decide) hS ?_ (fun K hK => ?_)
    · unfold mi_X3_write pi_X3_write_e
      rw [x_wrong v h4, bd_s, hv, if_f, if_neg (by decide)]; exact fx_ 0 0 rfl M
    · unfold mi_X4_write pi_X4_write_e
      rw [m_sheet, bd_s, hv, if10, if_f]; exact fm_ 0 _ low0.symm K
  | true =>
  obtain ⟨z, hz, rfl⟩ := inb_of hv (by decide)
  obtain ⟨s0, s1, s2, s3, s4⟩ := h4 z hz
  have cz : (nI z).toNatClampNeg = z := nI_clamp (by omega)
  by_cases q : M 62 z = 0
  · refine op_find 5 (by decide) hS ?_ (fun K hK => ?_)
    · unfold mi_X3_write pi_X3_write_e
      rw [x_wrong _ h4, bd_s, hv, if_t, cz, if_pos q, if_neg (by decide)]; exact fx_ 5 5 rfl M
    · unfold mi_X4_write pi_X4_write_e
      rw [m_sheet, bd_s, hv, if10, if_t, gd_t, cz, hK 62 (by decide), if_pos q]; exact fm_ 5 _ low5.symm K
  obtain ⟨s, hs40, es⟩ := inb_of s3 (by decide)
  cases hb : inb w s with
  | false =>
    refine op_find 0 (by decide) hS ?_ (fun K hK => ?_)
    · unfold mi_X3_write pi_X3_write_e
      rw [x_wrong _ h4, bd_s, hv, if_t, cz, if_neg q, if_pos (by decide), gd_t, s2, es, x_out, bd_s, inR_pred (by omega), hb, if01, if_f]; exact fx_ 0 0 rfl M
    · unfold mi_X4_write pi_X4_write_e
      rw [m_sheet, bd_s, hv, if10, if_t, gd_t, cz, hK 62 (by decide), if_neg q, gd_t, hK 63 (by decide), es, m_in, bd_s, inR_pred (by omega), hb, if10, if_f]; exact fm_ 0 _ low0.symm K
  | true =>
    obtain ⟨k, hk, rfl⟩ := inb_of hb (by omega)
    refine ⟨1, up M (40 + 2 * z + 1) k (cutN x (M 62 z)), up (up M (40 + 2 * z + 1) k (cutN x (M 62 z))) 64 (40 * z + k) (cutN x (M 62 z)), ?_, ?_, ?_⟩
    · unfold mi_X3_write pi_X3_write_e mi_X1_put pi_X1_put_e
      rw [x_wrong _ h4, bd_s, hv, if_t, cz, if_neg q, if_pos (by decide), gd_t, s2, es, x_out, bd_s, inR_pred (by omega), hb, if01, if_t, gd_t, s0, inb_nI (show k < 40 by omega) (by decide), gd_t, gd_t, gd_t, bM_e, bM_e, bM_e, nI_clamp (by omega)]
      unfold cutN
      by_cases c1 : M 62 z = 8
      · rw [if_pos c1, if_pos c1]; rfl
      · rw [if_neg c1, if_neg c1]
        by_cases c2 : M 62 z = 16
        · rw [if_pos c2, if_pos c2]; rfl
        · rw [if_neg c2, if_neg c2]; rfl
    · have o62 : up M (40 + 2 * z + 1) k (cutN x (M 62 z)) 62 = M 62 := up_o (by omega)
      have o63 : up M (40 + 2 * z + 1) k (cutN x (M 62 z)) 63 = M 63 := up_o (by omega)
      have ec : ∀ P : Mem, mi_X4_cutTo x (M 62 z) P = some (cutN x (M 62 z), P) := fun P => by
        unfold mi_X4_cutTo pi_X4_cutTo_e cutN
        by_cases c1 : M 62 z = 8
        · rw [if_pos c1, if_pos c1]
        · rw [if_neg c1, if_neg c1]
          by_cases c2 : M 62 z = 16
          · rw [if_pos c2, if_pos c2]
          · rw [if_neg c2, if_neg c2]
      unfold mi_X4_write pi_X4_write_e
      rw [m_sheet, bd_s, hv, if10, if_t, gd_t, cz, o62, if_neg q, gd_t, o63, es, m_in, bd_s, inR_pred (by omega), hb, if10, if_t, gd_t, o62, ec, bd_s, e40n hz, inb_nI (show 40 * z + k < 160 by omega) (by decide), gd_t, bM_e, nI_clamp (by omega)]
    · refine (sim_sh hS (fun a n1 n2 n3 n4 n5 => by rw [up_o n4, up_o (by omega)]) (fun y hy => ?_)).up
      obtain ⟨r0, r1, r2, r3, r4⟩ := h4 y hy
      have a62 : up (up M (40 + 2 * z + 1) k (cutN x (M 62 z))) 64 (40 * z + k) (cutN x (M 62 z)) 62 = M 62 := by rw [up_o (by decide), up_o (by omega)]
      have a63 : up (up M (40 + 2 * z + 1) k (cutN x (M 62 z))) 64 (40 * z + k) (cutN x (M 62 z)) 63 = M 63 := by rw [up_o (by decide), up_o (by omega)]
      have ay : up (up M (40 + 2 * z + 1) k (cutN x (M 62 z))) 64 (40 * z + k) (cutN x (M 62 z)) (40 + 2 * y) = M (40 + 2 * y) := by rw [up_o (by omega), up_o (by omega)]
      rw [a62, a63, ay]
      refine ⟨r0, r1, r2, r3, fun j hj => ?_⟩
      rw [up_o (show 40 + 2 * y + 1 ≠ 64 by omega), up_s, up_o (show (64 : Nat) ≠ 40 + 2 * z + 1 by omega)]
      by_cases c1 : y = z
      · subst c1
        rw [up_s]
        by_cases c2 : j = k
        · subst c2; rw [upd_s, upd_s]
        · rw [upd_o c2, upd_o (by omega)]; exact r4 j hj
      · rw [up_o (by omega), upd_o (by omega)]; exact r4 j hj
