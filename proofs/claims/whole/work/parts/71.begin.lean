def OpL (fX fM : Mem → Option (Int64 × Mem)) : Prop := ∀ (c : Nat) (M : Mem), c < 512 → Sim c M → ∃ (r : Int64) (K Q : Mem), fX M = some (r, K) ∧ fM K = some (r, Q) ∧ Sim (c + 1) Q
theorem m0_50 : M0 50 = fNw := rfl
theorem m0_nH : nH fNw = 0 := by decide
theorem m0_wf : Wf fNw := by
  refine ⟨by decide, by decide, by decide, ?_, by decide⟩
  unfold Wh kdN vaN spN tuN hiN boN
  decide
theorem m0_sh : ShR 1 M0 fNw := by
  refine ⟨by decide, by decide, by decide, by decide, by decide, ?_⟩
  unfold kdN vaN spN tuN hiN boN
  decide
theorem sim_M0 : Sim 0 M0 := by
  refine ⟨⟨m0_wf, m0_sh, ⟨fun h hh => ?_, fun v hv => ?_⟩, ⟨by decide, by decide⟩, ⟨by decide, by decide, fun h => ?_⟩, ?_, ⟨0, by decide, by decide, by decide, ?_⟩, ?_⟩, by decide, by decide⟩
  · have : nH fNw = 0 := m0_nH
    have h2 : h < nH fNw := hh
    omega
  · have e1 : stN fNw (nI v) = 0 := by unfold stN; rw [m0_nH]; rfl
    have e2 : loN fNw (nI v) = 0 := by unfold loN; rw [m0_nH]; rfl
    exact ⟨e1.symm, e2.symm⟩
  · exact absurd h (by decide)
  · unfold Fc; decide
  · decide
  · unfold Sh4; decide
