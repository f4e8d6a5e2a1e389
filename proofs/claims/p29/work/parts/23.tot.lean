/-! actions that may be left out; a text's numbers and commands -/
def t_add (r : zR) (w v : Int32) : zR := if cnt r < 6 then p_add r w v else r
def t_addv (r : zR) : Int32 := if cnt r < 6 then nI (cnt r) else -1
def t_job (r : zR) (t s : Int32) : zR := if p_canb r t s then p_bring r t.toNatClampNeg s else r
def t_jobv (r : zR) (t s : Int32) : Int32 := if p_canb r t s then p_bringv r t.toNatClampNeg else -1
def t_stop (r : zR) (t : Int32) : zR := if p_cans r t then p_stop r t.toNatClampNeg else r
def t_stopv (r : zR) (t : Int32) : Int32 := if p_cans r t then tf r t.toNatClampNeg 1 else -1
def t_bad (r : zR) (s : Int32) : zR := if p_isStripe s then p_bad r s.toNatClampNeg else r
def t_badv (r : zR) (s : Int32) : Int32 := if p_isStripe s then p_hurt r s else -1
def t_mend (r : zR) (s : Int32) : zR := if p_isStripe s then p_mend r s.toNatClampNeg else r
def t_mendv (r : zR) (s : Int32) : Int32 := if p_isStripe s then r (11 + s.toNatClampNeg) else -1
def t_run (r : zR) (n : Int32) : zR := if z_in n 1 60 then p_run n.toNatClampNeg r else r
def t_runv (r : zR) (n : Int32) : Int32 := if z_in n 1 60 then p_run n.toNatClampNeg r 4 - r 4 else -1
theorem z_in_nI {v : Int32} {lo hi : Nat} (hl : lo ≤ hi) (hh : hi < 2 ^ 31) (h : z_in v (nI lo) (nI hi) = true) : ∃ c, lo ≤ c ∧ c ≤ hi ∧ v = nI c := by
  simp only [z_in, Bool.and_eq_true, decide_eq_true_eq] at h
  obtain ⟨h1, h2⟩ := h
  rw [Int32.le_iff_toInt_le, nI_toInt (by omega)] at h1 h2
  obtain ⟨c, hc, e⟩ := I32_nI (x := v) (n := hi + 1) (by omega) (by omega)
  rw [e, nI_toInt (by omega)] at h1
  exact ⟨c, by omega, by omega, e⟩
theorem z_in_of {c lo hi : Nat} (h1 : lo ≤ c) (h2 : c ≤ hi) (hh : hi < 2 ^ 31) : z_in (nI c) (nI lo) (nI hi) = true := by
  simp only [z_in, Bool.and_eq_true, decide_eq_true_eq]
  exact ⟨nI_le h1 (by omega), nI_le h2 hh⟩
theorem p_cans_nI {r : zR} (h : WF r) {t : Int32} (hc : p_cans r t = true) : ∃ u, u < cnt r ∧ u < 6 ∧ t = nI u ∧ tf r u 4 = 2 ∧ ¬ r 5 = nI u := by
  simp only [p_cans, Bool.and_eq_true, decide_eq_true_eq] at hc
  obtain ⟨h1, h2, h3⟩ := hc
  obtain ⟨u, hu, rfl⟩ := p_isTask_nI h h1
  have h6 := h.1.1
  rw [nI_clamp (by omega)] at h2
  exact ⟨u, hu, by omega, rfl, h2, h3⟩
theorem WF_tadd {r : zR} (h : WF r) {w v : Int32} (hw : 1 ≤ w.toInt ∧ w.toInt ≤ 6) (hv : 0 ≤ v.toInt ∧ v.toInt ≤ 996) : WF (t_add r w v) := by
  unfold t_add
  split
  · rename_i hc; exact WF_add h hc hw hv
  · exact h
theorem WF_tjob {r : zR} (h : WF r) (t s : Int32) : WF (t_job r t s) := by
  unfold t_job
  split
  · rename_i hc
    obtain ⟨t, s, rfl, rfl, a, b, c, d, e⟩ := canb_of h hc
    have h6 := h.1.1
    rw [nI_clamp (by omega)]
    exact WF_bring h a b c d e
  · exact h
theorem WF_tstop {r : zR} (h : WF r) (t : Int32) : WF (t_stop r t) := by
  unfold t_stop
  split
  · rename_i hc
    obtain ⟨u, hu, hu6, rfl, -, h5⟩ := p_cans_nI h hc
    rw [nI_clamp (by omega)]
    exact WF_stop h u h5 hu
  · exact h
theorem WF_tbad {r : zR} (h : WF r) (s : Int32) : WF (t_bad r s) := by
  unfold t_bad
  split
  · rename_i hc
    obtain ⟨u, hu, rfl⟩ := p_isStripe_nI hc
    rw [nI_clamp (by omega)]
    exact WF_bad h u hu
  · exact h
theorem WF_tmend {r : zR} (h : WF r) (s : Int32) : WF (t_mend r s) := by
  unfold t_mend
  split
  · rename_i hc
    obtain ⟨u, hu, rfl⟩ := p_isStripe_nI hc
    rw [nI_clamp (by omega)]
    exact WF_mend h u hu 0 (Or.inl rfl)
  · exact h
theorem WF_trun {r : zR} (h : WF r) (n : Int32) : WF (t_run r n) := by
  unfold t_run
  split
  · exact WF_run _ _ h
  · exact h
section TOT
variable {E : zE} {l : Launch} {G : zG} {I : zI} {sz a : Nat} {r : zR}
theorem c1_tadd (hl : l.stackTraces = false) (hS : ShS E G a) (hA : Abs I a r) (hW : WF r) (w v : Int32) : z_CI E l mX1_addTask 2 [.ref a, .int w, .int v] G I sz (fun x I' => x = t_addv r ∧ Abs I' a (t_add r w v) ∧ Fr I I' a) := by
  unfold t_addv t_add
  by_cases hc : cnt r < 6
  · rw [if_pos hc, if_pos hc]; exact c1_addTask hl hS hA hW w v hc
  · rw [if_neg hc, if_neg hc]; exact c1_addTaskOut hl hS hA hW w v hc
theorem c1_tjob (hl : l.stackTraces = false) (hS : ShS E G a) (hA : Abs I a r) (hW : WF r) (t s : Int32) : z_CI E l mX1_startJob 5 [.ref a, .int t, .int s] G I sz (fun x I' => x = t_jobv r t s ∧ Abs I' a (t_job r t s) ∧ Fr I I' a) := by
  unfold t_jobv t_job
  by_cases hc : p_canb r t s = true
  · rw [if_pos hc, if_pos hc]
    obtain ⟨t0, s0, rfl, rfl, a1, b1, -⟩ := canb_of hW hc
    have h6 := hW.1.1
    rw [nI_clamp (by omega)]
    exact c1_startJob hl hS hA hW t0 s0 a1 (by omega) b1 rfl rfl hc
  · rw [if_neg hc, if_neg hc]
    rcases nI_isTask hW (t := t) with ⟨hi, u, hu, hu6, rfl⟩ | hi
    · exact c1_startJobNot hl hS hA hW u hu rfl (by simpa using hc)
    · exact c1_startJobNone hl hS hA hW hi
theorem c1_tstop (hl : l.stackTraces = false) (hS : ShS E G a) (hA : Abs I a r) (hW : WF r) (t : Int32) : z_CI E l mX1_stopTask 3 [.ref a, .int t] G I sz (fun x I' => x = t_stopv r t ∧ Abs I' a (t_stop r t) ∧ Fr I I' a) := by
  unfold t_stopv t_stop
  by_cases hc : p_cans r t = true
  · rw [if_pos hc, if_pos hc]
    obtain ⟨u, hu, hu6, rfl, -, h5⟩ := p_cans_nI hW hc
    rw [nI_clamp (by omega)]
    exact c1_stopTask hl hS hA hW u hu hu6 rfl hc
  · rw [if_neg hc, if_neg hc]
    rcases nI_isTask hW (t := t) with ⟨hi, u, hu, hu6, rfl⟩ | hi
    · exact c1_stopTaskNot hl hS hA hW u hu rfl (by simpa using hc)
    · exact c1_stopTaskNone hl hS hA hW hi
theorem c1_tbad (hl : l.stackTraces = false) (hS : ShS E G a) (hA : Abs I a r) (hW : WF r) (s : Int32) : z_CI E l mX1_makeBad 5 [.ref a, .int s] G I sz (fun x I' => x = t_badv r s ∧ Abs I' a (t_bad r s) ∧ Fr I I' a) := by
  unfold t_badv t_bad
  by_cases hc : p_isStripe s = true
  · rw [if_pos hc, if_pos hc]
    obtain ⟨u, hu, rfl⟩ := p_isStripe_nI hc
    rw [nI_clamp (by omega)]
    exact c1_makeBad hl hS hA hW u hu rfl
  · rw [if_neg hc, if_neg hc]
    exact c1_makeBadOut hl hS hA hW s (by simpa using hc)
theorem c1_tmend (hl : l.stackTraces = false) (hS : ShS E G a) (hA : Abs I a r) (hW : WF r) (s : Int32) : z_CI E l mX1_makeGood 2 [.ref a, .int s] G I sz (fun x I' => x = t_mendv r s ∧ Abs I' a (t_mend r s) ∧ Fr I I' a) := by
  unfold t_mendv t_mend
  by_cases hc : p_isStripe s = true
  · rw [if_pos hc, if_pos hc]
    obtain ⟨u, hu, rfl⟩ := p_isStripe_nI hc
    rw [nI_clamp (by omega)]
    exact c1_makeGood hl hS hA hW u hu rfl
  · rw [if_neg hc, if_neg hc]
    exact c1_makeGoodOut hl hS hA hW s (by simpa using hc)
theorem c1_trun (hl : l.stackTraces = false) (hS : ShS E G a) (hA : Abs I a r) (hW : WF r) (n : Int32) : z_CI E l mX1_passTicks 5 [.ref a, .int n] G I sz (fun x I' => x = t_runv r n ∧ Abs I' a (t_run r n) ∧ Fr I I' a) := by
  unfold t_runv t_run
  by_cases hc : z_in n 1 60 = true
  · rw [if_pos hc, if_pos hc]
    obtain ⟨c, h1, h2, rfl⟩ := z_in_nI (lo := 1) (hi := 60) (by omega) (by omega) hc
    rw [nI_clamp (by omega)]
    exact c1_passTicks hl hS hA hW c h1 h2 rfl
  · rw [if_neg hc, if_neg hc]
    exact c1_passTicksOut hl hS hA hW n (by simpa using hc)
end TOT
