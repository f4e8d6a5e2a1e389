/-! the start: both objects tell of the same new array -/
def S_new : zS := (p_new, (0, fun _ => p_new), (fun _ => 0, 0), (fun _ => p_new, fun _ => false))
theorem AbsK.start {I : zI} {c : Nat} (h1 : I (c + 1) 1 = 0) (h2 : Abs I (c + 3) p_new) (h3 : I (c + 23) 1 = 0) (h4 : I (c + 23) 2 = 0) (h5 : ∀ j, I (c + 166) j = 0) : AbsK I c S_new :=
  ⟨⟨Nat.zero_le _, h1, fun k hk => absurd hk (Nat.not_lt_zero k)⟩, h2, WF_new, ⟨0, by omega, h3, h4, Nat.zero_le _, fun i hi => absurd hi (Nat.not_lt_zero i)⟩, fun j _ => h5 j, fun j _ hf => by cases hf⟩
