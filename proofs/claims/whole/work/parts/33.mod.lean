/-! THE REFERENCE as a whole: its cells, what they tell; its own methods (written by wip/whole/gen_mod.py) -/
def ShM (E : zE) (G : zG) (d : Nat) : Prop := (d, sMd d) ∈ G ∧ (d + 1, sI E 0 120) ∈ G ∧ (d + 2, sI E 0 65) ∈ G ∧ (d + 3, sI E 0 65) ∈ G ∧ (d + 4, sI E 0 910) ∈ G ∧ (d + 5, sI E 0 130) ∈ G ∧ (d + 6, sI E 1 2) ∈ G
def MT (I : zI) (d : Nat) (T : Nat → Nat) (n : Nat) : Prop := n ≤ 120 ∧ I d 2 = nI n ∧ ∀ k, k < n → T k < 256 ∧ I (d + 1) k = nI (T k)
def MN (I : zI) (d : Nat) (r : zR) : Prop := I (d + 2) = r ∧ WF r
def MA (I : zI) (d acts : Nat) (rr : Nat → zR) : Prop := I d 6 = nI acts ∧ acts ≤ 14 ∧ ∀ i, i < acts → WF (rr i) ∧ ∀ k, k < 65 → I (d + 4) (65 * i + k) = rr i k
def MF (I : zI) (d : Nat) (fl : Nat → Bool) : Prop := ∀ j, j < 2 → I (d + 6) j = z_b (fl j)
def MS (I : zI) (d : Nat) (sl : Nat → zR) (fl : Nat → Bool) : Prop := ∀ j, j < 2 → fl j = true → WF (sl j) ∧ ∀ k, k < 65 → I (d + 5) (65 * j + k) = sl j k
def AbsM (I : zI) (d : Nat) (S : zS) : Prop := MT I d S.2.2.1.1 S.2.2.1.2 ∧ MN I d S.1 ∧ MA I d S.2.1.1 S.2.1.2 ∧ MF I d S.2.2.2.2 ∧ MS I d S.2.2.2.1 S.2.2.2.2
def FrM (I I' : zI) (d : Nat) : Prop := ∀ q, (q < d ∨ d + 7 ≤ q) → I' q = I q
theorem FrM.rf {I : zI} {d : Nat} : FrM I I d := fun _ _ => rfl
theorem FrM.tr {I I' I'' : zI} {d : Nat} (h : FrM I I' d) (h' : FrM I' I'' d) : FrM I I'' d := fun q hq => (h' q hq).trans (h q hq)
theorem FrM.row {I : zI} {d a : Nat} {ρ : zR} (ha : d ≤ a ∧ a < d + 7) : FrM I (z_row I a ρ) d := fun q hq => z_row_ne _ _ _ (by omega)
theorem FrM.up {I : zI} {d a k : Nat} {x : Int32} (ha : d ≤ a ∧ a < d + 7) : FrM I (z_up I a k x) d := fun q hq => z_up_ne _ _ _ _ (by omega)
theorem MT.cg {I I' : zI} {d n : Nat} {T : Nat → Nat} (h : MT I d T n) (e1 : I' d 2 = I d 2) (e2 : I' (d + 1) = I (d + 1)) : MT I' d T n := ⟨h.1, e1.trans h.2.1, fun k hk => by rw [e2]; exact h.2.2 k hk⟩
theorem MN.cg {I I' : zI} {d : Nat} {r : zR} (h : MN I d r) (e : I' (d + 2) = I (d + 2)) : MN I' d r := ⟨e.trans h.1, h.2⟩
theorem MA.cg {I I' : zI} {d acts : Nat} {rr : Nat → zR} (h : MA I d acts rr) (e1 : I' d 6 = I d 6) (e2 : I' (d + 4) = I (d + 4)) : MA I' d acts rr := ⟨e1.trans h.1, h.2.1, fun i hi => ⟨(h.2.2 i hi).1, fun k hk => by rw [e2]; exact (h.2.2 i hi).2 k hk⟩⟩
theorem MF.cg {I I' : zI} {d : Nat} {fl : Nat → Bool} (h : MF I d fl) (e : I' (d + 6) = I (d + 6)) : MF I' d fl := fun j hj => by rw [e]; exact h j hj
theorem MS.cg {I I' : zI} {d : Nat} {sl : Nat → zR} {fl : Nat → Bool} (h : MS I d sl fl) (e : I' (d + 5) = I (d + 5)) : MS I' d sl fl := fun j hj hf => ⟨(h j hj hf).1, fun k hk => by rw [e]; exact (h j hj hf).2 k hk⟩
theorem AbsM.cg {I I' : zI} {d : Nat} {S : zS} (h : AbsM I d S) (e2 : I' d 2 = I d 2) (e6 : I' d 6 = I d 6) (e : ∀ q, d < q → q < d + 7 → q ≠ d + 3 → I' q = I q) : AbsM I' d S :=
  ⟨h.1.cg e2 (e _ (by omega) (by omega) (by omega)), h.2.1.cg (e _ (by omega) (by omega) (by omega)), h.2.2.1.cg e6 (e _ (by omega) (by omega) (by omega)), h.2.2.2.1.cg (e _ (by omega) (by omega) (by omega)), h.2.2.2.2.cg (e _ (by omega) (by omega) (by omega))⟩
theorem AbsM.fld {I : zI} {d : Nat} {S : zS} (h : AbsM I d S) (k : Nat) (x : Int32) (hk : k = 0 ∨ k = 9 ∨ k = 10) : AbsM (z_up I d k x) d S :=
  h.cg (by rw [z_up_row, z_row_at, pk_un (by omega)]) (by rw [z_up_row, z_row_at, pk_un (by omega)]) (fun q h1 h2 h3 => z_up_ne _ _ _ _ (by omega))
theorem AbsM.nowr {I : zI} {d : Nat} {S : zS} {r' : zR} (h : AbsM I d S) (hW : WF r') : AbsM (z_row I (d + 2) r') d (r', S.2) :=
  ⟨h.1.cg (by rw [z_row_ne _ _ _ (by omega)]) (z_row_ne _ _ _ (by omega)), ⟨z_row_at _ _ _, hW⟩, h.2.2.1.cg (by rw [z_row_ne _ _ _ (by omega)]) (z_row_ne _ _ _ (by omega)), h.2.2.2.1.cg (z_row_ne _ _ _ (by omega)), h.2.2.2.2.cg (z_row_ne _ _ _ (by omega))⟩
theorem AbsM.trialr {I : zI} {d : Nat} {S : zS} {ρ : zR} (h : AbsM I d S) : AbsM (z_row I (d + 3) ρ) d S :=
  h.cg (by rw [z_row_ne _ _ _ (by omega)]) (by rw [z_row_ne _ _ _ (by omega)]) (fun q h1 h2 h3 => z_row_ne _ _ _ h3)
def z_mP (d k : Nat) (v : Int32) (S S' : zS) (I : zI) (x : Int32) (I' : zI) : Prop := I' d 0 = nI k ∧ (k = 0 → x = v) ∧ AbsM I' d (if k = 0 then S' else S) ∧ FrM I I' d
def z_CM (E : zE) (l : Launch) (M : zM) (av : List Value) (G : zG) (I : zI) (sz d k : Nat) (v : Int32) (S S' : zS) : Prop := z_CI E l M 8 av G I sz (z_mP d k v S S' I)
section MOD
variable {E : zE} {l : Launch} {G : zG} {I : zI} {sz d : Nat} {S : zS}
set_option maxRecDepth 20000 in
set_option maxHeartbeats 4000000 in
theorem c5_refused (hl : l.stackTraces = false) (k0 : (d, sMd d) ∈ G) (x : Int32) : z_CI E l mX5_refused 0 [.ref d, .int x] G I sz (fun y I' => y = z_b (decide (0 < x)) ∧ I' = z_up I d 0 x) := by
  refine z_Ct.of hl pn_X5 [some (.ref d), some (.int x)] rfl (Nat.le_of_ble_eq_true rfl) ?_
  refine v_aload_n (pc' := 1) dX5_refused_0 rfl rfl ?_
  refine v_iload_n (pc' := 2) dX5_refused_1 rfl rfl ?_
  refine p_X5_33 (pc' := 5) rfl dX5_refused_2 (by assumption) rfl ?_
  refine v_iload_n (pc' := 6) dX5_refused_5 rfl rfl ?_
  refine v_if_le (tgt := 13) (pc' := 9) dX5_refused_6 (by decide) rfl (fun c_6 => ?_) (fun c_6 => ?_)
  · rw [← Int32.not_lt] at c_6
    refine v_iconst (pc' := 14) dX5_refused_13 kc_0 rfl ?_
    exact v_zret dX5_refused_14 rfl (Nat.le_refl _) (Nat.le_refl _) rfl ⟨_, rfl, rfl, rfl, by simp [z_b, c_6], rfl⟩
  · rw [Int32.not_le] at c_6
    refine v_iconst (pc' := 10) dX5_refused_9 kc_1 rfl ?_
    refine v_goto (tgt := 14) dX5_refused_10 (by decide) ?_
    exact v_zret dX5_refused_14 rfl (Nat.le_refl _) (Nat.le_refl _) rfl ⟨_, rfl, rfl, rfl, by simp [z_b, c_6], rfl⟩
set_option maxRecDepth 20000 in
set_option maxHeartbeats 4000000 in
theorem c5_thrown (hl : l.stackTraces = false) (k0 : (d, sMd d) ∈ G) : z_CR E l mX5_thrown 0 [.ref d] G I sz (.int (I d 0)) := by
  refine z_Ct.of hl pn_X5 [some (.ref d)] rfl (Nat.le_of_ble_eq_true rfl) ?_
  refine v_aload_n (pc' := 1) dX5_thrown_0 rfl rfl ?_
  refine g_X5_33 (pc' := 4) rfl dX5_thrown_1 (by assumption) rfl ?_
  exact v_iret dX5_thrown_4 rfl (Nat.le_refl _) (Nat.le_refl _) (z_rdi rfl)
set_option maxRecDepth 20000 in
set_option maxHeartbeats 4000000 in
theorem c5_remember (hl : l.stackTraces = false) (hK : ShM E G d) (hM : AbsM I d S) : z_CV E l mX5_remember 1 [.ref d] G I sz (fun I' => (MA I' d (acts_more S.2.1.1) (rr_more S.2.1.1 S.2.1.2 S.1) ∧ (∀ q, q ≠ d → q ≠ d + 4 → I' q = I q) ∧ ∀ w, w ≠ 6 → I' d w = I d w)) := by
  obtain ⟨k0, kT, kN, kR, kD, kP, kF⟩ := id hK
  obtain ⟨⟨tn, tl, tc⟩, ⟨nN, nW⟩, ⟨aA, a14, aR⟩, aF, aS⟩ := id hM
  have fin : ∀ (I1 : zI) (a : Nat), a < 14 → I1 d 6 = nI a → (∀ q, q ≠ d → q ≠ d + 4 → I1 q = I q) → (∀ w, w ≠ 6 → I1 d w = I d w) → acts_more S.2.1.1 = a + 1 → (∀ i, i < a → WF (rr_more S.2.1.1 S.2.1.2 S.1 i)) → (∀ i, i < a → ∀ k, k < 65 → I1 (d + 4) (65 * i + k) = rr_more S.2.1.1 S.2.1.2 S.1 i k) → rr_more S.2.1.1 S.2.1.2 S.1 a = S.1 → ∀ o : Option Value, z_V E l mX5_remember (z_rm 1 0 0) 0 0 (z_q (fun v' G' I' sz' => v' = none ∧ G' = G ∧ sz' = sz ∧ (MA I' d (acts_more S.2.1.1) (rr_more S.2.1.1 S.2.1.2 S.1) ∧ (∀ q, q ≠ d → q ≠ d + 4 → I' q = I q) ∧ ∀ w, w ≠ 6 → I' d w = I d w))) 0 0 G I1 sz 49 [some (.ref d), o] [] := by
    intro I1 a ha h6 hq hw9 hac hWr hrow hlast o
    refine v_aload_n (pc' := 50) dX5_remember_49 rfl rfl ?_
    refine g_X5_13 (pc' := 53) rfl dX5_remember_50 (by assumption) rfl ?_
    refine v_iconst (pc' := 54) dX5_remember_53 kc_0 rfl ?_
    refine v_aload_n (pc' := 55) dX5_remember_54 rfl rfl ?_
    refine g_X5_19 (pc' := 58) rfl dX5_remember_55 (by assumption) rfl ?_
    refine v_bipush (pc' := 60) dX5_remember_58 kb_65 rfl ?_
    refine v_aload_n (pc' := 61) dX5_remember_60 rfl rfl ?_
    refine g_X5_152 (pc' := 64) rfl dX5_remember_61 (by assumption) rfl ?_
    rw [h6]
    refine v_imul (pc' := 65) dX5_remember_64 rfl ?_
    rw [show (65 * nI a : Int32) = nI (65 * a) from pk_mul 65 a]
    refine v_cSV (pc' := 68) (c5_copyTo hl kN kD (by omega) 0 (65 * a) (by omega) (by omega) (by omega) (by omega) rfl rfl) dX5_remember_65 lk_X5_148 mwX5_copyState msX5_copyState rfl rfl (by decide) (Nat.le_of_ble_eq_true rfl) rfl ?_
    rintro _ rfl
    have e6 : z_row I1 (d + 4) (cpy (I1 (d + 2)) (I1 (d + 4)) 0 (65 * a) 65) d 6 = nI a := by rw [z_row_ne _ _ _ (by omega)]; exact h6
    refine v_aload_n (pc' := 69) dX5_remember_68 rfl rfl ?_
    refine v_dup (pc' := 70) dX5_remember_69 rfl rfl ?_
    refine g_X5_152 (pc' := 73) rfl dX5_remember_70 k0 rfl ?_
    rw [e6]
    refine v_iconst (pc' := 74) dX5_remember_73 kc_1 rfl ?_
    refine v_iadd (pc' := 75) dX5_remember_74 rfl ?_
    rw [nI_1]
    refine p_X5_152 (pc' := 78) rfl dX5_remember_75 (by assumption) rfl ?_
    refine v_vret dX5_remember_78 rfl (Nat.le_refl _) (Nat.le_refl _) ⟨rfl, rfl, rfl, ⟨by rw [z_up_row, z_row_at, pk_us, hac], by rw [hac]; omega, fun i hi => ?_⟩, fun q h1 h2 => by rw [z_up_ne _ _ _ _ h1, z_row_ne _ _ _ h2]; exact hq q h1 h2, fun w hw => by rw [z_up_row, z_row_at, pk_un hw, z_row_ne _ _ _ (by omega)]; exact hw9 w hw⟩
    rw [hac] at hi
    rw [z_up_ne _ _ _ _ (by omega), z_row_at]
    by_cases e : i = a
    · subst e
      refine ⟨by rw [hlast]; exact nW, fun k hk => ?_⟩
      rw [cpy_in (by omega) (by omega), hlast, hq _ (by omega) (by omega), nN]
      exact congrArg S.1 (by omega)
    · refine ⟨hWr i (by omega), fun k hk => ?_⟩
      rw [cpy_out (by omega)]
      exact hrow i (by omega) k hk
  have loop : S.2.1.1 = 14 → z_V E l mX5_remember (z_rm 1 0 0) 0 0 (z_q (fun v' G' I' sz' => v' = none ∧ G' = G ∧ sz' = sz ∧ (MA I' d (acts_more S.2.1.1) (rr_more S.2.1.1 S.2.1.2 S.1) ∧ (∀ q, q ≠ d → q ≠ d + 4 → I' q = I q) ∧ ∀ w, w ≠ 6 → I' d w = I d w))) 0 0 G I sz 11 [some (.ref d), some (.int 0)] [] := by
    intro h14
    obtain ⟨sh, hsh⟩ : ∃ sh : Nat → zR, ∀ j q, sh j q = if q < j then I (d + 4) (q + 65) else I (d + 4) q := ⟨fun j q => if q < j then I (d + 4) (q + 65) else I (d + 4) q, fun _ _ => rfl⟩
    have lp : ∀ (f j : Nat), 845 = j + f → z_V E l mX5_remember (z_rm 1 0 0) 0 0 (z_q (fun v' G' I' sz' => v' = none ∧ G' = G ∧ sz' = sz ∧ (MA I' d (acts_more S.2.1.1) (rr_more S.2.1.1 S.2.1.2 S.1) ∧ (∀ q, q ≠ d → q ≠ d + 4 → I' q = I q) ∧ ∀ w, w ≠ 6 → I' d w = I d w))) 0 0 G (z_row I (d + 4) (sh j)) sz 11 [some (.ref d), some (.int (nI j))] [] := by
      intro f
      induction f with
      | zero =>
        intro j hj
        rw [show j = 845 by omega]
        refine v_iload_n (pc' := 12) dX5_remember_11 rfl rfl ?_
        refine v_sipush (pc' := 15) dX5_remember_12 ks_845 rfl ?_
        refine v_icmp_ge (tgt := 39) (pc' := 18) dX5_remember_15 (by decide) rfl (fun c_15 => ?_) (fun c_15 => ?_)
        · refine v_aload_n (pc' := 40) dX5_remember_39 rfl rfl ?_
          refine v_dup (pc' := 41) dX5_remember_40 rfl rfl ?_
          refine g_X5_152 (pc' := 44) rfl dX5_remember_41 k0 rfl ?_
          rw [show z_row I (d + 4) (sh 845) d 6 = nI 14 by rw [z_row_ne _ _ _ (by omega), aA, h14]]
          refine v_iconst (pc' := 45) dX5_remember_44 kc_1 rfl ?_
          refine v_isub (pc' := 46) dX5_remember_45 rfl ?_
          rw [show (nI 14 - 1 : Int32) = nI 13 from rfl]
          refine p_X5_152 (pc' := 49) rfl dX5_remember_46 (by assumption) rfl ?_
          exact fin (z_up (z_row I (d + 4) (sh 845)) d 6 (nI 13)) 13 (by omega) (by rw [z_up_row, z_row_at, pk_us]) (fun q h1 h2 => by rw [z_up_ne _ _ _ _ h1, z_row_ne _ _ _ h2]) (fun w hw => by rw [z_up_row, z_row_at, pk_un hw, z_row_ne _ _ _ (by omega)]) (by rw [acts_more, if_neg (by omega)]) (fun i hi => by rw [rr_more, if_neg (by omega), if_neg (by omega)]; exact (aR (i + 1) (by omega)).1) (fun i hi k hk => by rw [rr_more, if_neg (by omega), if_neg (by omega), z_up_ne _ _ _ _ (by omega), z_row_at]; show sh 845 _ = _; rw [hsh, if_pos (by omega), ← (aR (i + 1) (by omega)).2 k hk, show 65 * i + k + 65 = 65 * (i + 1) + k by omega]) (by rw [rr_more, if_neg (by omega), if_pos rfl]) _
        · exact absurd (nI_le (a := 845) (by omega) (by omega)) c_15
      | succ f ih =>
        intro j hj
        refine v_iload_n (pc' := 12) dX5_remember_11 rfl rfl ?_
        refine v_sipush (pc' := 15) dX5_remember_12 ks_845 rfl ?_
        refine v_icmp_ge (tgt := 39) (pc' := 18) dX5_remember_15 (by decide) rfl (fun c_15 => ?_) (fun c_15 => ?_)
        · exact absurd c_15 (nI_ge (b := 845) (by omega) (by omega))
        · refine v_aload_n (pc' := 19) dX5_remember_18 rfl rfl ?_
          refine g_X5_19 (pc' := 22) rfl dX5_remember_19 (by assumption) rfl ?_
          refine v_iload_n (pc' := 23) dX5_remember_22 rfl rfl ?_
          refine v_aload_n (pc' := 24) dX5_remember_23 rfl rfl ?_
          refine g_X5_19 (pc' := 27) rfl dX5_remember_24 (by assumption) rfl ?_
          refine v_iload_n (pc' := 28) dX5_remember_27 rfl rfl ?_
          refine v_bipush (pc' := 30) dX5_remember_28 kb_65 rfl ?_
          refine v_iadd (pc' := 31) dX5_remember_30 rfl ?_
          rw [show (nI j + 65 : Int32) = nI (j + 65) from nI_add j 65]
          refine v_iald (pc' := 32) dX5_remember_31 (j + 65) rfl kD (by omega) (by decide) rfl ?_
          rw [z_row_at, hsh, if_neg (show ¬ j + 65 < j by omega)]
          refine v_iast (pc' := 33) dX5_remember_32 (j) rfl kD (by omega) (by decide) rfl ?_
          refine v_iinc1 (pc' := 36) dX5_remember_33 (by decide) rfl kc_1 (nI_1 j) rfl ?_
          refine v_goto (tgt := 11) dX5_remember_36 (by decide) ?_
          rw [z_up_row, z_row_row, z_row_at, show upd (sh j) j (I (d + 4) (j + 65)) = sh (j + 1) from funext fun q => by
            simp only [upd, hsh]
            by_cases e : q = j
            · subst e; simp
            · by_cases e2 : q < j
              · rw [if_neg e, if_pos e2, if_pos (by omega)]
              · rw [if_neg e, if_neg e2, if_neg (by omega)]]
          exact ih (j + 1) (by omega)
    have h9 := lp 845 0 rfl
    rw [show sh 0 = I (d + 4) from funext fun q => by rw [hsh, if_neg (by omega)], z_row_self] at h9
    exact h9
  refine z_Ct.of hl pn_X5 [some (.ref d), none] rfl (Nat.le_of_ble_eq_true rfl) ?_
  refine v_aload_n (pc' := 1) dX5_remember_0 rfl rfl ?_
  refine g_X5_152 (pc' := 4) rfl dX5_remember_1 (by assumption) rfl ?_
  rw [aA]
  refine v_bipush (pc' := 6) dX5_remember_4 kb_14 rfl ?_
  refine v_icmp_ne (tgt := 49) (pc' := 9) dX5_remember_6 (by decide) rfl (fun c_6 => ?_) (fun c_6 => ?_)
  · have h14 : ¬ S.2.1.1 = 14 := fun q => c_6 (by rw [q]; rfl)
    exact fin I S.2.1.1 (by omega) aA (fun _ _ _ => rfl) (fun _ _ => rfl) (by rw [acts_more, if_pos (by omega)]) (fun i hi => by rw [rr_more, if_pos (by omega), if_neg (by omega)]; exact (aR i hi).1) (fun i hi k hk => by rw [rr_more, if_pos (by omega), if_neg (by omega)]; exact (aR i hi).2 k hk) (by rw [rr_more, if_pos (by omega), if_pos rfl]) _
  · have h14 := (nI_eq (b := 14) (by omega) (by omega)).mp c_6
    refine v_iconst (pc' := 10) dX5_remember_9 kc_0 rfl ?_
    refine v_istore_n1 (pc' := 11) dX5_remember_10 (by decide) rfl rfl ?_
    exact loop h14
theorem AbsM.rem {I I' : zI} {d : Nat} {S : zS} (h : AbsM I d S) (hA : MA I' d (acts_more S.2.1.1) (rr_more S.2.1.1 S.2.1.2 S.1)) (hq : ∀ q, q ≠ d → q ≠ d + 4 → I' q = I q) (hw : ∀ w, w ≠ 6 → I' d w = I d w) : AbsM I' d (S.1, (acts_more S.2.1.1, rr_more S.2.1.1 S.2.1.2 S.1), S.2.2) :=
  ⟨h.1.cg (hw 2 (by omega)) (hq _ (by omega) (by omega)), h.2.1.cg (hq _ (by omega) (by omega)), hA, h.2.2.2.1.cg (hq _ (by omega) (by omega)), h.2.2.2.2.cg (hq _ (by omega) (by omega))⟩
end MOD
