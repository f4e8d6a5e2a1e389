/-! THE REFERENCE's windows (written by wip/whole/gen_mod5.py) -/
def bt (x : Int32) (t : Nat) : Bool := decide (¬ ((x >>> (nI t &&& 31)) &&& 1) = 0)
theorem bt_0 : ∀ t : Fin 6, bt (nI 0) t.val = false := by decide +kernel
theorem bt_or : ∀ (M : Fin 64) (t : Fin 6), (nI M.val ||| ((1 : Int32) <<< (nI t.val &&& 31)) = nI (M.val ||| 2 ^ t.val)) ∧ (M.val ||| 2 ^ t.val) < 64 := by decide +kernel
theorem bt_up : ∀ (M : Fin 64) (t u : Fin 6), bt (nI (M.val ||| 2 ^ t.val)) u.val = (decide (u = t) || bt (nI M.val) u.val) := by decide +kernel
/-- the task takes a stripe from a to below b -/
def tk (r : zR) (a b t : Nat) : Bool := decide (a < b ∧ ¬ tI r t 5 = -1 ∧ tI r t 5 < b ∧ (a : Int) < tI r t 5 + tI r t 0)
def sm (P : Nat → Bool) (w : Nat → Int32) : Nat → Nat → Int32 → Int32
  | 0, _, x => x
  | n + 1, t, x => sm P w n (t + 1) (if P t then x + w t else x)
theorem sm_add (P : Nat → Bool) (w : Nat → Int32) (y : Int32) : ∀ (n t : Nat) (x : Int32), sm P w n t (x + y) = sm P w n t x + y
  | 0, _, _ => rfl
  | n + 1, t, x => by
    rw [sm, sm]
    by_cases h : P t = true
    · rw [if_pos h, if_pos h, ← sm_add P w y n (t + 1), Int32.add_assoc, Int32.add_comm y, ← Int32.add_assoc]
    · rw [if_neg h, if_neg h, sm_add P w y n (t + 1)]
theorem sm_cg {P P' : Nat → Bool} (w : Nat → Int32) : ∀ (n t : Nat) (x : Int32), (∀ u, t ≤ u → u < t + n → P' u = P u) → sm P' w n t x = sm P w n t x
  | 0, _, _, _ => rfl
  | n + 1, t, x, h => by rw [sm, sm, h t (by omega) (by omega), sm_cg w n (t + 1) _ (fun u h1 h2 => h u (by omega) (by omega))]
theorem sm_up {P P' : Nat → Bool} (w : Nat → Int32) (v : Nat) (h1 : P' v = true) (h0 : P v = false) : ∀ (n t : Nat) (x : Int32), t ≤ v → v < t + n → (∀ u, t ≤ u → u < t + n → u ≠ v → P' u = P u) → sm P' w n t x = sm P w n t x + w v
  | 0, t, _, a, b, _ => by omega
  | n + 1, t, x, a, b, h => by
    rw [sm, sm]
    by_cases e : t = v
    · subst e
      rw [if_pos h1, if_neg (by rw [h0]; decide), sm_add, sm_cg w n (t + 1) x (fun u q1 q2 => h u (by omega) (by omega) (by omega))]
    · rw [h t (by omega) (by omega) e, sm_up w v h1 h0 n (t + 1) _ (by omega) (by omega) (fun u q1 q2 q3 => h u (by omega) (by omega) q3)]
theorem wwn_sm (r : zR) (f m : Int32) : ∀ (n t : Nat) (x : Int32), p_wwn r f m n t x = sm (fun t => p_one r t f m) (fun t => tf r t 0) n t x
  | 0, _, _ => rfl
  | n + 1, t, x => by rw [p_wwn, sm, wwn_sm r f m n (t + 1)]
theorem one_tk {r : zR} (h : WF r) {t a w : Nat} (ht : t < cnt r) (hw : 1 ≤ w) (haw : a + w ≤ 12) : p_one r t (nI a) (nI w) = tk r a (a + w) t := by
  obtain ⟨w1, -, -, w4, w5⟩ := h.2.1 t ht
  have e : (tf r t 5 + tf r t 0).toInt = tI r t 5 + tI r t 0 := I32_add (by unfold tI at *; omega) (by unfold tI at *; omega)
  have e1 : tf r t 5 = -1 ↔ tI r t 5 = -1 := ⟨fun q => by unfold tI; rw [q]; rfl, fun q => Int32.toInt_inj.mp (by rw [i_m1]; exact q)⟩
  rw [Bool.eq_iff_iff]
  simp only [p_one, tk, Bool.and_eq_true, decide_eq_true_eq]
  rw [nI_add, Int32.lt_iff_toInt_lt, Int32.lt_iff_toInt_lt, e, nI_toInt (by omega), nI_toInt (by omega), e1]
  unfold tI at *
  omega
theorem tk_step {r : zR} (h : WF r) {t a k : Nat} (ht : t < cnt r) (hak : a ≤ k) (hk : k < 12) : tk r a (k + 1) t = (tk r a k t || p_takes r t (nI k)) := by
  obtain ⟨w1, -, -, w4, w5⟩ := h.2.1 t ht
  rw [Bool.eq_iff_iff]
  simp only [Bool.or_eq_true, takes_iff h ht, nI_toInt (show k < 2 ^ 31 by omega)]
  simp only [tk, decide_eq_true_eq]
  omega
theorem sm_val {r : zR} (h : WF r) (P : Nat → Bool) : ∀ (n t y : Nat), t + n ≤ cnt r → y ≤ 6 * t → ∃ k : Nat, k ≤ 6 * (t + n) ∧ sm P (fun t => tf r t 0) n t (nI y) = nI k
  | 0, t, y, _, hy => ⟨y, by omega, rfl⟩
  | n + 1, t, y, ht, hy => by
    obtain ⟨w, w1, w6, ew⟩ := WF_w h (show t < cnt r by omega)
    rw [sm]
    split
    · rw [ew, nI_add]
      obtain ⟨k, hk, e⟩ := sm_val h P n (t + 1) (y + w) (by omega) (by omega)
      exact ⟨k, by omega, e⟩
    · obtain ⟨k, hk, e⟩ := sm_val h P n (t + 1) y (by omega) (by omega)
      exact ⟨k, by omega, e⟩
theorem ww_ne {r : zR} (h : WF r) (f m : Int32) : ¬ p_ww r f m = -1 := by
  have h6 := h.1.1
  obtain ⟨k, hk, e⟩ := sm_val h (fun t => p_one r t f m) (cnt r) 0 0 (by omega) (by omega)
  rw [p_ww, wwn_sm, show (0 : Int32) = nI 0 from rfl, e]
  exact nI_m1 (by omega)
section MOD5
variable {E : zE} {l : Launch} {G : zG} {I : zI} {sz d a : Nat} {S : zS}
theorem sm_none (w : Nat → Int32) : ∀ (n t : Nat) (x : Int32), sm (fun _ => false) w n t x = x
  | 0, _, _ => rfl
  | n + 1, t, x => by rw [sm, if_neg (by decide), sm_none w n]
set_option maxRecDepth 20000 in
set_option maxHeartbeats 4000000 in
theorem c5_inWay (hl : l.stackTraces = false) (hq : (a, sI E 0 65) ∈ G) (hW : WF (I a)) (s w : Nat) (hw : 1 ≤ w) (hsw : s + w ≤ 12) : z_CR E l mX5_inWay 3 [.ref a, .int (nI s), .int (nI w)] G I sz (.int (if p_mfn (I a) w s then p_ww (I a) (nI s) (nI w) else -1)) := by
  have h6 := hW.1.1
  have loop : ∀ (n k M : Nat) (x : Int32) (o : Option Value), z_c1 o = true → s + w = k + n → s ≤ k → M < 64 → (∀ t, t < cnt (I a) → bt (nI M) t = tk (I a) s k t) → x = sm (tk (I a) s k) (fun t => tf (I a) t 0) (cnt (I a)) 0 0 → p_mfn (I a) n k = p_mfn (I a) w s → z_V E l mX5_inWay (z_rm 3 0 0) 0 0 (z_q (fun v' G' I' sz' => v' = some (.int (if p_mfn (I a) w s then p_ww (I a) (nI s) (nI w) else -1)) ∧ G' = G ∧ I' = I ∧ sz' = sz)) 0 0 G I sz 8 [some (.ref a), some (.int (nI s)), some (.int (nI w)), some (.int (nI M)), some (.int x), some (.int (nI k)), o] [] := by
    intro n
    induction n with
    | zero =>
      intro k M x o ho hk hsk hM hbt hx hp
      have hfin : s + w = k → x = (if p_mfn (I a) 0 k then p_ww (I a) (nI s) (nI w) else -1) := fun e => by
        rw [p_mfn, if_pos rfl, hx, p_ww, wwn_sm, ← e]
        exact sm_cg _ _ _ _ (fun t _ ht => (one_tk hW (by omega) hw hsw).symm)
      refine v_iload (pc' := 10) dX5_inWay_8 rfl rfl ?_
      refine v_iload_n (pc' := 11) dX5_inWay_10 rfl rfl ?_
      refine v_iload_n (pc' := 12) dX5_inWay_11 rfl rfl ?_
      refine v_iadd (pc' := 13) dX5_inWay_12 rfl ?_
      rw [nI_add]
      refine v_icmp_ge (tgt := 87) (pc' := 16) dX5_inWay_13 (by decide) rfl (fun c_13 => ?_) (fun c_13 => ?_)
      · refine v_iload (pc' := 89) dX5_inWay_87 rfl rfl ?_
        exact v_iret dX5_inWay_89 rfl (Nat.le_refl _) (Nat.le_refl _) (z_rdi (by rw [← hp]; exact hfin (by omega)))
      · exact absurd (nI_le (by omega) (by omega)) c_13
    | succ n ih =>
      intro k M x o ho hk hsk hM hbt hx hp
      refine v_iload (pc' := 10) dX5_inWay_8 rfl rfl ?_
      refine v_iload_n (pc' := 11) dX5_inWay_10 rfl rfl ?_
      refine v_iload_n (pc' := 12) dX5_inWay_11 rfl rfl ?_
      refine v_iadd (pc' := 13) dX5_inWay_12 rfl ?_
      rw [nI_add]
      refine v_icmp_ge (tgt := 87) (pc' := 16) dX5_inWay_13 (by decide) rfl (fun c_13 => ?_) (fun c_13 => ?_)
      · exact absurd c_13 (nI_ge (by omega) (by omega))
      · refine v_aload_n (pc' := 17) dX5_inWay_16 rfl rfl ?_
        refine v_bipush (pc' := 19) dX5_inWay_17 kb_11 rfl ?_
        refine v_iload (pc' := 21) dX5_inWay_19 rfl rfl ?_
        refine v_iadd (pc' := 22) dX5_inWay_21 rfl ?_
        refine v_iald (pc' := 23) dX5_inWay_22 (11 + k) (z_ix11 k) hq (by omega) (by decide) rfl ?_
        refine v_iconst (pc' := 24) dX5_inWay_23 kc_1 rfl ?_
        refine v_icmp_eq (tgt := 37) (pc' := 27) dX5_inWay_24 (by decide) rfl (fun c_24 => ?_) (fun c_24 => ?_)
        · have c2 : p_mfn (I a) (n + 1) k = false := by rw [p_mfn, if_neg (fun q => by rw [q.1] at c_24; exact absurd c_24 (by decide))]
          refine v_iconst (pc' := 38) dX5_inWay_37 kc_m1 rfl ?_
          exact v_iret dX5_inWay_38 rfl (Nat.le_refl _) (Nat.le_refl _) (z_rdi (by rw [← hp, c2]; rfl))
        · have g0 : I a (11 + k) = 0 := (hW.2.2.2.1 k (by omega)).resolve_right c_24
          refine v_aload_n (pc' := 28) dX5_inWay_27 rfl rfl ?_
          refine v_iload (pc' := 30) dX5_inWay_28 rfl rfl ?_
          refine v_cSR (pc' := 33) (c5_comer hl hq hW (nI k)) dX5_inWay_30 lk_X5_55 mwX5_comer msX5_comer rfl rfl (by decide) (Nat.le_of_ble_eq_true rfl) rfl ?_
          refine v_iconst (pc' := 34) dX5_inWay_33 kc_m1 rfl ?_
          refine v_icmp_eq (tgt := 39) (pc' := 37) dX5_inWay_34 (by decide) rfl (fun c_34 => ?_) (fun c_34 => ?_)
          · have hp2 : p_mfn (I a) n (k + 1) = p_mfn (I a) w s := by rw [← hp, p_mfn, if_pos (And.intro g0 c_34)]
            refine v_aload_n (pc' := 40) dX5_inWay_39 rfl rfl ?_
            refine v_iload (pc' := 42) dX5_inWay_40 rfl rfl ?_
            refine v_cSR (pc' := 45) (c5_taker hl hq hW (nI k)) dX5_inWay_42 lk_X5_51 mwX5_taker msX5_taker rfl rfl (by decide) (Nat.le_of_ble_eq_true rfl) rfl ?_
            refine v_istore6 (pc' := 47) dX5_inWay_45 (by decide) rfl rfl ?_
            refine v_iload (pc' := 49) dX5_inWay_47 rfl rfl ?_
            refine v_iconst (pc' := 50) dX5_inWay_49 kc_m1 rfl ?_
            refine v_icmp_eq (tgt := 81) (pc' := 53) dX5_inWay_50 (by decide) rfl (fun c_50 => ?_) (fun c_50 => ?_)
            · have nt : ∀ t, t < cnt (I a) → tk (I a) s (k + 1) t = tk (I a) s k t := fun t ht => by
                rw [tk_step hW ht (by omega) (by omega)]
                cases h9 : p_takes (I a) t (nI k) with
                | false => rw [Bool.or_false]
                | true => rw [taker_of hW ht h9] at c_50; exact absurd c_50 (nI_m1 (by omega))
              refine v_iinc5 (pc' := 84) dX5_inWay_81 (by decide) rfl kc_1 (nI_1 k) rfl ?_
              refine v_goto (tgt := 8) dX5_inWay_84 (by decide) ?_
              first
                | exact ih (k + 1) M _ _ rfl (by omega) (by omega) hM (fun t ht => by rw [nt t ht]; exact hbt t ht) (by rw [hx]; exact (sm_cg _ _ _ _ (fun t _ ht => nt t (by omega))).symm) hp2
                | exact ih (k + 1) (M ||| 2 ^ u) _ _ rfl (by omega) (by omega) o2 (fun t ht => by
                    have h9 := bt_up ⟨M, hM⟩ ⟨u, by omega⟩ ⟨t, by omega⟩
                    by_cases e : t = u
                    · subst e; rw [tu]; simpa using h9
                    · rw [nu t ht e, ← hbt t ht]
                      have e2 : ¬ ((⟨t, by omega⟩ : Fin 6) = ⟨u, by omega⟩) := fun q => e (Fin.mk.inj q)
                      rw [decide_eq_false e2, Bool.false_or] at h9
                      exact h9) (by rw [hx]; exact (sm_up (fun t => tf (I a) t 0) u tu tu0 (cnt (I a)) 0 0 (by omega) (by omega) (fun t _ ht hne => nu t (by omega) hne)).symm) hp2
            · obtain ⟨u, hu, hv, htk⟩ := (p_taker_cases (I a) (nI k)).resolve_left c_50
              have nu : ∀ t, t < cnt (I a) → t ≠ u → tk (I a) s (k + 1) t = tk (I a) s k t := fun t ht hne => by
                rw [tk_step hW ht (by omega) (by omega)]
                cases h9 : p_takes (I a) t (nI k) with
                | false => rw [Bool.or_false]
                | true => exact absurd (takes_uniq hW ht hu h9 htk) hne
              have tu : tk (I a) s (k + 1) u = true := by rw [tk_step hW hu (by omega) (by omega), htk, Bool.or_true]
              rw [hv]
              refine v_iload_n (pc' := 54) dX5_inWay_53 rfl rfl ?_
              refine v_iload (pc' := 56) dX5_inWay_54 rfl rfl ?_
              refine v_ishr (pc' := 57) dX5_inWay_56 rfl ?_
              refine v_iconst (pc' := 58) dX5_inWay_57 kc_1 rfl ?_
              refine v_iand (pc' := 59) dX5_inWay_58 rfl ?_
              refine v_if_ne (tgt := 81) (pc' := 62) dX5_inWay_59 (by decide) rfl (fun c_59 => ?_) (fun c_59 => ?_)
              · have b1 : bt (nI M) u = true := decide_eq_true c_59
                have tu0 : tk (I a) s k u = true := by rw [← hbt u hu]; exact b1
                have nt : ∀ t, t < cnt (I a) → tk (I a) s (k + 1) t = tk (I a) s k t := fun t ht => by
                  by_cases e : t = u
                  · rw [e, tu, tu0]
                  · exact nu t ht e
                refine v_iinc5 (pc' := 84) dX5_inWay_81 (by decide) rfl kc_1 (nI_1 k) rfl ?_
                refine v_goto (tgt := 8) dX5_inWay_84 (by decide) ?_
                first
                  | exact ih (k + 1) M _ _ rfl (by omega) (by omega) hM (fun t ht => by rw [nt t ht]; exact hbt t ht) (by rw [hx]; exact (sm_cg _ _ _ _ (fun t _ ht => nt t (by omega))).symm) hp2
                  | exact ih (k + 1) (M ||| 2 ^ u) _ _ rfl (by omega) (by omega) o2 (fun t ht => by
                      have h9 := bt_up ⟨M, hM⟩ ⟨u, by omega⟩ ⟨t, by omega⟩
                      by_cases e : t = u
                      · subst e; rw [tu]; simpa using h9
                      · rw [nu t ht e, ← hbt t ht]
                        have e2 : ¬ ((⟨t, by omega⟩ : Fin 6) = ⟨u, by omega⟩) := fun q => e (Fin.mk.inj q)
                        rw [decide_eq_false e2, Bool.false_or] at h9
                        exact h9) (by rw [hx]; exact (sm_up (fun t => tf (I a) t 0) u tu tu0 (cnt (I a)) 0 0 (by omega) (by omega) (fun t _ ht hne => nu t (by omega) hne)).symm) hp2
              · have b1 : bt (nI M) u = false := decide_eq_false (not_not_intro c_59)
                have tu0 : tk (I a) s k u = false := by rw [← hbt u hu]; exact b1
                obtain ⟨o1, o2⟩ := bt_or ⟨M, hM⟩ ⟨u, by omega⟩
                refine v_iload_n (pc' := 63) dX5_inWay_62 rfl rfl ?_
                refine v_iconst (pc' := 64) dX5_inWay_63 kc_1 rfl ?_
                refine v_iload (pc' := 66) dX5_inWay_64 rfl rfl ?_
                refine v_ishl (pc' := 67) dX5_inWay_66 rfl ?_
                refine v_ior (pc' := 68) dX5_inWay_67 rfl ?_
                rw [show nI M ||| ((1 : Int32) <<< (nI u &&& 31)) = nI (M ||| 2 ^ u) from o1]
                refine v_istore_n3 (pc' := 69) dX5_inWay_68 (by decide) rfl rfl ?_
                refine v_iload (pc' := 71) dX5_inWay_69 rfl rfl ?_
                refine v_aload_n (pc' := 72) dX5_inWay_71 rfl rfl ?_
                refine v_iload (pc' := 74) dX5_inWay_72 rfl rfl ?_
                refine v_iconst (pc' := 75) dX5_inWay_74 kc_0 rfl ?_
                refine v_cSR (pc' := 78) (c5_of hl hq u 0 rfl rfl (by omega)) dX5_inWay_75 lk_X5_43 mwX5_of msX5_of rfl rfl (by decide) (Nat.le_of_ble_eq_true rfl) rfl ?_
                refine v_iadd (pc' := 79) dX5_inWay_78 rfl ?_
                refine v_istore4 (pc' := 81) dX5_inWay_79 (by decide) rfl rfl ?_
                refine v_iinc5 (pc' := 84) dX5_inWay_81 (by decide) rfl kc_1 (nI_1 k) rfl ?_
                refine v_goto (tgt := 8) dX5_inWay_84 (by decide) ?_
                first
                  | exact ih (k + 1) M _ _ rfl (by omega) (by omega) hM (fun t ht => by rw [nt t ht]; exact hbt t ht) (by rw [hx]; exact (sm_cg _ _ _ _ (fun t _ ht => nt t (by omega))).symm) hp2
                  | exact ih (k + 1) (M ||| 2 ^ u) _ _ rfl (by omega) (by omega) o2 (fun t ht => by
                      have h9 := bt_up ⟨M, hM⟩ ⟨u, by omega⟩ ⟨t, by omega⟩
                      by_cases e : t = u
                      · subst e; rw [tu]; simpa using h9
                      · rw [nu t ht e, ← hbt t ht]
                        have e2 : ¬ ((⟨t, by omega⟩ : Fin 6) = ⟨u, by omega⟩) := fun q => e (Fin.mk.inj q)
                        rw [decide_eq_false e2, Bool.false_or] at h9
                        exact h9) (by rw [hx]; exact (sm_up (fun t => tf (I a) t 0) u tu tu0 (cnt (I a)) 0 0 (by omega) (by omega) (fun t _ ht hne => nu t (by omega) hne)).symm) hp2
          · have c2 : p_mfn (I a) (n + 1) k = false := by rw [p_mfn, if_neg (fun q => c_34 q.2)]
            refine v_iconst (pc' := 38) dX5_inWay_37 kc_m1 rfl ?_
            exact v_iret dX5_inWay_38 rfl (Nat.le_refl _) (Nat.le_refl _) (z_rdi (by rw [← hp, c2]; rfl))
  refine z_Ct.of hl pn_X5 [some (.ref a), some (.int (nI s)), some (.int (nI w)), none, none, none, none] rfl (Nat.le_of_ble_eq_true rfl) ?_
  refine v_iconst (pc' := 1) dX5_inWay_0 kc_0 rfl ?_
  refine v_istore_n3 (pc' := 2) dX5_inWay_1 (by decide) rfl rfl ?_
  refine v_iconst (pc' := 3) dX5_inWay_2 kc_0 rfl ?_
  refine v_istore4 (pc' := 5) dX5_inWay_3 (by decide) rfl rfl ?_
  refine v_iload_n (pc' := 6) dX5_inWay_5 rfl rfl ?_
  refine v_istore5 (pc' := 8) dX5_inWay_6 (by decide) rfl rfl ?_
  exact loop w s 0 0 none rfl rfl (by omega) (by omega) (fun t ht => by rw [bt_0 ⟨t, by omega⟩]; simp [tk]) (by
    rw [sm_cg (P := fun _ => false) _ _ _ _ (fun t _ _ => by simp [tk])]
    exact (sm_none _ (cnt (I a)) 0 0).symm) rfl
theorem winn_x (r : zR) (w : Nat) : ∀ (n s : Nat) (x x' : Int32), p_winn r w n s (-1) x = p_winn r w n s (-1) x'
  | 0, _, _, _ => rfl
  | n + 1, s, x, x' => by
    rw [p_winn, p_winn]
    by_cases h : p_mfn r w s = true
    · rw [if_pos ⟨h, Or.inl rfl⟩, if_pos ⟨h, Or.inl rfl⟩]
    · rw [if_neg (fun q => h q.1), if_neg (fun q => h q.1), winn_x r w n (s + 1) x x']
set_option maxRecDepth 20000 in
set_option maxHeartbeats 4000000 in
theorem m_winL (hl : l.stackTraces = false) (hK : ShM E G d) (w : Nat) (w1 : 1 ≤ w) (w2 : w ≤ 12) (y : Int32) (I1 : zI) (r1 : I1 d 0 = 0) (hM1 : AbsM I1 d S) (hF1 : FrM I I1 d) (hkz : e_win (nI w) y = 0) : ∀ (n s : Nat) (b x : Int32) (o6 o7 : Option Value), z_c1 o6 = true → z_c1 o7 = true → 13 = s + w + n → ((b = -1 ∧ x = -1) ∨ (¬ b = -1 ∧ x = p_ww S.1 b (nI w))) → p_winn S.1 w n s b x = p_winn S.1 w (13 - w) 0 (-1) 0 → z_V E l mX5_window (z_rm 8 0 0) 0 0 (z_q (fun v' G' I' sz' => ∃ y9, v' = some (.int y9) ∧ G' = G ∧ sz' = sz ∧ z_mP d (e_win (nI w) y) (v_win S.1 (nI w) y) S S I y9 I')) 0 0 G I1 sz 44 [some (.ref d), some (.int (nI w)), some (.int y), some (.int b), some (.int x), some (.int (nI s)), o6, o7] [] := by
  obtain ⟨k0, kT, kN, kR, kD, kP, kF⟩ := id hK
  obtain ⟨bN, bW⟩ := hM1.2.1
  intro n
  induction n with
  | zero =>
    intro s b x o6 o7 ho6 ho7 hs hx hp
    · refine v_iload (pc' := 46) dX5_window_44 rfl rfl ?_
      refine v_iload_n (pc' := 47) dX5_window_46 rfl rfl ?_
      refine v_iadd (pc' := 48) dX5_window_47 rfl ?_
      refine v_bipush (pc' := 50) dX5_window_48 kb_12 rfl ?_
      rw [nI_add]
      refine v_icmp_gt (tgt := 122) (pc' := 53) dX5_window_50 (by decide) rfl (fun c_50 => ?_) (fun c_50 => ?_)
      · refine v_iload_n (pc' := 123) dX5_window_122 rfl rfl ?_
        refine v_if_ne (tgt := 130) (pc' := 126) dX5_window_123 (by decide) rfl (fun c_123 => ?_) (fun c_123 => ?_)
        · refine v_iload (pc' := 132) dX5_window_130 rfl rfl ?_
          exact v_iret dX5_window_132 rfl (Nat.le_refl _) (Nat.le_refl _) ⟨_, rfl, rfl, rfl, by rw [hkz]; exact r1, fun _ => by
            have hv : v_win0 S.1 (nI w) = b := by rw [v_win0, nI_clamp (by omega), ← hp, p_winn]
            unfold v_win
            rw [hv]
            first
              | (rw [if_pos (Or.inr c_123)]; done)
              | (rcases hx with ⟨h1, h2⟩ | ⟨h1, h2⟩
                 · rw [if_pos (Or.inl h1), h1, h2]
                 · rw [if_neg (fun q => q.elim h1 c_123), h2]), by rw [hkz]; exact hM1, hF1⟩
        · refine v_iload_n (pc' := 127) dX5_window_126 rfl rfl ?_
          refine v_goto (tgt := 132) dX5_window_127 (by decide) ?_
          exact v_iret dX5_window_132 rfl (Nat.le_refl _) (Nat.le_refl _) ⟨_, rfl, rfl, rfl, by rw [hkz]; exact r1, fun _ => by
            have hv : v_win0 S.1 (nI w) = b := by rw [v_win0, nI_clamp (by omega), ← hp, p_winn]
            unfold v_win
            rw [hv]
            first
              | (rw [if_pos (Or.inr c_123)]; done)
              | (rcases hx with ⟨h1, h2⟩ | ⟨h1, h2⟩
                 · rw [if_pos (Or.inl h1), h1, h2]
                 · rw [if_neg (fun q => q.elim h1 c_123), h2]), by rw [hkz]; exact hM1, hF1⟩
      · exact absurd (nI_lt (a := 12) (by omega) (by omega)) c_50
  | succ n ih =>
    intro s b x o6 o7 ho6 ho7 hs hx hp
    · refine v_iload (pc' := 46) dX5_window_44 rfl rfl ?_
      refine v_iload_n (pc' := 47) dX5_window_46 rfl rfl ?_
      refine v_iadd (pc' := 48) dX5_window_47 rfl ?_
      refine v_bipush (pc' := 50) dX5_window_48 kb_12 rfl ?_
      rw [nI_add]
      refine v_icmp_gt (tgt := 122) (pc' := 53) dX5_window_50 (by decide) rfl (fun c_50 => ?_) (fun c_50 => ?_)
      · exact absurd c_50 (nI_nlt (b := s + w) (a := 12) (by omega) (by omega))
      · refine v_aload_n (pc' := 54) dX5_window_53 rfl rfl ?_
        refine g_X5_13 (pc' := 57) rfl dX5_window_54 (by assumption) rfl ?_
        refine v_iload (pc' := 59) dX5_window_57 rfl rfl ?_
        refine v_iload_n (pc' := 60) dX5_window_59 rfl rfl ?_
        refine v_cSR (pc' := 63) (c5_inWay hl kN (by rw [bN]; exact bW) s w w1 (by omega)) dX5_window_60 lk_X5_182 mwX5_inWay msX5_inWay rfl rfl (by decide) (Nat.le_of_ble_eq_true rfl) rfl ?_
        rw [bN]
        refine v_istore6 (pc' := 65) dX5_window_63 (by decide) rfl rfl ?_
        refine v_iload (pc' := 67) dX5_window_65 rfl rfl ?_
        refine v_iconst (pc' := 68) dX5_window_67 kc_m1 rfl ?_
        refine v_icmp_eq (tgt := 87) (pc' := 71) dX5_window_68 (by decide) rfl (fun c_68 => ?_) (fun c_68 => ?_)
        · have cm : ¬ p_mfn S.1 w s = true := fun q => by rw [if_pos q] at c_68; exact ww_ne bW _ _ c_68
          refine v_iconst (pc' := 88) dX5_window_87 kc_0 rfl ?_
          refine v_istore7 (pc' := 90) dX5_window_88 (by decide) rfl rfl ?_
          refine v_iload (pc' := 92) dX5_window_90 rfl rfl ?_
          refine v_if_eq (tgt := 100) (pc' := 95) dX5_window_92 (by decide) rfl (fun c_92 => ?_) (fun c_92 => ?_)
          · refine v_iload_n (pc' := 101) dX5_window_100 rfl rfl ?_
            refine v_istore_n3 (pc' := 102) dX5_window_101 (by decide) rfl rfl ?_
            refine v_iload (pc' := 104) dX5_window_102 rfl rfl ?_
            refine v_if_eq (tgt := 112) (pc' := 107) dX5_window_104 (by decide) rfl (fun c_104 => ?_) (fun c_104 => ?_)
            · refine v_iload (pc' := 114) dX5_window_112 rfl rfl ?_
              refine v_istore4 (pc' := 116) dX5_window_114 (by decide) rfl rfl ?_
              refine v_iinc5 (pc' := 119) dX5_window_116 (by decide) rfl kc_1 (nI_1 s) rfl ?_
              refine v_goto (tgt := 44) dX5_window_119 (by decide) ?_
              first
                | exact absurd c_92 (by decide)
                | exact absurd rfl c_92
                | exact absurd c_104 (by decide)
                | exact absurd rfl c_104
                | exact ih (s + 1) _ _ _ _ rfl rfl (by omega) hx (by rw [← hp, p_winn, if_neg (fun q => cm q.1)])
                | exact ih (s + 1) _ _ _ _ rfl rfl (by omega) (Or.inr ⟨nI_m1 (by omega), rfl⟩) (by rw [← hp, p_winn, if_pos (And.intro cm (by first | exact Or.inl c_73 | exact Or.inr c_80))])
                | exact ih (s + 1) _ _ _ _ rfl rfl (by omega) hx (by rw [← hp, p_winn, if_neg (fun q => q.2.elim c_73 c_80)])
            · refine v_iload (pc' := 109) dX5_window_107 rfl rfl ?_
              refine v_goto (tgt := 114) dX5_window_109 (by decide) ?_
              refine v_istore4 (pc' := 116) dX5_window_114 (by decide) rfl rfl ?_
              refine v_iinc5 (pc' := 119) dX5_window_116 (by decide) rfl kc_1 (nI_1 s) rfl ?_
              refine v_goto (tgt := 44) dX5_window_119 (by decide) ?_
              first
                | exact absurd c_92 (by decide)
                | exact absurd rfl c_92
                | exact absurd c_104 (by decide)
                | exact absurd rfl c_104
                | exact ih (s + 1) _ _ _ _ rfl rfl (by omega) hx (by rw [← hp, p_winn, if_neg (fun q => cm q.1)])
                | exact ih (s + 1) _ _ _ _ rfl rfl (by omega) (Or.inr ⟨nI_m1 (by omega), rfl⟩) (by rw [← hp, p_winn, if_pos (And.intro cm (by first | exact Or.inl c_73 | exact Or.inr c_80))])
                | exact ih (s + 1) _ _ _ _ rfl rfl (by omega) hx (by rw [← hp, p_winn, if_neg (fun q => q.2.elim c_73 c_80)])
          · refine v_iload (pc' := 97) dX5_window_95 rfl rfl ?_
            refine v_goto (tgt := 101) dX5_window_97 (by decide) ?_
            refine v_istore_n3 (pc' := 102) dX5_window_101 (by decide) rfl rfl ?_
            refine v_iload (pc' := 104) dX5_window_102 rfl rfl ?_
            refine v_if_eq (tgt := 112) (pc' := 107) dX5_window_104 (by decide) rfl (fun c_104 => ?_) (fun c_104 => ?_)
            · refine v_iload (pc' := 114) dX5_window_112 rfl rfl ?_
              refine v_istore4 (pc' := 116) dX5_window_114 (by decide) rfl rfl ?_
              refine v_iinc5 (pc' := 119) dX5_window_116 (by decide) rfl kc_1 (nI_1 s) rfl ?_
              refine v_goto (tgt := 44) dX5_window_119 (by decide) ?_
              first
                | exact absurd c_92 (by decide)
                | exact absurd rfl c_92
                | exact absurd c_104 (by decide)
                | exact absurd rfl c_104
                | exact ih (s + 1) _ _ _ _ rfl rfl (by omega) hx (by rw [← hp, p_winn, if_neg (fun q => cm q.1)])
                | exact ih (s + 1) _ _ _ _ rfl rfl (by omega) (Or.inr ⟨nI_m1 (by omega), rfl⟩) (by rw [← hp, p_winn, if_pos (And.intro cm (by first | exact Or.inl c_73 | exact Or.inr c_80))])
                | exact ih (s + 1) _ _ _ _ rfl rfl (by omega) hx (by rw [← hp, p_winn, if_neg (fun q => q.2.elim c_73 c_80)])
            · refine v_iload (pc' := 109) dX5_window_107 rfl rfl ?_
              refine v_goto (tgt := 114) dX5_window_109 (by decide) ?_
              refine v_istore4 (pc' := 116) dX5_window_114 (by decide) rfl rfl ?_
              refine v_iinc5 (pc' := 119) dX5_window_116 (by decide) rfl kc_1 (nI_1 s) rfl ?_
              refine v_goto (tgt := 44) dX5_window_119 (by decide) ?_
              first
                | exact absurd c_92 (by decide)
                | exact absurd rfl c_92
                | exact absurd c_104 (by decide)
                | exact absurd rfl c_104
                | exact ih (s + 1) _ _ _ _ rfl rfl (by omega) hx (by rw [← hp, p_winn, if_neg (fun q => cm q.1)])
                | exact ih (s + 1) _ _ _ _ rfl rfl (by omega) (Or.inr ⟨nI_m1 (by omega), rfl⟩) (by rw [← hp, p_winn, if_pos (And.intro cm (by first | exact Or.inl c_73 | exact Or.inr c_80))])
                | exact ih (s + 1) _ _ _ _ rfl rfl (by omega) hx (by rw [← hp, p_winn, if_neg (fun q => q.2.elim c_73 c_80)])
        · have cm : p_mfn S.1 w s = true := by
            cases h9 : p_mfn S.1 w s with
            | true => rfl
            | false => rw [h9] at c_68; exact absurd rfl c_68
          rw [if_pos cm]
          refine v_iload_n (pc' := 72) dX5_window_71 rfl rfl ?_
          refine v_iconst (pc' := 73) dX5_window_72 kc_m1 rfl ?_
          refine v_icmp_eq (tgt := 83) (pc' := 76) dX5_window_73 (by decide) rfl (fun c_73 => ?_) (fun c_73 => ?_)
          · refine v_iconst (pc' := 84) dX5_window_83 kc_1 rfl ?_
            refine v_goto (tgt := 88) dX5_window_84 (by decide) ?_
            refine v_istore7 (pc' := 90) dX5_window_88 (by decide) rfl rfl ?_
            refine v_iload (pc' := 92) dX5_window_90 rfl rfl ?_
            refine v_if_eq (tgt := 100) (pc' := 95) dX5_window_92 (by decide) rfl (fun c_92 => ?_) (fun c_92 => ?_)
            · refine v_iload_n (pc' := 101) dX5_window_100 rfl rfl ?_
              refine v_istore_n3 (pc' := 102) dX5_window_101 (by decide) rfl rfl ?_
              refine v_iload (pc' := 104) dX5_window_102 rfl rfl ?_
              refine v_if_eq (tgt := 112) (pc' := 107) dX5_window_104 (by decide) rfl (fun c_104 => ?_) (fun c_104 => ?_)
              · refine v_iload (pc' := 114) dX5_window_112 rfl rfl ?_
                refine v_istore4 (pc' := 116) dX5_window_114 (by decide) rfl rfl ?_
                refine v_iinc5 (pc' := 119) dX5_window_116 (by decide) rfl kc_1 (nI_1 s) rfl ?_
                refine v_goto (tgt := 44) dX5_window_119 (by decide) ?_
                first
                  | exact absurd c_92 (by decide)
                  | exact absurd rfl c_92
                  | exact absurd c_104 (by decide)
                  | exact absurd rfl c_104
                  | exact ih (s + 1) _ _ _ _ rfl rfl (by omega) hx (by rw [← hp, p_winn, if_neg (fun q => cm q.1)])
                  | exact ih (s + 1) _ _ _ _ rfl rfl (by omega) (Or.inr ⟨nI_m1 (by omega), rfl⟩) (by rw [← hp, p_winn, if_pos (And.intro cm (by first | exact Or.inl c_73 | exact Or.inr c_80))])
                  | exact ih (s + 1) _ _ _ _ rfl rfl (by omega) hx (by rw [← hp, p_winn, if_neg (fun q => q.2.elim c_73 c_80)])
              · refine v_iload (pc' := 109) dX5_window_107 rfl rfl ?_
                refine v_goto (tgt := 114) dX5_window_109 (by decide) ?_
                refine v_istore4 (pc' := 116) dX5_window_114 (by decide) rfl rfl ?_
                refine v_iinc5 (pc' := 119) dX5_window_116 (by decide) rfl kc_1 (nI_1 s) rfl ?_
                refine v_goto (tgt := 44) dX5_window_119 (by decide) ?_
                first
                  | exact absurd c_92 (by decide)
                  | exact absurd rfl c_92
                  | exact absurd c_104 (by decide)
                  | exact absurd rfl c_104
                  | exact ih (s + 1) _ _ _ _ rfl rfl (by omega) hx (by rw [← hp, p_winn, if_neg (fun q => cm q.1)])
                  | exact ih (s + 1) _ _ _ _ rfl rfl (by omega) (Or.inr ⟨nI_m1 (by omega), rfl⟩) (by rw [← hp, p_winn, if_pos (And.intro cm (by first | exact Or.inl c_73 | exact Or.inr c_80))])
                  | exact ih (s + 1) _ _ _ _ rfl rfl (by omega) hx (by rw [← hp, p_winn, if_neg (fun q => q.2.elim c_73 c_80)])
            · refine v_iload (pc' := 97) dX5_window_95 rfl rfl ?_
              refine v_goto (tgt := 101) dX5_window_97 (by decide) ?_
              refine v_istore_n3 (pc' := 102) dX5_window_101 (by decide) rfl rfl ?_
              refine v_iload (pc' := 104) dX5_window_102 rfl rfl ?_
              refine v_if_eq (tgt := 112) (pc' := 107) dX5_window_104 (by decide) rfl (fun c_104 => ?_) (fun c_104 => ?_)
              · refine v_iload (pc' := 114) dX5_window_112 rfl rfl ?_
                refine v_istore4 (pc' := 116) dX5_window_114 (by decide) rfl rfl ?_
                refine v_iinc5 (pc' := 119) dX5_window_116 (by decide) rfl kc_1 (nI_1 s) rfl ?_
                refine v_goto (tgt := 44) dX5_window_119 (by decide) ?_
                first
                  | exact absurd c_92 (by decide)
                  | exact absurd rfl c_92
                  | exact absurd c_104 (by decide)
                  | exact absurd rfl c_104
                  | exact ih (s + 1) _ _ _ _ rfl rfl (by omega) hx (by rw [← hp, p_winn, if_neg (fun q => cm q.1)])
                  | exact ih (s + 1) _ _ _ _ rfl rfl (by omega) (Or.inr ⟨nI_m1 (by omega), rfl⟩) (by rw [← hp, p_winn, if_pos (And.intro cm (by first | exact Or.inl c_73 | exact Or.inr c_80))])
                  | exact ih (s + 1) _ _ _ _ rfl rfl (by omega) hx (by rw [← hp, p_winn, if_neg (fun q => q.2.elim c_73 c_80)])
              · refine v_iload (pc' := 109) dX5_window_107 rfl rfl ?_
                refine v_goto (tgt := 114) dX5_window_109 (by decide) ?_
                refine v_istore4 (pc' := 116) dX5_window_114 (by decide) rfl rfl ?_
                refine v_iinc5 (pc' := 119) dX5_window_116 (by decide) rfl kc_1 (nI_1 s) rfl ?_
                refine v_goto (tgt := 44) dX5_window_119 (by decide) ?_
                first
                  | exact absurd c_92 (by decide)
                  | exact absurd rfl c_92
                  | exact absurd c_104 (by decide)
                  | exact absurd rfl c_104
                  | exact ih (s + 1) _ _ _ _ rfl rfl (by omega) hx (by rw [← hp, p_winn, if_neg (fun q => cm q.1)])
                  | exact ih (s + 1) _ _ _ _ rfl rfl (by omega) (Or.inr ⟨nI_m1 (by omega), rfl⟩) (by rw [← hp, p_winn, if_pos (And.intro cm (by first | exact Or.inl c_73 | exact Or.inr c_80))])
                  | exact ih (s + 1) _ _ _ _ rfl rfl (by omega) hx (by rw [← hp, p_winn, if_neg (fun q => q.2.elim c_73 c_80)])
          · refine v_iload (pc' := 78) dX5_window_76 rfl rfl ?_
            refine v_iload (pc' := 80) dX5_window_78 rfl rfl ?_
            refine v_icmp_ge (tgt := 87) (pc' := 83) dX5_window_80 (by decide) rfl (fun c_80 => ?_) (fun c_80 => ?_)
            · rw [← Int32.not_lt] at c_80
              refine v_iconst (pc' := 88) dX5_window_87 kc_0 rfl ?_
              refine v_istore7 (pc' := 90) dX5_window_88 (by decide) rfl rfl ?_
              refine v_iload (pc' := 92) dX5_window_90 rfl rfl ?_
              refine v_if_eq (tgt := 100) (pc' := 95) dX5_window_92 (by decide) rfl (fun c_92 => ?_) (fun c_92 => ?_)
              · refine v_iload_n (pc' := 101) dX5_window_100 rfl rfl ?_
                refine v_istore_n3 (pc' := 102) dX5_window_101 (by decide) rfl rfl ?_
                refine v_iload (pc' := 104) dX5_window_102 rfl rfl ?_
                refine v_if_eq (tgt := 112) (pc' := 107) dX5_window_104 (by decide) rfl (fun c_104 => ?_) (fun c_104 => ?_)
                · refine v_iload (pc' := 114) dX5_window_112 rfl rfl ?_
                  refine v_istore4 (pc' := 116) dX5_window_114 (by decide) rfl rfl ?_
                  refine v_iinc5 (pc' := 119) dX5_window_116 (by decide) rfl kc_1 (nI_1 s) rfl ?_
                  refine v_goto (tgt := 44) dX5_window_119 (by decide) ?_
                  first
                    | exact absurd c_92 (by decide)
                    | exact absurd rfl c_92
                    | exact absurd c_104 (by decide)
                    | exact absurd rfl c_104
                    | exact ih (s + 1) _ _ _ _ rfl rfl (by omega) hx (by rw [← hp, p_winn, if_neg (fun q => cm q.1)])
                    | exact ih (s + 1) _ _ _ _ rfl rfl (by omega) (Or.inr ⟨nI_m1 (by omega), rfl⟩) (by rw [← hp, p_winn, if_pos (And.intro cm (by first | exact Or.inl c_73 | exact Or.inr c_80))])
                    | exact ih (s + 1) _ _ _ _ rfl rfl (by omega) hx (by rw [← hp, p_winn, if_neg (fun q => q.2.elim c_73 c_80)])
                · refine v_iload (pc' := 109) dX5_window_107 rfl rfl ?_
                  refine v_goto (tgt := 114) dX5_window_109 (by decide) ?_
                  refine v_istore4 (pc' := 116) dX5_window_114 (by decide) rfl rfl ?_
                  refine v_iinc5 (pc' := 119) dX5_window_116 (by decide) rfl kc_1 (nI_1 s) rfl ?_
                  refine v_goto (tgt := 44) dX5_window_119 (by decide) ?_
                  first
                    | exact absurd c_92 (by decide)
                    | exact absurd rfl c_92
                    | exact absurd c_104 (by decide)
                    | exact absurd rfl c_104
                    | exact ih (s + 1) _ _ _ _ rfl rfl (by omega) hx (by rw [← hp, p_winn, if_neg (fun q => cm q.1)])
                    | exact ih (s + 1) _ _ _ _ rfl rfl (by omega) (Or.inr ⟨nI_m1 (by omega), rfl⟩) (by rw [← hp, p_winn, if_pos (And.intro cm (by first | exact Or.inl c_73 | exact Or.inr c_80))])
                    | exact ih (s + 1) _ _ _ _ rfl rfl (by omega) hx (by rw [← hp, p_winn, if_neg (fun q => q.2.elim c_73 c_80)])
              · refine v_iload (pc' := 97) dX5_window_95 rfl rfl ?_
                refine v_goto (tgt := 101) dX5_window_97 (by decide) ?_
                refine v_istore_n3 (pc' := 102) dX5_window_101 (by decide) rfl rfl ?_
                refine v_iload (pc' := 104) dX5_window_102 rfl rfl ?_
                refine v_if_eq (tgt := 112) (pc' := 107) dX5_window_104 (by decide) rfl (fun c_104 => ?_) (fun c_104 => ?_)
                · refine v_iload (pc' := 114) dX5_window_112 rfl rfl ?_
                  refine v_istore4 (pc' := 116) dX5_window_114 (by decide) rfl rfl ?_
                  refine v_iinc5 (pc' := 119) dX5_window_116 (by decide) rfl kc_1 (nI_1 s) rfl ?_
                  refine v_goto (tgt := 44) dX5_window_119 (by decide) ?_
                  first
                    | exact absurd c_92 (by decide)
                    | exact absurd rfl c_92
                    | exact absurd c_104 (by decide)
                    | exact absurd rfl c_104
                    | exact ih (s + 1) _ _ _ _ rfl rfl (by omega) hx (by rw [← hp, p_winn, if_neg (fun q => cm q.1)])
                    | exact ih (s + 1) _ _ _ _ rfl rfl (by omega) (Or.inr ⟨nI_m1 (by omega), rfl⟩) (by rw [← hp, p_winn, if_pos (And.intro cm (by first | exact Or.inl c_73 | exact Or.inr c_80))])
                    | exact ih (s + 1) _ _ _ _ rfl rfl (by omega) hx (by rw [← hp, p_winn, if_neg (fun q => q.2.elim c_73 c_80)])
                · refine v_iload (pc' := 109) dX5_window_107 rfl rfl ?_
                  refine v_goto (tgt := 114) dX5_window_109 (by decide) ?_
                  refine v_istore4 (pc' := 116) dX5_window_114 (by decide) rfl rfl ?_
                  refine v_iinc5 (pc' := 119) dX5_window_116 (by decide) rfl kc_1 (nI_1 s) rfl ?_
                  refine v_goto (tgt := 44) dX5_window_119 (by decide) ?_
                  first
                    | exact absurd c_92 (by decide)
                    | exact absurd rfl c_92
                    | exact absurd c_104 (by decide)
                    | exact absurd rfl c_104
                    | exact ih (s + 1) _ _ _ _ rfl rfl (by omega) hx (by rw [← hp, p_winn, if_neg (fun q => cm q.1)])
                    | exact ih (s + 1) _ _ _ _ rfl rfl (by omega) (Or.inr ⟨nI_m1 (by omega), rfl⟩) (by rw [← hp, p_winn, if_pos (And.intro cm (by first | exact Or.inl c_73 | exact Or.inr c_80))])
                    | exact ih (s + 1) _ _ _ _ rfl rfl (by omega) hx (by rw [← hp, p_winn, if_neg (fun q => q.2.elim c_73 c_80)])
            · rw [Int32.not_le] at c_80
              refine v_iconst (pc' := 84) dX5_window_83 kc_1 rfl ?_
              refine v_goto (tgt := 88) dX5_window_84 (by decide) ?_
              refine v_istore7 (pc' := 90) dX5_window_88 (by decide) rfl rfl ?_
              refine v_iload (pc' := 92) dX5_window_90 rfl rfl ?_
              refine v_if_eq (tgt := 100) (pc' := 95) dX5_window_92 (by decide) rfl (fun c_92 => ?_) (fun c_92 => ?_)
              · refine v_iload_n (pc' := 101) dX5_window_100 rfl rfl ?_
                refine v_istore_n3 (pc' := 102) dX5_window_101 (by decide) rfl rfl ?_
                refine v_iload (pc' := 104) dX5_window_102 rfl rfl ?_
                refine v_if_eq (tgt := 112) (pc' := 107) dX5_window_104 (by decide) rfl (fun c_104 => ?_) (fun c_104 => ?_)
                · refine v_iload (pc' := 114) dX5_window_112 rfl rfl ?_
                  refine v_istore4 (pc' := 116) dX5_window_114 (by decide) rfl rfl ?_
                  refine v_iinc5 (pc' := 119) dX5_window_116 (by decide) rfl kc_1 (nI_1 s) rfl ?_
                  refine v_goto (tgt := 44) dX5_window_119 (by decide) ?_
                  first
                    | exact absurd c_92 (by decide)
                    | exact absurd rfl c_92
                    | exact absurd c_104 (by decide)
                    | exact absurd rfl c_104
                    | exact ih (s + 1) _ _ _ _ rfl rfl (by omega) hx (by rw [← hp, p_winn, if_neg (fun q => cm q.1)])
                    | exact ih (s + 1) _ _ _ _ rfl rfl (by omega) (Or.inr ⟨nI_m1 (by omega), rfl⟩) (by rw [← hp, p_winn, if_pos (And.intro cm (by first | exact Or.inl c_73 | exact Or.inr c_80))])
                    | exact ih (s + 1) _ _ _ _ rfl rfl (by omega) hx (by rw [← hp, p_winn, if_neg (fun q => q.2.elim c_73 c_80)])
                · refine v_iload (pc' := 109) dX5_window_107 rfl rfl ?_
                  refine v_goto (tgt := 114) dX5_window_109 (by decide) ?_
                  refine v_istore4 (pc' := 116) dX5_window_114 (by decide) rfl rfl ?_
                  refine v_iinc5 (pc' := 119) dX5_window_116 (by decide) rfl kc_1 (nI_1 s) rfl ?_
                  refine v_goto (tgt := 44) dX5_window_119 (by decide) ?_
                  first
                    | exact absurd c_92 (by decide)
                    | exact absurd rfl c_92
                    | exact absurd c_104 (by decide)
                    | exact absurd rfl c_104
                    | exact ih (s + 1) _ _ _ _ rfl rfl (by omega) hx (by rw [← hp, p_winn, if_neg (fun q => cm q.1)])
                    | exact ih (s + 1) _ _ _ _ rfl rfl (by omega) (Or.inr ⟨nI_m1 (by omega), rfl⟩) (by rw [← hp, p_winn, if_pos (And.intro cm (by first | exact Or.inl c_73 | exact Or.inr c_80))])
                    | exact ih (s + 1) _ _ _ _ rfl rfl (by omega) hx (by rw [← hp, p_winn, if_neg (fun q => q.2.elim c_73 c_80)])
              · refine v_iload (pc' := 97) dX5_window_95 rfl rfl ?_
                refine v_goto (tgt := 101) dX5_window_97 (by decide) ?_
                refine v_istore_n3 (pc' := 102) dX5_window_101 (by decide) rfl rfl ?_
                refine v_iload (pc' := 104) dX5_window_102 rfl rfl ?_
                refine v_if_eq (tgt := 112) (pc' := 107) dX5_window_104 (by decide) rfl (fun c_104 => ?_) (fun c_104 => ?_)
                · refine v_iload (pc' := 114) dX5_window_112 rfl rfl ?_
                  refine v_istore4 (pc' := 116) dX5_window_114 (by decide) rfl rfl ?_
                  refine v_iinc5 (pc' := 119) dX5_window_116 (by decide) rfl kc_1 (nI_1 s) rfl ?_
                  refine v_goto (tgt := 44) dX5_window_119 (by decide) ?_
                  first
                    | exact absurd c_92 (by decide)
                    | exact absurd rfl c_92
                    | exact absurd c_104 (by decide)
                    | exact absurd rfl c_104
                    | exact ih (s + 1) _ _ _ _ rfl rfl (by omega) hx (by rw [← hp, p_winn, if_neg (fun q => cm q.1)])
                    | exact ih (s + 1) _ _ _ _ rfl rfl (by omega) (Or.inr ⟨nI_m1 (by omega), rfl⟩) (by rw [← hp, p_winn, if_pos (And.intro cm (by first | exact Or.inl c_73 | exact Or.inr c_80))])
                    | exact ih (s + 1) _ _ _ _ rfl rfl (by omega) hx (by rw [← hp, p_winn, if_neg (fun q => q.2.elim c_73 c_80)])
                · refine v_iload (pc' := 109) dX5_window_107 rfl rfl ?_
                  refine v_goto (tgt := 114) dX5_window_109 (by decide) ?_
                  refine v_istore4 (pc' := 116) dX5_window_114 (by decide) rfl rfl ?_
                  refine v_iinc5 (pc' := 119) dX5_window_116 (by decide) rfl kc_1 (nI_1 s) rfl ?_
                  refine v_goto (tgt := 44) dX5_window_119 (by decide) ?_
                  first
                    | exact absurd c_92 (by decide)
                    | exact absurd rfl c_92
                    | exact absurd c_104 (by decide)
                    | exact absurd rfl c_104
                    | exact ih (s + 1) _ _ _ _ rfl rfl (by omega) hx (by rw [← hp, p_winn, if_neg (fun q => cm q.1)])
                    | exact ih (s + 1) _ _ _ _ rfl rfl (by omega) (Or.inr ⟨nI_m1 (by omega), rfl⟩) (by rw [← hp, p_winn, if_pos (And.intro cm (by first | exact Or.inl c_73 | exact Or.inr c_80))])
                    | exact ih (s + 1) _ _ _ _ rfl rfl (by omega) hx (by rw [← hp, p_winn, if_neg (fun q => q.2.elim c_73 c_80)])

set_option maxRecDepth 20000 in
set_option maxHeartbeats 4000000 in
theorem m_window (hl : l.stackTraces = false) (hK : ShM E G d) (hM : AbsM I d S) (w3 y : Int32) : z_CM E l mX5_window [.ref d, .int w3, .int y] G I sz d (e_win w3 y) (v_win S.1 w3 y) S (S) := by
  obtain ⟨k0, kT, kN, kR, kD, kP, kF⟩ := id hK
  obtain ⟨⟨tn, tl, tc⟩, ⟨nN, nW⟩, ⟨aA, a14, aR⟩, aF, aS⟩ := id hM
  have tail : ∀ k9 : Nat, (e_win w3 y) = k9 → k9 ≠ 0 → k9 < 3 → z_V E l mX5_window (z_rm 8 0 0) 0 0 (z_q (fun v' G' I' sz' => ∃ y9, v' = some (.int y9) ∧ G' = G ∧ sz' = sz ∧ z_mP d (e_win w3 y) (v_win S.1 w3 y) S (S) I y9 I')) 0 0 G I sz 28 [some (.ref d), some (.int w3), some (.int y), none, none, none, none, none] [.int (nI k9), .ref d] := by
    intro k9 hk hne h3
    refine v_cVI (pc' := 31) (c5_refused hl k0 _) dX5_window_28 lk_X5_99 mwX5_refused miX5_refused k0 rfl rfl rfl rfl (by decide) (Nat.le_of_ble_eq_true rfl) rfl ?_
    rintro _ I1 ⟨rfl, hI1⟩
    have r1 : I1 d 0 = nI k9 := by rw [hI1, z_up_row, z_row_at, pk_us]
    have hM1 : AbsM I1 d S := by rw [hI1]; exact hM.fld 0 _ (by omega)
    have hF1 : FrM I I1 d := by rw [hI1]; exact FrM.up (by omega)
    obtain ⟨⟨bn, bl, bc⟩, ⟨bN, bW⟩, ⟨bA, b14, bR⟩, bF, bS⟩ := id hM1
    have bW2 : WF (I1 (d + 2)) := by rw [bN]; exact bW
    refine v_if_eq (tgt := 36) (pc' := 34) dX5_window_31 (by decide) rfl (fun c_31 => ?_) (fun c_31 => ?_)
    · rw [z_b_eq0, decide_eq_false_iff_not] at c_31
      exact absurd (nI_lt (a := 0) (by omega) (by omega)) c_31
    · refine v_iconst (pc' := 35) dX5_window_34 kc_0 rfl ?_
      exact v_iret dX5_window_35 rfl (Nat.le_refl _) (Nat.le_refl _) ⟨_, rfl, rfl, rfl, by rw [hk]; exact r1, fun q => absurd (hk.symm.trans q) hne, by rw [hk, if_neg hne]; exact hM1, hF1⟩
  have main : z_in w3 1 12 = true → z_in y 0 1 = true → z_V E l mX5_window (z_rm 8 0 0) 0 0 (z_q (fun v' G' I' sz' => ∃ y9, v' = some (.int y9) ∧ G' = G ∧ sz' = sz ∧ z_mP d (e_win w3 y) (v_win S.1 w3 y) S (S) I y9 I')) 0 0 G I sz 28 [some (.ref d), some (.int w3), some (.int y), none, none, none, none, none] [.int 0, .ref d] := by
    intro f1 f2
    refine v_cVI (pc' := 31) (c5_refused hl k0 _) dX5_window_28 lk_X5_99 mwX5_refused miX5_refused k0 rfl rfl rfl rfl (by decide) (Nat.le_of_ble_eq_true rfl) rfl ?_
    rintro _ I1 ⟨rfl, hI1⟩
    have r1 : I1 d 0 = 0 := by rw [hI1, z_up_row, z_row_at, pk_us]
    have hM1 : AbsM I1 d S := by rw [hI1]; exact hM.fld 0 _ (by omega)
    have hF1 : FrM I I1 d := by rw [hI1]; exact FrM.up (by omega)
    obtain ⟨⟨bn, bl, bc⟩, ⟨bN, bW⟩, ⟨bA, b14, bR⟩, bF, bS⟩ := id hM1
    have bW2 : WF (I1 (d + 2)) := by rw [bN]; exact bW
    have hkz : e_win w3 y = 0 := by simp [e_win, *]
    refine v_if_eq (tgt := 36) (pc' := 34) dX5_window_31 (by decide) rfl (fun c_31 => ?_) (fun c_31 => ?_)
    · obtain ⟨w, w1, w2, rfl⟩ := z_in_nI (lo := 1) (hi := 12) (by omega) (by omega) f1
      refine v_iconst (pc' := 37) dX5_window_36 kc_m1 rfl ?_
      refine v_istore_n3 (pc' := 38) dX5_window_37 (by decide) rfl rfl ?_
      refine v_iconst (pc' := 39) dX5_window_38 kc_m1 rfl ?_
      refine v_istore4 (pc' := 41) dX5_window_39 (by decide) rfl rfl ?_
      refine v_iconst (pc' := 42) dX5_window_41 kc_0 rfl ?_
      refine v_istore5 (pc' := 44) dX5_window_42 (by decide) rfl rfl ?_
      exact m_winL hl hK w w1 w2 y I1 r1 hM1 hF1 hkz (13 - w) 0 _ _ none none rfl rfl (by omega) (Or.inl ⟨rfl, rfl⟩) (winn_x S.1 w _ _ _ _)
    · exact absurd (by decide) c_31
  refine z_Ct.of hl pn_X5 [some (.ref d), some (.int w3), some (.int y), none, none, none, none, none] rfl (Nat.le_of_ble_eq_true rfl) ?_
  refine v_aload_n (pc' := 1) dX5_window_0 rfl rfl ?_
  refine v_iload_n (pc' := 2) dX5_window_1 rfl rfl ?_
  refine v_i2l (pc' := 3) dX5_window_2 rfl ?_
  refine v_lconst (pc' := 4) dX5_window_3 kl_1 rfl ?_
  refine v_ldc2 (pc' := 7) dX5_window_4 cn_X5_180 rfl ?_
  refine v_cSR (pc' := 10) (c5_in32 hl (w3) 1 12 rfl rfl rfl) dX5_window_7 lk_X5_37 mwX5_in msX5_in rfl rfl (by decide) (Nat.le_of_ble_eq_true rfl) rfl ?_
  refine v_if_eq (tgt := 27) (pc' := 13) dX5_window_10 (by decide) rfl (fun c_10 => ?_) (fun c_10 => ?_)
  · first | rw [z_b_ne0] at c_10 | rw [z_b_eq0] at c_10
    refine v_iconst (pc' := 28) dX5_window_27 kc_1 rfl ?_
    first
      | exact main c_10 c_20
      | exact tail 1 (by simp [e_win, *]) (by omega) (by omega)
      | exact tail 2 (by simp [e_win, *]) (by omega) (by omega)
  · first | rw [z_b_ne0] at c_10 | rw [z_b_eq0] at c_10
    refine v_iload_n (pc' := 14) dX5_window_13 rfl rfl ?_
    refine v_i2l (pc' := 15) dX5_window_14 rfl ?_
    refine v_lconst (pc' := 16) dX5_window_15 kl_0 rfl ?_
    refine v_lconst (pc' := 17) dX5_window_16 kl_1 rfl ?_
    refine v_cSR (pc' := 20) (c5_in32 hl (y) 0 1 rfl rfl rfl) dX5_window_17 lk_X5_37 mwX5_in msX5_in rfl rfl (by decide) (Nat.le_of_ble_eq_true rfl) rfl ?_
    refine v_if_eq (tgt := 27) (pc' := 23) dX5_window_20 (by decide) rfl (fun c_20 => ?_) (fun c_20 => ?_)
    · first | rw [z_b_ne0] at c_20 | rw [z_b_eq0] at c_20
      refine v_iconst (pc' := 28) dX5_window_27 kc_1 rfl ?_
      first
        | exact main c_10 c_20
        | exact tail 1 (by simp [e_win, *]) (by omega) (by omega)
        | exact tail 2 (by simp [e_win, *]) (by omega) (by omega)
    · first | rw [z_b_ne0] at c_20 | rw [z_b_eq0] at c_20
      refine v_iconst (pc' := 24) dX5_window_23 kc_0 rfl ?_
      refine v_goto (tgt := 28) dX5_window_24 (by decide) ?_
      first
        | exact main c_10 c_20
        | exact tail 1 (by simp [e_win, *]) (by omega) (by omega)
        | exact tail 2 (by simp [e_win, *]) (by omega) (by omega)
end MOD5
