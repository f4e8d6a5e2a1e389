/-! THE CLASS: ticks, a new state, a copied state (written by wip/whole/gen_cls4.py) -/
section CLS4
variable {E : zE} {l : Launch} {G : zG} {I : zI} {sz a b : Nat} {r : zR}
theorem p_work_1 (sv : Bool) (r : zR) (t : Nat) (x : Int32) : p_work sv (upd r 1 x) t = upd (p_work sv r t) 1 x := by
  by_cases h : tf r t 4 = 2
  · have h' : tf (upd r 1 x) t 4 = 2 := by rw [tf_upd_lo _ _ (by omega)]; exact h
    have e : ∀ w, 23 + 7 * t + w ≠ 1 := fun w => by omega
    rw [p_work, p_work, if_pos h, if_pos h']
    simp only [p_nv, tf_upd_lo r x (show 1 < 23 by omega), pk_un (show 4 ≠ 1 by omega)]
    rw [upd_comm (Ne.symm (e 1)), upd_comm (Ne.symm (e 3)), upd_comm (Ne.symm (e 2)), upd_comm (Ne.symm (e 6)), upd_comm (show 1 ≠ 4 by omega)]
  · have h' : ¬ tf (upd r 1 x) t 4 = 2 := by rw [tf_upd_lo _ _ (by omega)]; exact h
    rw [p_work, p_work, if_neg h, if_neg h']
theorem p_works_1 (sv : Bool) (x : Int32) : ∀ (n t : Nat) (r : zR), p_works sv n t (upd r 1 x) = upd (p_works sv n t r) 1 x
  | 0, _, _ => rfl
  | n + 1, t, r => by rw [p_works, p_works, p_work_1, p_works_1 sv x n (t + 1)]
theorem p_works_at1 (sv : Bool) (n t : Nat) (r : zR) : p_works sv n t r 1 = r 1 := p_works_lo sv (by omega) (by omega) n t r
theorem fin_row (r : zR) (A : Nat) (x : Int32) (h : A ≠ 7) : upd (upd (upd (upd r 7 x) A 3) 7 x) A 2 = upd (upd r 7 x) A 2 := by
  rw [upd_comm (r := upd r 7 x) h, upd_upd, upd_upd]
/-- a task's work, as the class does it -/
def p_wk (r : zR) (t : Nat) : zR := upd (upd (upd r (23 + 7 * t + 1) (p_nv r t)) (23 + 7 * t + 3) (tf r t 3 + 1)) (23 + 7 * t + 6) (tf r t 6 + 1)
def p_sv (r : zR) (t : Nat) : zR := upd (upd r (23 + 7 * t + 2) (tf r t 1)) (23 + 7 * t + 6) 0
theorem Abs.wk {I : zI} {a : Nat} {r : zR} (h : Abs I a r) (t : Nat) (ht : t < cnt r) : Abs (z_row I (a + 4 + 1 * t) (k_work (I (a + 4 + 1 * t)))) a (p_wk r t) := by
  obtain ⟨q0, q1, q2, q3, q4, q5, q6⟩ := h.2.2.2 t ht
  refine h.task t _ ht (fun k hk => by simp (disch := omega) only [p_wk, upd_hi]) (fun u hu hne w hw => by simp (disch := omega) only [p_wk, tf_upd_t]) ?_
  refine ⟨?_, ?_, ?_, ?_, ?_, ?_, ?_⟩ <;> simp (disch := omega) only [k_work, p_wk, p_nv, pk_us, pk_un, tf_upd_eq, tf_upd_w, q0, q1, q2, q3, q4, q5, q6]
theorem Abs.sv {I : zI} {a : Nat} {r : zR} (h : Abs I a r) (t : Nat) (ht : t < cnt r) : Abs (z_row I (a + 4 + 1 * t) (k_save (I (a + 4 + 1 * t)))) a (p_sv r t) := by
  obtain ⟨q0, q1, q2, q3, q4, q5, q6⟩ := h.2.2.2 t ht
  refine h.task t _ ht (fun k hk => by simp (disch := omega) only [p_sv, upd_hi]) (fun u hu hne w hw => by simp (disch := omega) only [p_sv, tf_upd_t]) ?_
  refine ⟨?_, ?_, ?_, ?_, ?_, ?_, ?_⟩ <;> simp (disch := omega) only [k_save, p_sv, pk_us, pk_un, tf_upd_eq, tf_upd_w, q0, q1, q2, q3, q4, q5, q6]
theorem p_work_f {r : zR} {t : Nat} (h : tf r t 4 = 2) : p_work false r t = upd (p_wk r t) 4 (r 4 + 1) := by
  rw [p_work, if_pos h]
  simp only [Bool.false_eq_true, if_false, p_wk]
  congr 2
  funext k
  by_cases e : k = 23 + 7 * t + 2
  · subst e; rw [pk_us]; simp (disch := omega) only [pk_un]; rfl
  · rw [pk_un e]
theorem p_work_t {r : zR} {t : Nat} (h : tf r t 4 = 2) : p_work true r t = p_sv (upd (p_wk r t) 4 (r 4 + 1)) t := by
  rw [p_work, if_pos h]
  have e : ∀ w, 23 + 7 * t + w ≠ 4 := fun w => by omega
  simp only [if_true, p_wk, p_sv]
  rw [upd_comm (Ne.symm (e 2)), upd_comm (Ne.symm (e 6)), upd_comm (show 23 + 7 * t + 6 ≠ 23 + 7 * t + 2 by omega), upd_upd]
  simp (disch := omega) only [tf_upd_lo, tf_upd_w, tf_upd_eq]
set_option maxRecDepth 20000 in
set_option maxHeartbeats 4000000 in
theorem c1_advanceJob (hl : l.stackTraces = false) (hS : ShS E G a) (hA : Abs I a r) (hW : WF r) : z_CV E l mX1_advanceJob 3 [.ref a] G I sz (fun I' => Abs I' a (p_load r) ∧ Fr I I' a) := by
  obtain ⟨h0, h1, h2, h3, hT⟩ := id hS
  obtain ⟨⟨⟨g3, g4, g5, g6, g9, g10⟩, g78⟩, gb, gs, gt⟩ := id hA
  obtain ⟨⟨hc6, hc0⟩, -⟩ := id hW
  by_cases hj : r 5 = -1
  · have hv : p_load r = r := by rw [p_load, if_pos hj]
    rw [hv]
    refine z_Ct.of hl pn_X1 [some (.ref a), none] rfl (Nat.le_of_ble_eq_true rfl) ?_
    refine v_aload_n (pc' := 1) dX1_advanceJob_0 rfl rfl ?_
    refine v_cVR (pc' := 4) (c1_jobNone hl hS hA hW hj) dX1_advanceJob_1 lk_X1_106 mwX1_jobOwner miX1_jobOwner h0 rfl rfl rfl rfl (by decide) (Nat.le_of_ble_eq_true rfl) rfl ?_
    refine v_astoreN_n1 (pc' := 5) dX1_advanceJob_4 (by decide) rfl rfl ?_
    refine v_aloadN_n (pc' := 6) dX1_advanceJob_5 rfl rfl ?_
    refine v_ifnonnullN (pc' := 9) dX1_advanceJob_6 rfl ?_
    exact v_vret dX1_advanceJob_9 rfl (Nat.le_refl _) (Nat.le_refl _) ⟨rfl, rfl, rfl, hA, Fr.rf⟩
  · obtain ⟨j1, j2, j3⟩ := hW.job hj
    obtain ⟨-, -, -, jl, -⟩ := hW.jb hj
    obtain ⟨q7, q8⟩ := g78 hj
    have g := gt (jt r) j1
    have e7 : (r 7 - 1).toInt = (r 7).toInt - 1 := I32_sub (by rw [i_1]; omega) (by rw [i_1]; omega)
    have h1A := hA.left (r 7 - 1)
    have hc1 : ∀ x, cnt (upd r 7 x) = cnt r := fun x => cnt_upd (by omega)
    have hz : 0 < r 7 - 1 ↔ ¬ r 7 - 1 = 0 := by
      rw [Int32.lt_iff_toInt_lt, i_0]
      constructor
      · intro q q2; rw [q2, i_0] at q; omega
      · intro q
        have : ¬ (r 7 - 1).toInt = 0 := fun q2 => q (Int32.toInt_inj.mp (by rw [i_0]; exact q2))
        omega
    have hjt : ∀ x, jt (upd r 7 x) = jt r := fun x => by unfold jt; rw [pk_un (by omega)]
    refine z_Ct.of hl pn_X1 [some (.ref a), none] rfl (Nat.le_of_ble_eq_true rfl) ?_
    refine v_aload_n (pc' := 1) dX1_advanceJob_0 rfl rfl ?_
    refine v_cVR (pc' := 4) (c1_jobOwner hl hS hA hW hj) dX1_advanceJob_1 lk_X1_106 mwX1_jobOwner miX1_jobOwner h0 rfl rfl rfl rfl (by decide) (Nat.le_of_ble_eq_true rfl) rfl ?_
    refine v_astore_n1 (pc' := 5) dX1_advanceJob_4 (by decide) rfl rfl ?_
    refine v_aload_n (pc' := 6) dX1_advanceJob_5 rfl rfl ?_
    refine v_ifnonnull (tgt := 10) dX1_advanceJob_6 (by decide) ?_
    refine v_aload_n (pc' := 11) dX1_advanceJob_10 rfl rfl ?_
    refine v_dup (pc' := 12) dX1_advanceJob_11 rfl rfl ?_
    refine g_X1_61 (pc' := 15) rfl dX1_advanceJob_12 (by assumption) rfl ?_
    rw [q8]
    refine v_iconst (pc' := 16) dX1_advanceJob_15 kc_1 rfl ?_
    refine v_isub (pc' := 17) dX1_advanceJob_16 rfl ?_
    refine p_X1_61 (pc' := 20) rfl dX1_advanceJob_17 (by assumption) rfl ?_
    refine v_aload_n (pc' := 21) dX1_advanceJob_20 rfl rfl ?_
    refine g_X1_61 (pc' := 24) rfl dX1_advanceJob_21 (by assumption) rfl ?_
    rw [show z_up I a 8 (r 7 - 1) a 8 = r 7 - 1 by rw [z_up_row, z_row_at, pk_us]]
    refine v_if_ne (tgt := 50) (pc' := 27) dX1_advanceJob_24 (by decide) rfl (fun c_24 => ?_) (fun c_24 => ?_)
    · refine v_aload_n (pc' := 51) dX1_advanceJob_50 rfl rfl ?_
      refine g_X1_61 (pc' := 54) rfl dX1_advanceJob_51 (by assumption) rfl ?_
      first | rw [show z_up (z_up (z_up I a 8 (r 7 - 1)) (a + 4 + 1 * jt r) 5 3) a 8 (r 9) a 8 = r 9 by rw [z_up_row, z_row_at, pk_us]] | rw [show z_up I a 8 (r 7 - 1) a 8 = r 7 - 1 by rw [z_up_row, z_row_at, pk_us]]
      refine v_if_ne (tgt := 84) (pc' := 57) dX1_advanceJob_54 (by decide) rfl (fun c_54 => ?_) (fun c_54 => ?_)
      · exact v_vret dX1_advanceJob_84 rfl (Nat.le_refl _) (Nat.le_refl _) ⟨rfl, rfl, rfl, by
          first
            | exact absurd c_54 c_24
            | exact absurd c_24 c_54
            | (rw [p_load, if_neg hj, if_pos (hz.mpr c_24)]
               exact h1A)
            | (have hn : ¬ 0 < r 7 - 1 := fun q9 => (hz.mp q9) c_24
               have hd : 0 < r 9 := by
                 have := hW.2.2.2.2.1.2.1
                 rw [Int32.lt_iff_toInt_lt, i_0]
                 have : ¬ (r 9).toInt = 0 := fun q2 => c_54 (Int32.toInt_inj.mp (by rw [i_0]; exact q2))
                 omega
               rw [p_load, if_neg hj, if_neg hn, if_pos (And.intro c_32 hd)]
               exact (h1A.tk (jt r) 5 3 (by rw [hc1]; exact j1) (by rw [hc1]; exact hc6) (by omega)).left (r 9))
            | (have hn : ¬ 0 < r 7 - 1 := fun q9 => (hz.mp q9) c_24
               have hd : ¬ 0 < r 9 := fun q9 => by rw [c_54] at q9; exact absurd q9 (by decide)
               rw [p_load, if_neg hj, if_neg hn, if_neg (fun q9 => hd q9.2)]
               have fin := (((((h1A.tk (jt r) 5 3 (by rw [hc1]; exact j1) (by rw [hc1]; exact hc6) (by omega)).left (r 9)).tk (jt r) 5 2 (by simp (disch := omega) only [cnt_upd]; exact j1) (by simp (disch := omega) only [cnt_upd]; exact hc6) (by omega)).tk (jt r) 6 (r 6) (by simp (disch := omega) only [cnt_upd]; exact j1) (by simp (disch := omega) only [cnt_upd]; exact hc6) (by omega)).idle (-1) 0).done (r 2 + 1)
               refine fin.cg (by simp (disch := omega) only [cnt_upd]; exact hc6) (fun k _ => ?_)
               have e9 : r 7 - 1 = r 9 := c_24.trans c_54.symm
               simp (disch := omega) only [p_finish, hjt, k_wd, pk_un, upd_hi]
               rw [← e9, fin_row _ _ _ (by omega)])
            | (have hn : ¬ 0 < r 7 - 1 := fun q9 => (hz.mp q9) c_24
               rw [p_load, if_neg hj, if_neg hn, if_neg (fun q9 => c_32 q9.1)]
               have fin := (((h1A.tk (jt r) 5 2 (by rw [hc1]; exact j1) (by rw [hc1]; exact hc6) (by omega)).tk (jt r) 6 (r 6) (by simp (disch := omega) only [cnt_upd]; exact j1) (by simp (disch := omega) only [cnt_upd]; exact hc6) (by omega)).idle (-1) 0).done (r 2 + 1)
               refine fin.cg (by simp (disch := omega) only [cnt_upd]; exact hc6) (fun k _ => ?_)
               simp (disch := omega) only [p_finish, hjt, k_wd, pk_un, upd_hi]), by
          repeat' first | exact Fr.rf | (refine Fr.tr ?_ (Fr.up (by omega)))⟩
      · refine v_aload_n (pc' := 58) dX1_advanceJob_57 rfl rfl ?_
        refine v_iconst (pc' := 59) dX1_advanceJob_58 kc_2 rfl ?_
        refine p_X1_80 (pc' := 62) rfl dX1_advanceJob_59 (hT (jt r) j3) rfl ?_
        refine v_aload_n (pc' := 63) dX1_advanceJob_62 rfl rfl ?_
        refine v_aload_n (pc' := 64) dX1_advanceJob_63 rfl rfl ?_
        refine g_X1_58 (pc' := 67) rfl dX1_advanceJob_64 (by assumption) rfl ?_
        first | rw [show z_up (z_up (z_up (z_up I a 8 (r 7 - 1)) (a + 4 + 1 * jt r) 5 3) a 8 (r 9)) (a + 4 + 1 * jt r) 5 2 a 7 = r 6 by simp (disch := omega) only [z_up_row, z_row_at, z_row_ne, pk_us, pk_un]; exact q7] | rw [show z_up (z_up I a 8 (r 7 - 1)) (a + 4 + 1 * jt r) 5 2 a 7 = r 6 by simp (disch := omega) only [z_up_row, z_row_at, z_row_ne, pk_us, pk_un]; exact q7]
        refine p_X1_156 (pc' := 70) rfl dX1_advanceJob_67 (hT (jt r) j3) rfl ?_
        refine v_aload_n (pc' := 71) dX1_advanceJob_70 rfl rfl ?_
        refine v_cVV (pc' := 74) (c1_endJob hl h0) dX1_advanceJob_71 lk_X1_48 mwX1_endJob miX1_endJob h0 rfl rfl rfl rfl (by decide) (Nat.le_of_ble_eq_true rfl) rfl ?_
        rintro _ rfl
        refine v_aload_n (pc' := 75) dX1_advanceJob_74 rfl rfl ?_
        refine v_dup (pc' := 76) dX1_advanceJob_75 rfl rfl ?_
        refine g_X1_42 (pc' := 79) rfl dX1_advanceJob_76 (by assumption) rfl ?_
        refine v_iconst (pc' := 80) dX1_advanceJob_79 kc_1 rfl ?_
        first
          | rw [show z_up (z_up (z_up (z_up (z_up (z_up (z_up (z_up I a 8 (r 7 - 1)) (a + 4 + 1 * jt r) 5 3) a 8 (r 9)) (a + 4 + 1 * jt r) 5 2) (a + 4 + 1 * jt r) 6 (r 6)) a 6 (-1)) a 7 (-1)) a 8 0 a 9 = r 2 by simp (disch := omega) only [z_up_row, z_row_at, z_row_ne, pk_us, pk_un]; exact g9]
          | rw [show z_up (z_up (z_up (z_up (z_up (z_up I a 8 (r 7 - 1)) (a + 4 + 1 * jt r) 5 2) (a + 4 + 1 * jt r) 6 (r 6)) a 6 (-1)) a 7 (-1)) a 8 0 a 9 = r 2 by simp (disch := omega) only [z_up_row, z_row_at, z_row_ne, pk_us, pk_un]; exact g9]
        refine v_iadd (pc' := 81) dX1_advanceJob_80 rfl ?_
        refine p_X1_42 (pc' := 84) rfl dX1_advanceJob_81 (by assumption) rfl ?_
        exact v_vret dX1_advanceJob_84 rfl (Nat.le_refl _) (Nat.le_refl _) ⟨rfl, rfl, rfl, by
          first
            | exact absurd c_54 c_24
            | exact absurd c_24 c_54
            | (rw [p_load, if_neg hj, if_pos (hz.mpr c_24)]
               exact h1A)
            | (have hn : ¬ 0 < r 7 - 1 := fun q9 => (hz.mp q9) c_24
               have hd : 0 < r 9 := by
                 have := hW.2.2.2.2.1.2.1
                 rw [Int32.lt_iff_toInt_lt, i_0]
                 have : ¬ (r 9).toInt = 0 := fun q2 => c_54 (Int32.toInt_inj.mp (by rw [i_0]; exact q2))
                 omega
               rw [p_load, if_neg hj, if_neg hn, if_pos (And.intro c_32 hd)]
               exact (h1A.tk (jt r) 5 3 (by rw [hc1]; exact j1) (by rw [hc1]; exact hc6) (by omega)).left (r 9))
            | (have hn : ¬ 0 < r 7 - 1 := fun q9 => (hz.mp q9) c_24
               have hd : ¬ 0 < r 9 := fun q9 => by rw [c_54] at q9; exact absurd q9 (by decide)
               rw [p_load, if_neg hj, if_neg hn, if_neg (fun q9 => hd q9.2)]
               have fin := (((((h1A.tk (jt r) 5 3 (by rw [hc1]; exact j1) (by rw [hc1]; exact hc6) (by omega)).left (r 9)).tk (jt r) 5 2 (by simp (disch := omega) only [cnt_upd]; exact j1) (by simp (disch := omega) only [cnt_upd]; exact hc6) (by omega)).tk (jt r) 6 (r 6) (by simp (disch := omega) only [cnt_upd]; exact j1) (by simp (disch := omega) only [cnt_upd]; exact hc6) (by omega)).idle (-1) 0).done (r 2 + 1)
               refine fin.cg (by simp (disch := omega) only [cnt_upd]; exact hc6) (fun k _ => ?_)
               have e9 : r 7 - 1 = r 9 := c_24.trans c_54.symm
               simp (disch := omega) only [p_finish, hjt, k_wd, pk_un, upd_hi]
               rw [← e9, fin_row _ _ _ (by omega)])
            | (have hn : ¬ 0 < r 7 - 1 := fun q9 => (hz.mp q9) c_24
               rw [p_load, if_neg hj, if_neg hn, if_neg (fun q9 => c_32 q9.1)]
               have fin := (((h1A.tk (jt r) 5 2 (by rw [hc1]; exact j1) (by rw [hc1]; exact hc6) (by omega)).tk (jt r) 6 (r 6) (by simp (disch := omega) only [cnt_upd]; exact j1) (by simp (disch := omega) only [cnt_upd]; exact hc6) (by omega)).idle (-1) 0).done (r 2 + 1)
               refine fin.cg (by simp (disch := omega) only [cnt_upd]; exact hc6) (fun k _ => ?_)
               simp (disch := omega) only [p_finish, hjt, k_wd, pk_un, upd_hi]), by
          repeat' first | exact Fr.rf | (refine Fr.tr ?_ (Fr.up (by omega)))⟩
    · refine v_aload_n (pc' := 28) dX1_advanceJob_27 rfl rfl ?_
      refine g_X1_80 (pc' := 31) rfl dX1_advanceJob_28 (hT (jt r) j3) rfl ?_
      rw [show z_up I a 8 (r 7 - 1) (a + 4 + 1 * jt r) 5 = tf r (jt r) 4 by rw [z_up_row, z_row_ne _ _ _ (by omega)]; exact g.2.2.2.2.2.1]
      refine v_iconst (pc' := 32) dX1_advanceJob_31 kc_2 rfl ?_
      refine v_icmp_ne (tgt := 50) (pc' := 35) dX1_advanceJob_32 (by decide) rfl (fun c_32 => ?_) (fun c_32 => ?_)
      · refine v_aload_n (pc' := 51) dX1_advanceJob_50 rfl rfl ?_
        refine g_X1_61 (pc' := 54) rfl dX1_advanceJob_51 (by assumption) rfl ?_
        first | rw [show z_up (z_up (z_up I a 8 (r 7 - 1)) (a + 4 + 1 * jt r) 5 3) a 8 (r 9) a 8 = r 9 by rw [z_up_row, z_row_at, pk_us]] | rw [show z_up I a 8 (r 7 - 1) a 8 = r 7 - 1 by rw [z_up_row, z_row_at, pk_us]]
        refine v_if_ne (tgt := 84) (pc' := 57) dX1_advanceJob_54 (by decide) rfl (fun c_54 => ?_) (fun c_54 => ?_)
        · exact v_vret dX1_advanceJob_84 rfl (Nat.le_refl _) (Nat.le_refl _) ⟨rfl, rfl, rfl, by
            first
              | exact absurd c_54 c_24
              | exact absurd c_24 c_54
              | (rw [p_load, if_neg hj, if_pos (hz.mpr c_24)]
                 exact h1A)
              | (have hn : ¬ 0 < r 7 - 1 := fun q9 => (hz.mp q9) c_24
                 have hd : 0 < r 9 := by
                   have := hW.2.2.2.2.1.2.1
                   rw [Int32.lt_iff_toInt_lt, i_0]
                   have : ¬ (r 9).toInt = 0 := fun q2 => c_54 (Int32.toInt_inj.mp (by rw [i_0]; exact q2))
                   omega
                 rw [p_load, if_neg hj, if_neg hn, if_pos (And.intro c_32 hd)]
                 exact (h1A.tk (jt r) 5 3 (by rw [hc1]; exact j1) (by rw [hc1]; exact hc6) (by omega)).left (r 9))
              | (have hn : ¬ 0 < r 7 - 1 := fun q9 => (hz.mp q9) c_24
                 have hd : ¬ 0 < r 9 := fun q9 => by rw [c_54] at q9; exact absurd q9 (by decide)
                 rw [p_load, if_neg hj, if_neg hn, if_neg (fun q9 => hd q9.2)]
                 have fin := (((((h1A.tk (jt r) 5 3 (by rw [hc1]; exact j1) (by rw [hc1]; exact hc6) (by omega)).left (r 9)).tk (jt r) 5 2 (by simp (disch := omega) only [cnt_upd]; exact j1) (by simp (disch := omega) only [cnt_upd]; exact hc6) (by omega)).tk (jt r) 6 (r 6) (by simp (disch := omega) only [cnt_upd]; exact j1) (by simp (disch := omega) only [cnt_upd]; exact hc6) (by omega)).idle (-1) 0).done (r 2 + 1)
                 refine fin.cg (by simp (disch := omega) only [cnt_upd]; exact hc6) (fun k _ => ?_)
                 have e9 : r 7 - 1 = r 9 := c_24.trans c_54.symm
                 simp (disch := omega) only [p_finish, hjt, k_wd, pk_un, upd_hi]
                 rw [← e9, fin_row _ _ _ (by omega)])
              | (have hn : ¬ 0 < r 7 - 1 := fun q9 => (hz.mp q9) c_24
                 rw [p_load, if_neg hj, if_neg hn, if_neg (fun q9 => c_32 q9.1)]
                 have fin := (((h1A.tk (jt r) 5 2 (by rw [hc1]; exact j1) (by rw [hc1]; exact hc6) (by omega)).tk (jt r) 6 (r 6) (by simp (disch := omega) only [cnt_upd]; exact j1) (by simp (disch := omega) only [cnt_upd]; exact hc6) (by omega)).idle (-1) 0).done (r 2 + 1)
                 refine fin.cg (by simp (disch := omega) only [cnt_upd]; exact hc6) (fun k _ => ?_)
                 simp (disch := omega) only [p_finish, hjt, k_wd, pk_un, upd_hi]), by
            repeat' first | exact Fr.rf | (refine Fr.tr ?_ (Fr.up (by omega)))⟩
        · refine v_aload_n (pc' := 58) dX1_advanceJob_57 rfl rfl ?_
          refine v_iconst (pc' := 59) dX1_advanceJob_58 kc_2 rfl ?_
          refine p_X1_80 (pc' := 62) rfl dX1_advanceJob_59 (hT (jt r) j3) rfl ?_
          refine v_aload_n (pc' := 63) dX1_advanceJob_62 rfl rfl ?_
          refine v_aload_n (pc' := 64) dX1_advanceJob_63 rfl rfl ?_
          refine g_X1_58 (pc' := 67) rfl dX1_advanceJob_64 (by assumption) rfl ?_
          first | rw [show z_up (z_up (z_up (z_up I a 8 (r 7 - 1)) (a + 4 + 1 * jt r) 5 3) a 8 (r 9)) (a + 4 + 1 * jt r) 5 2 a 7 = r 6 by simp (disch := omega) only [z_up_row, z_row_at, z_row_ne, pk_us, pk_un]; exact q7] | rw [show z_up (z_up I a 8 (r 7 - 1)) (a + 4 + 1 * jt r) 5 2 a 7 = r 6 by simp (disch := omega) only [z_up_row, z_row_at, z_row_ne, pk_us, pk_un]; exact q7]
          refine p_X1_156 (pc' := 70) rfl dX1_advanceJob_67 (hT (jt r) j3) rfl ?_
          refine v_aload_n (pc' := 71) dX1_advanceJob_70 rfl rfl ?_
          refine v_cVV (pc' := 74) (c1_endJob hl h0) dX1_advanceJob_71 lk_X1_48 mwX1_endJob miX1_endJob h0 rfl rfl rfl rfl (by decide) (Nat.le_of_ble_eq_true rfl) rfl ?_
          rintro _ rfl
          refine v_aload_n (pc' := 75) dX1_advanceJob_74 rfl rfl ?_
          refine v_dup (pc' := 76) dX1_advanceJob_75 rfl rfl ?_
          refine g_X1_42 (pc' := 79) rfl dX1_advanceJob_76 (by assumption) rfl ?_
          refine v_iconst (pc' := 80) dX1_advanceJob_79 kc_1 rfl ?_
          first
            | rw [show z_up (z_up (z_up (z_up (z_up (z_up (z_up (z_up I a 8 (r 7 - 1)) (a + 4 + 1 * jt r) 5 3) a 8 (r 9)) (a + 4 + 1 * jt r) 5 2) (a + 4 + 1 * jt r) 6 (r 6)) a 6 (-1)) a 7 (-1)) a 8 0 a 9 = r 2 by simp (disch := omega) only [z_up_row, z_row_at, z_row_ne, pk_us, pk_un]; exact g9]
            | rw [show z_up (z_up (z_up (z_up (z_up (z_up I a 8 (r 7 - 1)) (a + 4 + 1 * jt r) 5 2) (a + 4 + 1 * jt r) 6 (r 6)) a 6 (-1)) a 7 (-1)) a 8 0 a 9 = r 2 by simp (disch := omega) only [z_up_row, z_row_at, z_row_ne, pk_us, pk_un]; exact g9]
          refine v_iadd (pc' := 81) dX1_advanceJob_80 rfl ?_
          refine p_X1_42 (pc' := 84) rfl dX1_advanceJob_81 (by assumption) rfl ?_
          exact v_vret dX1_advanceJob_84 rfl (Nat.le_refl _) (Nat.le_refl _) ⟨rfl, rfl, rfl, by
            first
              | exact absurd c_54 c_24
              | exact absurd c_24 c_54
              | (rw [p_load, if_neg hj, if_pos (hz.mpr c_24)]
                 exact h1A)
              | (have hn : ¬ 0 < r 7 - 1 := fun q9 => (hz.mp q9) c_24
                 have hd : 0 < r 9 := by
                   have := hW.2.2.2.2.1.2.1
                   rw [Int32.lt_iff_toInt_lt, i_0]
                   have : ¬ (r 9).toInt = 0 := fun q2 => c_54 (Int32.toInt_inj.mp (by rw [i_0]; exact q2))
                   omega
                 rw [p_load, if_neg hj, if_neg hn, if_pos (And.intro c_32 hd)]
                 exact (h1A.tk (jt r) 5 3 (by rw [hc1]; exact j1) (by rw [hc1]; exact hc6) (by omega)).left (r 9))
              | (have hn : ¬ 0 < r 7 - 1 := fun q9 => (hz.mp q9) c_24
                 have hd : ¬ 0 < r 9 := fun q9 => by rw [c_54] at q9; exact absurd q9 (by decide)
                 rw [p_load, if_neg hj, if_neg hn, if_neg (fun q9 => hd q9.2)]
                 have fin := (((((h1A.tk (jt r) 5 3 (by rw [hc1]; exact j1) (by rw [hc1]; exact hc6) (by omega)).left (r 9)).tk (jt r) 5 2 (by simp (disch := omega) only [cnt_upd]; exact j1) (by simp (disch := omega) only [cnt_upd]; exact hc6) (by omega)).tk (jt r) 6 (r 6) (by simp (disch := omega) only [cnt_upd]; exact j1) (by simp (disch := omega) only [cnt_upd]; exact hc6) (by omega)).idle (-1) 0).done (r 2 + 1)
                 refine fin.cg (by simp (disch := omega) only [cnt_upd]; exact hc6) (fun k _ => ?_)
                 have e9 : r 7 - 1 = r 9 := c_24.trans c_54.symm
                 simp (disch := omega) only [p_finish, hjt, k_wd, pk_un, upd_hi]
                 rw [← e9, fin_row _ _ _ (by omega)])
              | (have hn : ¬ 0 < r 7 - 1 := fun q9 => (hz.mp q9) c_24
                 rw [p_load, if_neg hj, if_neg hn, if_neg (fun q9 => c_32 q9.1)]
                 have fin := (((h1A.tk (jt r) 5 2 (by rw [hc1]; exact j1) (by rw [hc1]; exact hc6) (by omega)).tk (jt r) 6 (r 6) (by simp (disch := omega) only [cnt_upd]; exact j1) (by simp (disch := omega) only [cnt_upd]; exact hc6) (by omega)).idle (-1) 0).done (r 2 + 1)
                 refine fin.cg (by simp (disch := omega) only [cnt_upd]; exact hc6) (fun k _ => ?_)
                 simp (disch := omega) only [p_finish, hjt, k_wd, pk_un, upd_hi]), by
            repeat' first | exact Fr.rf | (refine Fr.tr ?_ (Fr.up (by omega)))⟩
      · refine v_aload_n (pc' := 36) dX1_advanceJob_35 rfl rfl ?_
        refine v_iconst (pc' := 37) dX1_advanceJob_36 kc_3 rfl ?_
        refine p_X1_80 (pc' := 40) rfl dX1_advanceJob_37 (hT (jt r) j3) rfl ?_
        refine v_aload_n (pc' := 41) dX1_advanceJob_40 rfl rfl ?_
        refine v_aload_n (pc' := 42) dX1_advanceJob_41 rfl rfl ?_
        refine g_X1_21 (pc' := 45) rfl dX1_advanceJob_42 (by assumption) rfl ?_
        refine v_iconst (pc' := 46) dX1_advanceJob_45 kc_1 rfl ?_
        refine v_iald (pc' := 47) dX1_advanceJob_46 (1) rfl (by assumption) (by decide) (by decide) rfl ?_
        rw [show z_up (z_up I a 8 (r 7 - 1)) (a + 4 + 1 * jt r) 5 3 (a + 3) 1 = r 9 by simp (disch := omega) only [z_up_row, z_row_at, z_row_ne, pk_us, pk_un]; exact gs 1 (by omega)]
        refine p_X1_61 (pc' := 50) rfl dX1_advanceJob_47 (by assumption) rfl ?_
        refine v_aload_n (pc' := 51) dX1_advanceJob_50 rfl rfl ?_
        refine g_X1_61 (pc' := 54) rfl dX1_advanceJob_51 (by assumption) rfl ?_
        first | rw [show z_up (z_up (z_up I a 8 (r 7 - 1)) (a + 4 + 1 * jt r) 5 3) a 8 (r 9) a 8 = r 9 by rw [z_up_row, z_row_at, pk_us]] | rw [show z_up I a 8 (r 7 - 1) a 8 = r 7 - 1 by rw [z_up_row, z_row_at, pk_us]]
        refine v_if_ne (tgt := 84) (pc' := 57) dX1_advanceJob_54 (by decide) rfl (fun c_54 => ?_) (fun c_54 => ?_)
        · exact v_vret dX1_advanceJob_84 rfl (Nat.le_refl _) (Nat.le_refl _) ⟨rfl, rfl, rfl, by
            first
              | exact absurd c_54 c_24
              | exact absurd c_24 c_54
              | (rw [p_load, if_neg hj, if_pos (hz.mpr c_24)]
                 exact h1A)
              | (have hn : ¬ 0 < r 7 - 1 := fun q9 => (hz.mp q9) c_24
                 have hd : 0 < r 9 := by
                   have := hW.2.2.2.2.1.2.1
                   rw [Int32.lt_iff_toInt_lt, i_0]
                   have : ¬ (r 9).toInt = 0 := fun q2 => c_54 (Int32.toInt_inj.mp (by rw [i_0]; exact q2))
                   omega
                 rw [p_load, if_neg hj, if_neg hn, if_pos (And.intro c_32 hd)]
                 exact (h1A.tk (jt r) 5 3 (by rw [hc1]; exact j1) (by rw [hc1]; exact hc6) (by omega)).left (r 9))
              | (have hn : ¬ 0 < r 7 - 1 := fun q9 => (hz.mp q9) c_24
                 have hd : ¬ 0 < r 9 := fun q9 => by rw [c_54] at q9; exact absurd q9 (by decide)
                 rw [p_load, if_neg hj, if_neg hn, if_neg (fun q9 => hd q9.2)]
                 have fin := (((((h1A.tk (jt r) 5 3 (by rw [hc1]; exact j1) (by rw [hc1]; exact hc6) (by omega)).left (r 9)).tk (jt r) 5 2 (by simp (disch := omega) only [cnt_upd]; exact j1) (by simp (disch := omega) only [cnt_upd]; exact hc6) (by omega)).tk (jt r) 6 (r 6) (by simp (disch := omega) only [cnt_upd]; exact j1) (by simp (disch := omega) only [cnt_upd]; exact hc6) (by omega)).idle (-1) 0).done (r 2 + 1)
                 refine fin.cg (by simp (disch := omega) only [cnt_upd]; exact hc6) (fun k _ => ?_)
                 have e9 : r 7 - 1 = r 9 := c_24.trans c_54.symm
                 simp (disch := omega) only [p_finish, hjt, k_wd, pk_un, upd_hi]
                 rw [← e9, fin_row _ _ _ (by omega)])
              | (have hn : ¬ 0 < r 7 - 1 := fun q9 => (hz.mp q9) c_24
                 rw [p_load, if_neg hj, if_neg hn, if_neg (fun q9 => c_32 q9.1)]
                 have fin := (((h1A.tk (jt r) 5 2 (by rw [hc1]; exact j1) (by rw [hc1]; exact hc6) (by omega)).tk (jt r) 6 (r 6) (by simp (disch := omega) only [cnt_upd]; exact j1) (by simp (disch := omega) only [cnt_upd]; exact hc6) (by omega)).idle (-1) 0).done (r 2 + 1)
                 refine fin.cg (by simp (disch := omega) only [cnt_upd]; exact hc6) (fun k _ => ?_)
                 simp (disch := omega) only [p_finish, hjt, k_wd, pk_un, upd_hi]), by
            repeat' first | exact Fr.rf | (refine Fr.tr ?_ (Fr.up (by omega)))⟩
        · refine v_aload_n (pc' := 58) dX1_advanceJob_57 rfl rfl ?_
          refine v_iconst (pc' := 59) dX1_advanceJob_58 kc_2 rfl ?_
          refine p_X1_80 (pc' := 62) rfl dX1_advanceJob_59 (hT (jt r) j3) rfl ?_
          refine v_aload_n (pc' := 63) dX1_advanceJob_62 rfl rfl ?_
          refine v_aload_n (pc' := 64) dX1_advanceJob_63 rfl rfl ?_
          refine g_X1_58 (pc' := 67) rfl dX1_advanceJob_64 (by assumption) rfl ?_
          first | rw [show z_up (z_up (z_up (z_up I a 8 (r 7 - 1)) (a + 4 + 1 * jt r) 5 3) a 8 (r 9)) (a + 4 + 1 * jt r) 5 2 a 7 = r 6 by simp (disch := omega) only [z_up_row, z_row_at, z_row_ne, pk_us, pk_un]; exact q7] | rw [show z_up (z_up I a 8 (r 7 - 1)) (a + 4 + 1 * jt r) 5 2 a 7 = r 6 by simp (disch := omega) only [z_up_row, z_row_at, z_row_ne, pk_us, pk_un]; exact q7]
          refine p_X1_156 (pc' := 70) rfl dX1_advanceJob_67 (hT (jt r) j3) rfl ?_
          refine v_aload_n (pc' := 71) dX1_advanceJob_70 rfl rfl ?_
          refine v_cVV (pc' := 74) (c1_endJob hl h0) dX1_advanceJob_71 lk_X1_48 mwX1_endJob miX1_endJob h0 rfl rfl rfl rfl (by decide) (Nat.le_of_ble_eq_true rfl) rfl ?_
          rintro _ rfl
          refine v_aload_n (pc' := 75) dX1_advanceJob_74 rfl rfl ?_
          refine v_dup (pc' := 76) dX1_advanceJob_75 rfl rfl ?_
          refine g_X1_42 (pc' := 79) rfl dX1_advanceJob_76 (by assumption) rfl ?_
          refine v_iconst (pc' := 80) dX1_advanceJob_79 kc_1 rfl ?_
          first
            | rw [show z_up (z_up (z_up (z_up (z_up (z_up (z_up (z_up I a 8 (r 7 - 1)) (a + 4 + 1 * jt r) 5 3) a 8 (r 9)) (a + 4 + 1 * jt r) 5 2) (a + 4 + 1 * jt r) 6 (r 6)) a 6 (-1)) a 7 (-1)) a 8 0 a 9 = r 2 by simp (disch := omega) only [z_up_row, z_row_at, z_row_ne, pk_us, pk_un]; exact g9]
            | rw [show z_up (z_up (z_up (z_up (z_up (z_up I a 8 (r 7 - 1)) (a + 4 + 1 * jt r) 5 2) (a + 4 + 1 * jt r) 6 (r 6)) a 6 (-1)) a 7 (-1)) a 8 0 a 9 = r 2 by simp (disch := omega) only [z_up_row, z_row_at, z_row_ne, pk_us, pk_un]; exact g9]
          refine v_iadd (pc' := 81) dX1_advanceJob_80 rfl ?_
          refine p_X1_42 (pc' := 84) rfl dX1_advanceJob_81 (by assumption) rfl ?_
          exact v_vret dX1_advanceJob_84 rfl (Nat.le_refl _) (Nat.le_refl _) ⟨rfl, rfl, rfl, by
            first
              | exact absurd c_54 c_24
              | exact absurd c_24 c_54
              | (rw [p_load, if_neg hj, if_pos (hz.mpr c_24)]
                 exact h1A)
              | (have hn : ¬ 0 < r 7 - 1 := fun q9 => (hz.mp q9) c_24
                 have hd : 0 < r 9 := by
                   have := hW.2.2.2.2.1.2.1
                   rw [Int32.lt_iff_toInt_lt, i_0]
                   have : ¬ (r 9).toInt = 0 := fun q2 => c_54 (Int32.toInt_inj.mp (by rw [i_0]; exact q2))
                   omega
                 rw [p_load, if_neg hj, if_neg hn, if_pos (And.intro c_32 hd)]
                 exact (h1A.tk (jt r) 5 3 (by rw [hc1]; exact j1) (by rw [hc1]; exact hc6) (by omega)).left (r 9))
              | (have hn : ¬ 0 < r 7 - 1 := fun q9 => (hz.mp q9) c_24
                 have hd : ¬ 0 < r 9 := fun q9 => by rw [c_54] at q9; exact absurd q9 (by decide)
                 rw [p_load, if_neg hj, if_neg hn, if_neg (fun q9 => hd q9.2)]
                 have fin := (((((h1A.tk (jt r) 5 3 (by rw [hc1]; exact j1) (by rw [hc1]; exact hc6) (by omega)).left (r 9)).tk (jt r) 5 2 (by simp (disch := omega) only [cnt_upd]; exact j1) (by simp (disch := omega) only [cnt_upd]; exact hc6) (by omega)).tk (jt r) 6 (r 6) (by simp (disch := omega) only [cnt_upd]; exact j1) (by simp (disch := omega) only [cnt_upd]; exact hc6) (by omega)).idle (-1) 0).done (r 2 + 1)
                 refine fin.cg (by simp (disch := omega) only [cnt_upd]; exact hc6) (fun k _ => ?_)
                 have e9 : r 7 - 1 = r 9 := c_24.trans c_54.symm
                 simp (disch := omega) only [p_finish, hjt, k_wd, pk_un, upd_hi]
                 rw [← e9, fin_row _ _ _ (by omega)])
              | (have hn : ¬ 0 < r 7 - 1 := fun q9 => (hz.mp q9) c_24
                 rw [p_load, if_neg hj, if_neg hn, if_neg (fun q9 => c_32 q9.1)]
                 have fin := (((h1A.tk (jt r) 5 2 (by rw [hc1]; exact j1) (by rw [hc1]; exact hc6) (by omega)).tk (jt r) 6 (r 6) (by simp (disch := omega) only [cnt_upd]; exact j1) (by simp (disch := omega) only [cnt_upd]; exact hc6) (by omega)).idle (-1) 0).done (r 2 + 1)
                 refine fin.cg (by simp (disch := omega) only [cnt_upd]; exact hc6) (fun k _ => ?_)
                 simp (disch := omega) only [p_finish, hjt, k_wd, pk_un, upd_hi]), by
            repeat' first | exact Fr.rf | (refine Fr.tr ?_ (Fr.up (by omega)))⟩

set_option maxRecDepth 20000 in
set_option maxHeartbeats 4000000 in
theorem c1_passTick (hl : l.stackTraces = false) (hS : ShS E G a) (hA : Abs I a r) (hW : WF r) : z_CV E l mX1_passTick 4 [.ref a] G I sz (fun I' => Abs I' a (p_tick r) ∧ Fr I I' a) := by
  obtain ⟨h0, h1, h2, h3, hT⟩ := id hS
  obtain ⟨⟨⟨g3, g4, g5, g6, g9, g10⟩, g78⟩, gb, gs, gt⟩ := id hA
  obtain ⟨⟨hc6, hc0⟩, -⟩ := id hW
  have loop : ∀ (sv : Bool) (n t : Nat) (r' : zR) (I1 : zI) (o : Option Value), z_c1 o = true → Abs I1 a r' → Fr I I1 a → cnt r = t + n → r' 0 = nI (cnt r) → p_works sv n t r' = p_tick r → z_V E l mX1_passTick (z_rm 4 0 0) 0 0 (z_q (fun v' G' I' sz' => v' = none ∧ G' = G ∧ sz' = sz ∧ (Abs I' a (p_tick r) ∧ Fr I I' a))) 0 0 G I1 sz 42 [some (.ref a), some (.int (r 10)), some (.int (z_b sv)), some (.int (nI t)), o] [] := by
    intro sv n
    induction n with
    | zero =>
      intro t r' I1 o ho hA1 hF ht hr0 hp
      refine v_iload_n (pc' := 43) dX1_passTick_42 rfl rfl ?_
      refine v_aload_n (pc' := 44) dX1_passTick_43 rfl rfl ?_
      refine g_X1_32 (pc' := 47) rfl dX1_passTick_44 (by assumption) rfl ?_
      rw [hA1.1.1.1, hr0, ht]
      refine v_icmp_ge (tgt := 103) (pc' := 50) dX1_passTick_47 (by decide) rfl (fun c_47 => ?_) (fun c_47 => ?_)
      · exact v_vret dX1_passTick_103 rfl (Nat.le_refl _) (Nat.le_refl _) ⟨rfl, rfl, rfl, by rw [← hp]; exact hA1, hF⟩
      · exact absurd (nI_le (by omega) (by omega)) c_47
    | succ n ih =>
      intro t r' I1 o ho hA1 hF ht hr0 hp
      have hcr : cnt r' = cnt r := by unfold cnt; rw [hr0]; exact nI_clamp (by omega)
      have hct : t < cnt r' := by omega
      have hcw : cnt (upd (p_wk r' t) 4 (r' 4 + 1)) = cnt r' := by unfold cnt; simp (disch := omega) only [p_wk, pk_un, upd_hi]
      refine v_iload_n (pc' := 43) dX1_passTick_42 rfl rfl ?_
      refine v_aload_n (pc' := 44) dX1_passTick_43 rfl rfl ?_
      refine g_X1_32 (pc' := 47) rfl dX1_passTick_44 (by assumption) rfl ?_
      rw [hA1.1.1.1, hr0, ht]
      refine v_icmp_ge (tgt := 103) (pc' := 50) dX1_passTick_47 (by decide) rfl (fun c_47 => ?_) (fun c_47 => ?_)
      · exact absurd c_47 (nI_ge (by omega) (by omega))
      · refine v_iload_n (pc' := 51) dX1_passTick_50 rfl rfl ?_
        refine v_bipush (pc' := 53) dX1_passTick_51 kb_6 rfl ?_
        refine v_icmp_ge (tgt := 103) (pc' := 56) dX1_passTick_53 (by decide) rfl (fun c_53 => ?_) (fun c_53 => ?_)
        · exact absurd c_53 (nI_ge (b := 6) (by omega) (by decide))
        · refine v_aload_n (pc' := 57) dX1_passTick_56 rfl rfl ?_
          refine g_X1_11 (pc' := 60) rfl dX1_passTick_57 (by assumption) rfl ?_
          refine v_iload_n (pc' := 61) dX1_passTick_60 rfl rfl ?_
          refine v_aald (t := 4) (pc' := 62) rfl dX1_passTick_61 (t) rfl (by assumption) (by omega) (by decide) rfl ?_
          refine v_astore4 (pc' := 64) dX1_passTick_62 (by decide) rfl rfl ?_
          refine v_aload (pc' := 66) dX1_passTick_64 rfl rfl ?_
          refine g_X1_80 (pc' := 69) rfl dX1_passTick_66 (hT t (by omega)) rfl ?_
          refine v_iconst (pc' := 70) dX1_passTick_69 kc_2 rfl ?_
          rw [(hA1.2.2.2 t hct).2.2.2.2.2.1]
          refine v_icmp_ne (tgt := 97) (pc' := 73) dX1_passTick_70 (by decide) rfl (fun c_70 => ?_) (fun c_70 => ?_)
          · have e9 : p_work sv r' t = r' := by rw [p_work, if_neg c_70]
            rw [p_works, e9] at hp
            refine v_iinc3 (pc' := 100) dX1_passTick_97 (by decide) rfl kc_1 (nI_1 t) rfl ?_
            refine v_goto (tgt := 42) dX1_passTick_100 (by decide) ?_
            first
              | exact ih (t + 1) r' _ _ rfl hA1 hF (by omega) hr0 hp
              | exact ih (t + 1) _ _ _ rfl hA2 ((hF.tr (Fr.row (by omega))).tr (Fr.up (by omega))) (by omega) (by simp (disch := omega) only [p_wk, pk_un, upd_hi]; exact hr0) (by rw [c_89]; exact hp)
              | exact ih (t + 1) _ _ _ rfl hA3 (((hF.tr (Fr.row (by omega))).tr (Fr.up (by omega))).tr (Fr.row (by omega))) (by omega) (by simp (disch := omega) only [p_sv, p_wk, pk_un, upd_hi]; exact hr0) (by rw [c_89]; exact hp)
          · refine v_aload (pc' := 75) dX1_passTick_73 rfl rfl ?_
            refine v_cVV (pc' := 78) (c2_work hl (hT t (by omega))) dX1_passTick_75 lk_X1_165 mwX2_work miX2_work (hT t (by omega)) rfl rfl rfl rfl (by decide) (Nat.le_of_ble_eq_true rfl) rfl ?_
            rintro _ rfl
            have e5 : z_row I1 (a + 4 + 1 * t) (k_work (I1 (a + 4 + 1 * t))) a 5 = r' 4 := by rw [z_row_ne _ _ _ (by omega)]; exact hA1.1.1.2.2.1
            have hA2 := (hA1.wk t hct).works (r' 4 + 1)
            refine v_aload_n (pc' := 79) dX1_passTick_78 rfl rfl ?_
            refine v_dup (pc' := 80) dX1_passTick_79 rfl rfl ?_
            refine g_X1_39 (pc' := 83) rfl dX1_passTick_80 (by assumption) rfl ?_
            refine v_iconst (pc' := 84) dX1_passTick_83 kc_1 rfl ?_
            rw [e5]
            refine v_iadd (pc' := 85) dX1_passTick_84 rfl ?_
            refine p_X1_39 (pc' := 88) rfl dX1_passTick_85 (by assumption) rfl ?_
            refine v_iload_n (pc' := 89) dX1_passTick_88 rfl rfl ?_
            refine v_if_eq (tgt := 97) (pc' := 92) dX1_passTick_89 (by decide) rfl (fun c_89 => ?_) (fun c_89 => ?_)
            · rw [z_b_eq0] at c_89
              rw [p_works, c_89, p_work_f c_70] at hp
              refine v_iinc3 (pc' := 100) dX1_passTick_97 (by decide) rfl kc_1 (nI_1 t) rfl ?_
              refine v_goto (tgt := 42) dX1_passTick_100 (by decide) ?_
              first
                | exact ih (t + 1) r' _ _ rfl hA1 hF (by omega) hr0 hp
                | exact ih (t + 1) _ _ _ rfl hA2 ((hF.tr (Fr.row (by omega))).tr (Fr.up (by omega))) (by omega) (by simp (disch := omega) only [p_wk, pk_un, upd_hi]; exact hr0) (by rw [c_89]; exact hp)
                | exact ih (t + 1) _ _ _ rfl hA3 (((hF.tr (Fr.row (by omega))).tr (Fr.up (by omega))).tr (Fr.row (by omega))) (by omega) (by simp (disch := omega) only [p_sv, p_wk, pk_un, upd_hi]; exact hr0) (by rw [c_89]; exact hp)
            · rw [z_b_ne0] at c_89
              rw [p_works, c_89, p_work_t c_70] at hp
              refine v_aload (pc' := 94) dX1_passTick_92 rfl rfl ?_
              refine v_cVV (pc' := 97) (c2_saveValue hl (hT t (by omega))) dX1_passTick_94 lk_X1_87 mwX2_saveValue miX2_saveValue (hT t (by omega)) rfl rfl rfl rfl (by decide) (Nat.le_of_ble_eq_true rfl) rfl ?_
              rintro _ rfl
              have hA3 := hA2.sv t (by rw [hcw]; exact hct)
              refine v_iinc3 (pc' := 100) dX1_passTick_97 (by decide) rfl kc_1 (nI_1 t) rfl ?_
              refine v_goto (tgt := 42) dX1_passTick_100 (by decide) ?_
              first
                | exact ih (t + 1) r' _ _ rfl hA1 hF (by omega) hr0 hp
                | exact ih (t + 1) _ _ _ rfl hA2 ((hF.tr (Fr.row (by omega))).tr (Fr.up (by omega))) (by omega) (by simp (disch := omega) only [p_wk, pk_un, upd_hi]; exact hr0) (by rw [c_89]; exact hp)
                | exact ih (t + 1) _ _ _ rfl hA3 (((hF.tr (Fr.row (by omega))).tr (Fr.up (by omega))).tr (Fr.row (by omega))) (by omega) (by simp (disch := omega) only [p_sv, p_wk, pk_un, upd_hi]; exact hr0) (by rw [c_89]; exact hp)
  have h10 := hW.2.2.2.2.1.2.2
  have h10p : ¬ r 10 ≤ 0 := fun q9 => by rw [Int32.le_iff_toInt_le, i_0] at q9; omega
  have h10n : ¬ r 10 = 0 := fun q9 => by rw [q9, i_0] at h10; omega
  have l10 : p_load r 10 = r 10 := p_load_lo r (by omega)
  refine z_Ct.of hl pn_X1 [some (.ref a), none, none, none, none] rfl (Nat.le_of_ble_eq_true rfl) ?_
  refine v_aload_n (pc' := 1) dX1_passTick_0 rfl rfl ?_
  refine v_cVV (pc' := 4) (c1_advanceJob hl hS hA hW) dX1_passTick_1 lk_X1_162 mwX1_advanceJob miX1_advanceJob h0 rfl rfl rfl rfl (by decide) (Nat.le_of_ble_eq_true rfl) rfl ?_
  rintro I1 ⟨hA1, hF1⟩
  have hA2 := hA1.ticks (p_load r 1 + 1)
  have fin : ∀ sv, p_saves (p_load r) = sv → p_works sv (cnt r) 0 (upd (p_load r) 1 (p_load r 1 + 1)) = p_tick r := fun sv hsv => by
    show _ = upd (p_works (p_saves (p_load r)) (cnt (p_load r)) 0 (p_load r)) 1 (p_works (p_saves (p_load r)) (cnt (p_load r)) 0 (p_load r) 1 + 1)
    rw [hsv, cnt_load, p_works_1, p_works_at1]
  refine v_aload_n (pc' := 5) dX1_passTick_4 rfl rfl ?_
  refine v_dup (pc' := 6) dX1_passTick_5 rfl rfl ?_
  refine g_X1_36 (pc' := 9) rfl dX1_passTick_6 (by assumption) rfl ?_
  rw [hA1.1.1.2.1]
  refine v_iconst (pc' := 10) dX1_passTick_9 kc_1 rfl ?_
  refine v_iadd (pc' := 11) dX1_passTick_10 rfl ?_
  refine p_X1_36 (pc' := 14) rfl dX1_passTick_11 (by assumption) rfl ?_
  refine v_aload_n (pc' := 15) dX1_passTick_14 rfl rfl ?_
  refine g_X1_21 (pc' := 18) rfl dX1_passTick_15 (by assumption) rfl ?_
  refine v_iconst (pc' := 19) dX1_passTick_18 kc_2 rfl ?_
  refine v_iald (pc' := 20) dX1_passTick_19 (2) rfl (by assumption) (by decide) (by decide) rfl ?_
  rw [hA2.2.2.1 2 (by omega), show upd (p_load r) 1 (p_load r 1 + 1) (8 + 2) = r 10 by rw [pk_un (by omega)]; exact l10]
  refine v_istore_n1 (pc' := 21) dX1_passTick_20 (by decide) rfl rfl ?_
  refine v_iload_n (pc' := 22) dX1_passTick_21 rfl rfl ?_
  refine v_if_le (tgt := 38) (pc' := 25) dX1_passTick_22 (by decide) rfl (fun c_22 => ?_) (fun c_22 => ?_)
  · exact absurd c_22 h10p
  · refine v_aload_n (pc' := 26) dX1_passTick_25 rfl rfl ?_
    refine g_X1_36 (pc' := 29) rfl dX1_passTick_26 (by assumption) rfl ?_
    rw [hA2.1.1.2.1, pk_us]
    refine v_iload_n (pc' := 30) dX1_passTick_29 rfl rfl ?_
    refine v_irem (pc' := 31) dX1_passTick_30 h10n rfl ?_
    refine v_if_ne (tgt := 38) (pc' := 34) dX1_passTick_31 (by decide) rfl (fun c_31 => ?_) (fun c_31 => ?_)
    · refine v_iconst (pc' := 39) dX1_passTick_38 kc_0 rfl ?_
      refine v_istore_n2 (pc' := 40) dX1_passTick_39 (by decide) rfl rfl ?_
      refine v_iconst (pc' := 41) dX1_passTick_40 kc_0 rfl ?_
      refine v_istore_n3 (pc' := 42) dX1_passTick_41 (by decide) rfl rfl ?_
      first
        | (refine loop true (cnt r) 0 _ _ none rfl hA2 (hF1.tr (Fr.up (by omega))) (by omega) (by rw [pk_un (by omega), p_load_lo r (by omega)]; exact hc0) (fin true ?_)
           simp only [p_saves, z_rem, l10]
           exact decide_eq_true c_31)
        | (refine loop false (cnt r) 0 _ _ none rfl hA2 (hF1.tr (Fr.up (by omega))) (by omega) (by rw [pk_un (by omega), p_load_lo r (by omega)]; exact hc0) (fin false ?_)
           simp only [p_saves, z_rem, l10]
           exact decide_eq_false c_31)
    · refine v_iconst (pc' := 35) dX1_passTick_34 kc_1 rfl ?_
      refine v_goto (tgt := 39) dX1_passTick_35 (by decide) ?_
      refine v_istore_n2 (pc' := 40) dX1_passTick_39 (by decide) rfl rfl ?_
      refine v_iconst (pc' := 41) dX1_passTick_40 kc_0 rfl ?_
      refine v_istore_n3 (pc' := 42) dX1_passTick_41 (by decide) rfl rfl ?_
      first
        | (refine loop true (cnt r) 0 _ _ none rfl hA2 (hF1.tr (Fr.up (by omega))) (by omega) (by rw [pk_un (by omega), p_load_lo r (by omega)]; exact hc0) (fin true ?_)
           simp only [p_saves, z_rem, l10]
           exact decide_eq_true c_31)
        | (refine loop false (cnt r) 0 _ _ none rfl hA2 (hF1.tr (Fr.up (by omega))) (by omega) (by rw [pk_un (by omega), p_load_lo r (by omega)]; exact hc0) (fin false ?_)
           simp only [p_saves, z_rem, l10]
           exact decide_eq_false c_31)
set_option maxRecDepth 20000 in
set_option maxHeartbeats 4000000 in
theorem c1_passTicks (hl : l.stackTraces = false) (hS : ShS E G a) (hA : Abs I a r) (hW : WF r) (c : Nat) (hc1 : 1 ≤ c) (hc : c ≤ 60) {c3 : Int32} (hc3 : c3 = nI c) : z_CI E l mX1_passTicks 5 [.ref a, .int c3] G I sz (fun x I' => x = p_run c r 4 - r 4 ∧ Abs I' a (p_run c r) ∧ Fr I I' a) := by
  obtain ⟨h0, h1, h2, h3, hT⟩ := id hS
  obtain ⟨⟨⟨g3, g4, g5, g6, g9, g10⟩, g78⟩, gb, gs, gt⟩ := id hA
  obtain ⟨⟨hc6, hc0⟩, -⟩ := id hW
  subst hc3
  have hin : z_in (nI c) 1 60 = true := by
    simp only [z_in, Bool.and_eq_true, decide_eq_true_eq]
    exact ⟨nI_le (a := 1) (by omega) (by omega), nI_le (b := 60) (by omega) (by omega)⟩
  have loop : ∀ (n j : Nat) (r' : zR) (I1 : zI), c = j + n → Abs I1 a r' → Fr I I1 a → WF r' → p_run n r' = p_run c r → z_V E l mX1_passTicks (z_rm 5 0 0) 0 0 (z_q (fun v' G' I' sz' => ∃ x, v' = some (.int x) ∧ G' = G ∧ sz' = sz ∧ (x = p_run c r 4 - r 4 ∧ Abs I' a (p_run c r) ∧ Fr I I' a))) 0 0 G I1 sz 19 [some (.ref a), some (.int (nI c)), some (.int (r 4)), some (.int (nI j))] [] := by
    intro n
    induction n with
    | zero =>
      intro j r' I1 hj hA1 hF hr hp
      refine v_iload_n (pc' := 20) dX1_passTicks_19 rfl rfl ?_
      refine v_iload_n (pc' := 21) dX1_passTicks_20 rfl rfl ?_
      refine v_icmp_ge (tgt := 34) (pc' := 24) dX1_passTicks_21 (by decide) rfl (fun c_21 => ?_) (fun c_21 => ?_)
      · refine v_aload_n (pc' := 35) dX1_passTicks_34 rfl rfl ?_
        refine g_X1_39 (pc' := 38) rfl dX1_passTicks_35 (by assumption) rfl ?_
        rw [hA1.1.1.2.2.1]
        refine v_iload_n (pc' := 39) dX1_passTicks_38 rfl rfl ?_
        refine v_isub (pc' := 40) dX1_passTicks_39 rfl ?_
        exact v_iret dX1_passTicks_40 rfl (Nat.le_refl _) (Nat.le_refl _) ⟨_, rfl, rfl, rfl, by rw [← hp]; rfl, by rw [← hp]; exact hA1, hF⟩
      · exact absurd (nI_le (by omega) (by omega)) c_21
    | succ n ih =>
      intro j r' I1 hj hA1 hF hr hp
      refine v_iload_n (pc' := 20) dX1_passTicks_19 rfl rfl ?_
      refine v_iload_n (pc' := 21) dX1_passTicks_20 rfl rfl ?_
      refine v_icmp_ge (tgt := 34) (pc' := 24) dX1_passTicks_21 (by decide) rfl (fun c_21 => ?_) (fun c_21 => ?_)
      · exact absurd c_21 (nI_ge (by omega) (by omega))
      · refine v_aload_n (pc' := 25) dX1_passTicks_24 rfl rfl ?_
        refine v_cVV (pc' := 28) (c1_passTick hl hS hA1 hr) dX1_passTicks_25 lk_X1_159 mwX1_passTick miX1_passTick h0 rfl rfl rfl rfl (by decide) (Nat.le_of_ble_eq_true rfl) rfl ?_
        rintro I2 ⟨hA2, hF2⟩
        refine v_iinc3 (pc' := 31) dX1_passTicks_28 (by decide) rfl kc_1 (nI_1 j) rfl ?_
        refine v_goto (tgt := 19) dX1_passTicks_31 (by decide) ?_
        exact ih (j + 1) _ I2 (by omega) hA2 (hF.tr hF2) (WF_tick hr) hp
  refine z_Ct.of hl pn_X1 [some (.ref a), some (.int (nI c)), none, none] rfl (Nat.le_of_ble_eq_true rfl) ?_
  refine v_iload_n (pc' := 1) dX1_passTicks_0 rfl rfl ?_
  refine v_iconst (pc' := 2) dX1_passTicks_1 kc_1 rfl ?_
  refine v_bipush (pc' := 4) dX1_passTicks_2 kb_60 rfl ?_
  refine v_cSNR (pc' := 7) (c4_isBetween hl (nI c) 1 60) dX1_passTicks_4 lk_X1_68 mwX4_isBetween msX4_isBetween rfl rfl (by decide) (Nat.le_of_ble_eq_true rfl) rfl ?_
  refine v_if_ne (tgt := 12) (pc' := 10) dX1_passTicks_7 (by decide) rfl (fun c_7 => ?_) (fun c_7 => ?_)
  · refine v_aload_n (pc' := 13) dX1_passTicks_12 rfl rfl ?_
    refine g_X1_39 (pc' := 16) rfl dX1_passTicks_13 (by assumption) rfl ?_
    rw [g5]
    refine v_istore_n2 (pc' := 17) dX1_passTicks_16 (by decide) rfl rfl ?_
    refine v_iconst (pc' := 18) dX1_passTicks_17 kc_0 rfl ?_
    refine v_istore_n3 (pc' := 19) dX1_passTicks_18 (by decide) rfl rfl ?_
    exact loop c 0 r I (by omega) hA Fr.rf hW rfl
  · rw [hin] at c_7
    exact absurd (z_b_eq0.mp c_7) (by decide)
set_option maxRecDepth 20000 in
set_option maxHeartbeats 4000000 in
theorem c1_passTicksOut (hl : l.stackTraces = false) (hS : ShS E G a) (hA : Abs I a r) (hW : WF r) (c : Int32) (hc : z_in c 1 60 = false) : z_CI E l mX1_passTicks 5 [.ref a, .int c] G I sz (fun x I' => x = -1 ∧ Abs I' a (r) ∧ Fr I I' a) := by
  obtain ⟨h0, h1, h2, h3, hT⟩ := id hS
  obtain ⟨⟨⟨g3, g4, g5, g6, g9, g10⟩, g78⟩, gb, gs, gt⟩ := id hA
  obtain ⟨⟨hc6, hc0⟩, -⟩ := id hW
  refine z_Ct.of hl pn_X1 [some (.ref a), some (.int c), none, none] rfl (Nat.le_of_ble_eq_true rfl) ?_
  refine v_iload_n (pc' := 1) dX1_passTicks_0 rfl rfl ?_
  refine v_iconst (pc' := 2) dX1_passTicks_1 kc_1 rfl ?_
  refine v_bipush (pc' := 4) dX1_passTicks_2 kb_60 rfl ?_
  refine v_cSNR (pc' := 7) (c4_isBetween hl c 1 60) dX1_passTicks_4 lk_X1_68 mwX4_isBetween msX4_isBetween rfl rfl (by decide) (Nat.le_of_ble_eq_true rfl) rfl ?_
  refine v_if_ne (tgt := 12) (pc' := 10) dX1_passTicks_7 (by decide) rfl (fun c_7 => ?_) (fun c_7 => ?_)
  · rw [hc] at c_7
    exact absurd rfl c_7
  · refine v_iconst (pc' := 11) dX1_passTicks_10 kc_m1 rfl ?_
    exact v_iret dX1_passTicks_11 rfl (Nat.le_refl _) (Nat.le_refl _) ⟨_, rfl, rfl, rfl, rfl, hA, Fr.rf⟩
set_option maxRecDepth 20000 in
set_option maxHeartbeats 4000000 in
theorem c1_reset (hl : l.stackTraces = false) (hS : ShS E G a) : z_CV E l mX1_reset 1 [.ref a] G I sz (fun I' => Abs I' a (p_new) ∧ Fr I I' a) := by
  obtain ⟨h0, h1, h2, h3, hT⟩ := id hS
  have loop2 : ∀ (n t : Nat) (I1 : zI), 3 = t + n → Fr I I1 a → (∀ s, s < 12 → I1 (a + 2) s = 0) → (∀ j, j < t → I1 (a + 3) j = z_s0 j) → z_V E l mX1_reset (z_rm 1 0 0) 0 0 (z_q (fun v' G' I' sz' => v' = none ∧ G' = G ∧ sz' = sz ∧ (Abs I' a p_new ∧ Fr I I' a))) 0 0 G I1 sz 23 [some (.ref a), some (.int (nI t))] [] := by
    intro n
    induction n with
    | zero =>
      intro t I1 ht hF hb hs9
      refine v_iload_n (pc' := 24) dX1_reset_23 rfl rfl ?_
      refine v_iconst (pc' := 25) dX1_reset_24 kc_3 rfl ?_
      refine v_icmp_ge (tgt := 45) (pc' := 28) dX1_reset_25 (by decide) rfl (fun c_25 => ?_) (fun c_25 => ?_)
      · refine v_aload_n (pc' := 46) dX1_reset_45 rfl rfl ?_
        refine v_iconst (pc' := 47) dX1_reset_46 kc_0 rfl ?_
        refine p_X1_32 (pc' := 50) rfl dX1_reset_47 (by assumption) rfl ?_
        refine v_aload_n (pc' := 51) dX1_reset_50 rfl rfl ?_
        refine v_iconst (pc' := 52) dX1_reset_51 kc_0 rfl ?_
        refine p_X1_36 (pc' := 55) rfl dX1_reset_52 (by assumption) rfl ?_
        refine v_aload_n (pc' := 56) dX1_reset_55 rfl rfl ?_
        refine v_iconst (pc' := 57) dX1_reset_56 kc_0 rfl ?_
        refine p_X1_39 (pc' := 60) rfl dX1_reset_57 (by assumption) rfl ?_
        refine v_aload_n (pc' := 61) dX1_reset_60 rfl rfl ?_
        refine v_iconst (pc' := 62) dX1_reset_61 kc_0 rfl ?_
        refine p_X1_42 (pc' := 65) rfl dX1_reset_62 (by assumption) rfl ?_
        refine v_aload_n (pc' := 66) dX1_reset_65 rfl rfl ?_
        refine v_iconst (pc' := 67) dX1_reset_66 kc_0 rfl ?_
        refine p_X1_45 (pc' := 70) rfl dX1_reset_67 (by assumption) rfl ?_
        refine v_aload_n (pc' := 71) dX1_reset_70 rfl rfl ?_
        refine v_cVV (pc' := 74) (c1_endJob hl h0) dX1_reset_71 lk_X1_48 mwX1_endJob miX1_endJob h0 rfl rfl rfl rfl (by decide) (Nat.le_of_ble_eq_true rfl) rfl ?_
        rintro _ rfl
        exact v_vret dX1_reset_74 rfl (Nat.le_refl _) (Nat.le_refl _) ⟨rfl, rfl, rfl, by
          have hc : cnt p_new = 0 := by decide
          refine ⟨⟨⟨?_, ?_, ?_, ?_, ?_, ?_⟩, fun q9 => absurd (by decide) q9⟩, ?_, ?_, ?_⟩
          · simp (disch := omega) only [z_up_row, z_row_at, z_row_row, pk_us, pk_un]; decide
          · simp (disch := omega) only [z_up_row, z_row_at, z_row_row, pk_us, pk_un]; decide
          · simp (disch := omega) only [z_up_row, z_row_at, z_row_row, pk_us, pk_un]; decide
          · simp (disch := omega) only [z_up_row, z_row_at, z_row_row, pk_us, pk_un]; decide
          · simp (disch := omega) only [z_up_row, z_row_at, z_row_row, pk_us, pk_un]; decide
          · simp (disch := omega) only [z_up_row, z_row_at, z_row_row, pk_us, pk_un]; decide
          · intro s hs
            simp (disch := omega) only [z_up_row, z_row_ne, z_row_row, p_new, p_clr, pk_un]
            exact hb s hs
          · intro j hj9
            simp (disch := omega) only [z_up_row, z_row_ne, z_row_row]
            rw [hs9 j (by omega)]
            rcases (by omega : j = 0 ∨ j = 1 ∨ j = 2) with rfl | rfl | rfl <;> decide
          · intro t ht; rw [hc] at ht; exact absurd ht (by omega), by
          repeat' first | exact hF | (refine Fr.tr ?_ (Fr.up (by omega)))⟩
      · exact absurd (nI_le (a := 3) (by omega) (by omega)) c_25
    | succ n ih =>
      intro t I1 ht hF hb hs9
      refine v_iload_n (pc' := 24) dX1_reset_23 rfl rfl ?_
      refine v_iconst (pc' := 25) dX1_reset_24 kc_3 rfl ?_
      refine v_icmp_ge (tgt := 45) (pc' := 28) dX1_reset_25 (by decide) rfl (fun c_25 => ?_) (fun c_25 => ?_)
      · exact absurd c_25 (nI_ge (b := 3) (by omega) (by omega))
      · refine v_aload_n (pc' := 29) dX1_reset_28 rfl rfl ?_
        refine g_X1_21 (pc' := 32) rfl dX1_reset_29 (by assumption) rfl ?_
        refine v_iload_n (pc' := 33) dX1_reset_32 rfl rfl ?_
        refine v_getsN (pc' := 36) dX1_reset_33 fl_X1_29 (fun U H h => h.1) rfl ?_
        refine v_iload_n (pc' := 37) dX1_reset_36 rfl rfl ?_
        refine v_sald (pc' := 38) dX1_reset_37 (fun U H h => h.1) rfl (by omega) rfl ?_
        refine v_iast (pc' := 39) dX1_reset_38 (t) rfl (by assumption) (by omega) (by decide) rfl ?_
        refine v_iinc1 (pc' := 42) dX1_reset_39 (by decide) rfl kc_1 (nI_1 t) rfl ?_
        refine v_goto (tgt := 23) dX1_reset_42 (by decide) ?_
        refine ih (t + 1) _ (by omega) (hF.tr (Fr.up (by omega))) (fun s hs => by rw [z_up_row, z_row_ne _ _ _ (by omega)]; exact hb s hs) (fun j hj9 => ?_)
        rw [z_up_row, z_row_at]
        by_cases e : j = t
        · subst e; rw [pk_us]
        · rw [pk_un e]; exact hs9 j (by omega)
  have loop : ∀ (n t : Nat) (I1 : zI), 12 = t + n → Fr I I1 a → (∀ s, s < t → I1 (a + 2) s = 0) → z_V E l mX1_reset (z_rm 1 0 0) 0 0 (z_q (fun v' G' I' sz' => v' = none ∧ G' = G ∧ sz' = sz ∧ (Abs I' a p_new ∧ Fr I I' a))) 0 0 G I1 sz 2 [some (.ref a), some (.int (nI t))] [] := by
    intro n
    induction n with
    | zero =>
      intro t I1 ht hF hb
      refine v_iload_n (pc' := 3) dX1_reset_2 rfl rfl ?_
      refine v_bipush (pc' := 5) dX1_reset_3 kb_12 rfl ?_
      refine v_icmp_ge (tgt := 21) (pc' := 8) dX1_reset_5 (by decide) rfl (fun c_5 => ?_) (fun c_5 => ?_)
      · refine v_iconst (pc' := 22) dX1_reset_21 kc_0 rfl ?_
        refine v_istore_n1 (pc' := 23) dX1_reset_22 (by decide) rfl rfl ?_
        exact loop2 3 0 I1 (by omega) hF (fun s hs => hb s (by omega)) (fun j hj => absurd hj (by omega))
      · exact absurd (nI_le (a := 12) (by omega) (by omega)) c_5
    | succ n ih =>
      intro t I1 ht hF hb
      refine v_iload_n (pc' := 3) dX1_reset_2 rfl rfl ?_
      refine v_bipush (pc' := 5) dX1_reset_3 kb_12 rfl ?_
      refine v_icmp_ge (tgt := 21) (pc' := 8) dX1_reset_5 (by decide) rfl (fun c_5 => ?_) (fun c_5 => ?_)
      · exact absurd c_5 (nI_ge (b := 12) (by omega) (by omega))
      · refine v_aload_n (pc' := 9) dX1_reset_8 rfl rfl ?_
        refine g_X1_17 (pc' := 12) rfl dX1_reset_9 (by assumption) rfl ?_
        refine v_iload_n (pc' := 13) dX1_reset_12 rfl rfl ?_
        refine v_iconst (pc' := 14) dX1_reset_13 kc_0 rfl ?_
        refine v_zast (pc' := 15) dX1_reset_14 (t) rfl (by assumption) (by omega) (by decide) rfl rfl ?_
        refine v_iinc1 (pc' := 18) dX1_reset_15 (by decide) rfl kc_1 (nI_1 t) rfl ?_
        refine v_goto (tgt := 2) dX1_reset_18 (by decide) ?_
        refine ih (t + 1) _ (by omega) (hF.tr (Fr.up (by omega))) (fun s hs => ?_)
        rw [z_up_row, z_row_at]
        by_cases e : s = t
        · subst e; rw [pk_us]
        · rw [pk_un e]; exact hb s (by omega)
  refine z_Ct.of hl pn_X1 [some (.ref a), none] rfl (Nat.le_of_ble_eq_true rfl) ?_
  refine v_iconst (pc' := 1) dX1_reset_0 kc_0 rfl ?_
  refine v_istore_n1 (pc' := 2) dX1_reset_1 (by decide) rfl rfl ?_
  exact loop 12 0 I (by omega) Fr.rf (fun s hs => absurd hs (by omega))
set_option maxRecDepth 20000 in
set_option maxHeartbeats 4000000 in
theorem c1_copyFrom (hl : l.stackTraces = false) (hS : ShS E G a) (hS2 : ShS E G b) (hA : Abs I b r) (hW : WF r) (hd : a + 10 ≤ b ∨ b + 10 ≤ a) : z_CV E l mX1_copyFrom 1 [.ref a, .ref b] G I sz (fun I' => Abs I' a (r) ∧ Fr I I' a) := by
  obtain ⟨h0, h1, h2, h3, hT⟩ := id hS
  obtain ⟨h0', h1', h2', h3', hT'⟩ := id hS2
  obtain ⟨⟨⟨g3, g4, g5, g6, g9, g10⟩, g78⟩, gb, gs, gt⟩ := id hA
  obtain ⟨⟨hc6, hc0⟩, -⟩ := id hW
  have bnar : ∀ t, t < 12 → narrow .boolean (.int (I (b + 2) t)) = .int (I (b + 2) t) := fun t ht => by
    rw [gb t ht]
    rcases hW.2.2.2.1 t ht with q | q <;> rw [q] <;> rfl
  have loop3 : ∀ (n t : Nat) (I1 : zI), 3 = t + n → Fr I I1 a → (∀ u, u < 6 → ∀ k, k < 7 → I1 (a + 4 + 1 * u) k = I (b + 4 + 1 * u) k) → (∀ s, s < 12 → I1 (a + 2) s = I (b + 2) s) → (∀ s, s < t → I1 (a + 3) s = I (b + 3) s) → z_V E l mX1_copyFrom (z_rm 1 0 0) 0 0 (z_q (fun v' G' I' sz' => v' = none ∧ G' = G ∧ sz' = sz ∧ (Abs I' a r ∧ Fr I I' a))) 0 0 G I1 sz 57 [some (.ref a), some (.ref b), some (.int (nI t))] [] := by
    intro n
    induction n with
    | zero =>
      intro t I1 ht hF hk hb hs9
      refine v_iload_n (pc' := 58) dX1_copyFrom_57 rfl rfl ?_
      refine v_iconst (pc' := 59) dX1_copyFrom_58 kc_3 rfl ?_
      refine v_icmp_ge (tgt := 80) (pc' := 62) dX1_copyFrom_59 (by decide) rfl (fun c_59 => ?_) (fun c_59 => ?_)
      · refine v_aload_n (pc' := 81) dX1_copyFrom_80 rfl rfl ?_
        refine v_aload_n (pc' := 82) dX1_copyFrom_81 rfl rfl ?_
        refine g_X1_32 (pc' := 85) rfl dX1_copyFrom_82 h0' rfl ?_
        refine p_X1_32 (pc' := 88) rfl dX1_copyFrom_85 h0 rfl ?_
        refine v_aload_n (pc' := 89) dX1_copyFrom_88 rfl rfl ?_
        refine v_aload_n (pc' := 90) dX1_copyFrom_89 rfl rfl ?_
        refine g_X1_36 (pc' := 93) rfl dX1_copyFrom_90 h0' rfl ?_
        refine p_X1_36 (pc' := 96) rfl dX1_copyFrom_93 h0 rfl ?_
        refine v_aload_n (pc' := 97) dX1_copyFrom_96 rfl rfl ?_
        refine v_aload_n (pc' := 98) dX1_copyFrom_97 rfl rfl ?_
        refine g_X1_39 (pc' := 101) rfl dX1_copyFrom_98 h0' rfl ?_
        refine p_X1_39 (pc' := 104) rfl dX1_copyFrom_101 h0 rfl ?_
        refine v_aload_n (pc' := 105) dX1_copyFrom_104 rfl rfl ?_
        refine v_aload_n (pc' := 106) dX1_copyFrom_105 rfl rfl ?_
        refine g_X1_55 (pc' := 109) rfl dX1_copyFrom_106 h0' rfl ?_
        refine p_X1_55 (pc' := 112) rfl dX1_copyFrom_109 h0 rfl ?_
        refine v_aload_n (pc' := 113) dX1_copyFrom_112 rfl rfl ?_
        refine v_aload_n (pc' := 114) dX1_copyFrom_113 rfl rfl ?_
        refine g_X1_58 (pc' := 117) rfl dX1_copyFrom_114 h0' rfl ?_
        refine p_X1_58 (pc' := 120) rfl dX1_copyFrom_117 h0 rfl ?_
        refine v_aload_n (pc' := 121) dX1_copyFrom_120 rfl rfl ?_
        refine v_aload_n (pc' := 122) dX1_copyFrom_121 rfl rfl ?_
        refine g_X1_61 (pc' := 125) rfl dX1_copyFrom_122 h0' rfl ?_
        refine p_X1_61 (pc' := 128) rfl dX1_copyFrom_125 h0 rfl ?_
        refine v_aload_n (pc' := 129) dX1_copyFrom_128 rfl rfl ?_
        refine v_aload_n (pc' := 130) dX1_copyFrom_129 rfl rfl ?_
        refine g_X1_42 (pc' := 133) rfl dX1_copyFrom_130 h0' rfl ?_
        refine p_X1_42 (pc' := 136) rfl dX1_copyFrom_133 h0 rfl ?_
        refine v_aload_n (pc' := 137) dX1_copyFrom_136 rfl rfl ?_
        refine v_aload_n (pc' := 138) dX1_copyFrom_137 rfl rfl ?_
        refine g_X1_45 (pc' := 141) rfl dX1_copyFrom_138 h0' rfl ?_
        refine p_X1_45 (pc' := 144) rfl dX1_copyFrom_141 h0 rfl ?_
        exact v_vret dX1_copyFrom_144 rfl (Nat.le_refl _) (Nat.le_refl _) ⟨rfl, rfl, rfl, by
          have hFb : I1 b = I b := hF b (by omega)
          refine ⟨⟨⟨?_, ?_, ?_, ?_, ?_, ?_⟩, fun q9 => ⟨?_, ?_⟩⟩, fun s hs => ?_, fun j hj9 => ?_, fun t ht => ?_⟩
          · simp (disch := omega) only [z_up_row, z_row_at, z_row_ne, pk_us, pk_un]; rw [hFb]; exact g3
          · simp (disch := omega) only [z_up_row, z_row_at, z_row_ne, pk_us, pk_un]; rw [hFb]; exact g4
          · simp (disch := omega) only [z_up_row, z_row_at, z_row_ne, pk_us, pk_un]; rw [hFb]; exact g5
          · simp (disch := omega) only [z_up_row, z_row_at, z_row_ne, pk_us, pk_un]; rw [hFb]; exact g6
          · simp (disch := omega) only [z_up_row, z_row_at, z_row_ne, pk_us, pk_un]; rw [hFb]; exact g9
          · simp (disch := omega) only [z_up_row, z_row_at, z_row_ne, pk_us, pk_un]; rw [hFb]; exact g10
          · simp (disch := omega) only [z_up_row, z_row_at, z_row_ne, pk_us, pk_un]; rw [hFb]; exact (g78 q9).1
          · simp (disch := omega) only [z_up_row, z_row_at, z_row_ne, pk_us, pk_un]; rw [hFb]; exact (g78 q9).2
          · simp (disch := omega) only [z_up_row, z_row_ne]; rw [hb s hs]; exact gb s hs
          · simp (disch := omega) only [z_up_row, z_row_ne]; rw [hs9 j (by omega)]; exact gs j hj9
          · simp (disch := omega) only [z_up_row, z_row_ne]
            have g := gt t ht
            have hk' := hk t (by omega)
            unfold AbsT at g ⊢
            rw [hk' 0 (by omega), hk' 1 (by omega), hk' 2 (by omega), hk' 3 (by omega), hk' 4 (by omega), hk' 5 (by omega), hk' 6 (by omega)]
            exact g, by
          repeat' first | exact hF | (refine Fr.tr ?_ (Fr.up (by omega)))⟩
      · exact absurd (nI_le (a := 3) (by omega) (by omega)) c_59
    | succ n ih =>
      intro t I1 ht hF hk hb hs9
      refine v_iload_n (pc' := 58) dX1_copyFrom_57 rfl rfl ?_
      refine v_iconst (pc' := 59) dX1_copyFrom_58 kc_3 rfl ?_
      refine v_icmp_ge (tgt := 80) (pc' := 62) dX1_copyFrom_59 (by decide) rfl (fun c_59 => ?_) (fun c_59 => ?_)
      · exact absurd c_59 (nI_ge (b := 3) (by omega) (by omega))
      · refine v_aload_n (pc' := 63) dX1_copyFrom_62 rfl rfl ?_
        refine g_X1_21 (pc' := 66) rfl dX1_copyFrom_63 h0 rfl ?_
        refine v_iload_n (pc' := 67) dX1_copyFrom_66 rfl rfl ?_
        refine v_aload_n (pc' := 68) dX1_copyFrom_67 rfl rfl ?_
        refine g_X1_21 (pc' := 71) rfl dX1_copyFrom_68 h0' rfl ?_
        refine v_iload_n (pc' := 72) dX1_copyFrom_71 rfl rfl ?_
        refine v_iald (pc' := 73) dX1_copyFrom_72 (t) rfl h3' (by omega) (by decide) rfl ?_
        rw [hF (b + 3) (by omega)]
        refine v_iast (pc' := 74) dX1_copyFrom_73 (t) rfl h3 (by omega) (by decide) rfl ?_
        refine v_iinc2 (pc' := 77) dX1_copyFrom_74 (by decide) rfl kc_1 (nI_1 t) rfl ?_
        refine v_goto (tgt := 57) dX1_copyFrom_77 (by decide) ?_
        refine ih (t + 1) _ (by omega) (hF.tr (Fr.up (by omega))) (fun u hu k hk7 => by rw [z_up_row, z_row_ne _ _ _ (by omega)]; exact hk u hu k hk7) (fun s hs => by rw [z_up_row, z_row_ne _ _ _ (by omega)]; exact hb s hs) (fun s hs => ?_)
        rw [z_up_row, z_row_at]
        by_cases e : s = t
        · subst e; rw [pk_us]
        · rw [pk_un e]; exact hs9 s (by omega)
  have loop2 : ∀ (n t : Nat) (I1 : zI), 12 = t + n → Fr I I1 a → (∀ u, u < 6 → ∀ k, k < 7 → I1 (a + 4 + 1 * u) k = I (b + 4 + 1 * u) k) → (∀ s, s < t → I1 (a + 2) s = I (b + 2) s) → z_V E l mX1_copyFrom (z_rm 1 0 0) 0 0 (z_q (fun v' G' I' sz' => v' = none ∧ G' = G ∧ sz' = sz ∧ (Abs I' a r ∧ Fr I I' a))) 0 0 G I1 sz 31 [some (.ref a), some (.ref b), some (.int (nI t))] [] := by
    intro n
    induction n with
    | zero =>
      intro t I1 ht hF hk hb
      refine v_iload_n (pc' := 32) dX1_copyFrom_31 rfl rfl ?_
      refine v_bipush (pc' := 34) dX1_copyFrom_32 kb_12 rfl ?_
      refine v_icmp_ge (tgt := 55) (pc' := 37) dX1_copyFrom_34 (by decide) rfl (fun c_34 => ?_) (fun c_34 => ?_)
      · refine v_iconst (pc' := 56) dX1_copyFrom_55 kc_0 rfl ?_
        refine v_istore_n2 (pc' := 57) dX1_copyFrom_56 (by decide) rfl rfl ?_
        exact loop3 3 0 I1 (by omega) hF hk (fun s hs => hb s (by omega)) (fun s hs => absurd hs (by omega))
      · exact absurd (nI_le (a := 12) (by omega) (by omega)) c_34
    | succ n ih =>
      intro t I1 ht hF hk hb
      refine v_iload_n (pc' := 32) dX1_copyFrom_31 rfl rfl ?_
      refine v_bipush (pc' := 34) dX1_copyFrom_32 kb_12 rfl ?_
      refine v_icmp_ge (tgt := 55) (pc' := 37) dX1_copyFrom_34 (by decide) rfl (fun c_34 => ?_) (fun c_34 => ?_)
      · exact absurd c_34 (nI_ge (b := 12) (by omega) (by omega))
      · refine v_aload_n (pc' := 38) dX1_copyFrom_37 rfl rfl ?_
        refine g_X1_17 (pc' := 41) rfl dX1_copyFrom_38 h0 rfl ?_
        refine v_iload_n (pc' := 42) dX1_copyFrom_41 rfl rfl ?_
        refine v_aload_n (pc' := 43) dX1_copyFrom_42 rfl rfl ?_
        refine g_X1_17 (pc' := 46) rfl dX1_copyFrom_43 h0' rfl ?_
        refine v_iload_n (pc' := 47) dX1_copyFrom_46 rfl rfl ?_
        refine v_zald (pc' := 48) dX1_copyFrom_47 (t) rfl h2' (by omega) (by decide) rfl ?_
        rw [hF (b + 2) (by omega)]
        refine v_zast (pc' := 49) dX1_copyFrom_48 (t) rfl h2 (by omega) (by decide) (bnar t (by omega)) rfl ?_
        refine v_iinc2 (pc' := 52) dX1_copyFrom_49 (by decide) rfl kc_1 (nI_1 t) rfl ?_
        refine v_goto (tgt := 31) dX1_copyFrom_52 (by decide) ?_
        refine ih (t + 1) _ (by omega) (hF.tr (Fr.up (by omega))) (fun u hu k hk7 => by rw [z_up_row, z_row_ne _ _ _ (by omega)]; exact hk u hu k hk7) (fun s hs => ?_)
        rw [z_up_row, z_row_at]
        by_cases e : s = t
        · subst e; rw [pk_us]
        · rw [pk_un e]; exact hb s (by omega)
  have loop : ∀ (n t : Nat) (I1 : zI), 6 = t + n → Fr I I1 a → (∀ u, u < t → ∀ k, k < 7 → I1 (a + 4 + 1 * u) k = I (b + 4 + 1 * u) k) → z_V E l mX1_copyFrom (z_rm 1 0 0) 0 0 (z_q (fun v' G' I' sz' => v' = none ∧ G' = G ∧ sz' = sz ∧ (Abs I' a r ∧ Fr I I' a))) 0 0 G I1 sz 2 [some (.ref a), some (.ref b), some (.int (nI t))] [] := by
    intro n
    induction n with
    | zero =>
      intro t I1 ht hF hk
      refine v_iload_n (pc' := 3) dX1_copyFrom_2 rfl rfl ?_
      refine v_bipush (pc' := 5) dX1_copyFrom_3 kb_6 rfl ?_
      refine v_icmp_ge (tgt := 29) (pc' := 8) dX1_copyFrom_5 (by decide) rfl (fun c_5 => ?_) (fun c_5 => ?_)
      · refine v_iconst (pc' := 30) dX1_copyFrom_29 kc_0 rfl ?_
        refine v_istore_n2 (pc' := 31) dX1_copyFrom_30 (by decide) rfl rfl ?_
        exact loop2 12 0 I1 (by omega) hF (fun u hu => hk u (by omega)) (fun s hs => absurd hs (by omega))
      · exact absurd (nI_le (a := 6) (by omega) (by omega)) c_5
    | succ n ih =>
      intro t I1 ht hF hk
      refine v_iload_n (pc' := 3) dX1_copyFrom_2 rfl rfl ?_
      refine v_bipush (pc' := 5) dX1_copyFrom_3 kb_6 rfl ?_
      refine v_icmp_ge (tgt := 29) (pc' := 8) dX1_copyFrom_5 (by decide) rfl (fun c_5 => ?_) (fun c_5 => ?_)
      · exact absurd c_5 (nI_ge (b := 6) (by omega) (by omega))
      · refine v_aload_n (pc' := 9) dX1_copyFrom_8 rfl rfl ?_
        refine g_X1_11 (pc' := 12) rfl dX1_copyFrom_9 h0 rfl ?_
        refine v_iload_n (pc' := 13) dX1_copyFrom_12 rfl rfl ?_
        refine v_aald (t := 4) (pc' := 14) rfl dX1_copyFrom_13 (t) rfl h1 (by omega) (by decide) rfl ?_
        refine v_aload_n (pc' := 15) dX1_copyFrom_14 rfl rfl ?_
        refine g_X1_11 (pc' := 18) rfl dX1_copyFrom_15 h0' rfl ?_
        refine v_iload_n (pc' := 19) dX1_copyFrom_18 rfl rfl ?_
        refine v_aald (t := 4) (pc' := 20) rfl dX1_copyFrom_19 (t) rfl h1' (by omega) (by decide) rfl ?_
        refine v_cVV (pc' := 23) (c2_copyFrom hl (hT t (by omega)) (hT' t (by omega)) (by omega)) dX1_copyFrom_20 lk_X1_51 mwX2_copyFrom miX2_copyFrom (hT t (by omega)) rfl rfl rfl rfl (by decide) (Nat.le_of_ble_eq_true rfl) rfl ?_
        rintro _ rfl
        refine v_iinc2 (pc' := 26) dX1_copyFrom_23 (by decide) rfl kc_1 (nI_1 t) rfl ?_
        refine v_goto (tgt := 2) dX1_copyFrom_26 (by decide) ?_
        refine ih (t + 1) _ (by omega) (hF.tr (Fr.row (by omega))) (fun u hu k hk7 => ?_)
        by_cases e : u = t
        · subst e
          rw [z_row_at, hF (b + 4 + 1 * u) (by omega)]
          rcases (by omega : k = 0 ∨ k = 1 ∨ k = 2 ∨ k = 3 ∨ k = 4 ∨ k = 5 ∨ k = 6) with rfl | rfl | rfl | rfl | rfl | rfl | rfl <;> simp (disch := omega) only [k_copy, pk_us, pk_un]
        · rw [z_row_ne _ _ _ (by omega)]; exact hk u (by omega) k hk7
  refine z_Ct.of hl pn_X1 [some (.ref a), some (.ref b), none] rfl (Nat.le_of_ble_eq_true rfl) ?_
  refine v_iconst (pc' := 1) dX1_copyFrom_0 kc_0 rfl ?_
  refine v_istore_n2 (pc' := 2) dX1_copyFrom_1 (by decide) rfl rfl ?_
  exact loop 6 0 I (by omega) Fr.rf (fun u hu => absurd hu (by omega))
end CLS4
