/-- an object has been put where it belongs -/
def rDv (g : pw_P) (w w' : pw_W) (b : Nat) (B : Nat → Nat) (x : Nat → Int) (t : Int → Ob) (n : Int) (sN : Nat) (fZ : Int → Int) (c : Int) (R : Option Ob × List Rf) (r : Option Value) : Prop :=
  r = none ∧ ∃ (t' : Int → Ob) (n' : Int) (s' : Nat) (fZ' : Int → Int) (o' i' h' d' : Int), w' 1000 = (b, some (mdE B (rdX x n' ((s' : Nat) : Int) o' i' h' d'))) ∧ RS g w' B t' n' s' fZ' ∧ Ext t n t' n' ∧ n' + 2 * ((qcn R.2 : Nat) : Int) ≤ c ∧ s' ≤ sN ∧ (∀ j : Int, 0 ≤ j → j < n → fZ' j = fZ j) ∧ MdA g w' B t' n' R.2 ∧ MdX (rdX x n' ((s' : Nat) : Int) o' i' h' d') t' n' R.1 R.2 ∧ rFr w w'
theorem itF_del {V : Ob} {q : Rf} {F2 : List Rf} (h3 : q.1 ≠ 3) (h2 : q.1 ≠ 2) : (q.1 = 1 → rDel V (q :: F2) = (none, (2, q.2.1, V) :: F2)) ∧ (q.1 ≠ 1 → rDel V (q :: F2) = (none, (0, V :: q.2.1, oNil) :: F2)) := by
  constructor
  · intro h1; rw [rDel, if_neg h3, if_pos h1]
  · intro h1; rw [rDel, if_neg h3, if_neg h1]
set_option maxRecDepth 100000 in
set_option maxHeartbeats 4000000 in
/-- deliver -/
theorem m_X10_deliver (g : pw_P) (l : Launch) {w : pw_W} {b : Nat} {B : Nat → Nat} {x : Nat → Int} (h0 : w 1000 = (b, some (mdE B x))) {t : Int → Ob} {n : Int} {sN : Nat} {fZ : Int → Int} (hR : RS g w B t n sN fZ) (h7 : x 7 = n) (h10 : x 10 = ((sN : Nat) : Int)) (hK : RK t n) {F : List Rf} (hA : MdA g w B t n F) (hX : MdX x t n none F) (hFl : F.length ≤ 40) (hFk : FKs F) (hic : icn F < 1000) {y : Int} {X : Ob} (hy : Vl t n y X) (hcap : n + 2 * ((qcn F : Nat) : Int) ≤ 40000) : pw_M g l yX10_deliver cX10_deliver 3 none { frames := 4, cells := 0, slots := 0, locals := 90 } [.ref b, .int (iZ y)] w (fun r w' => rDv g w w' b B x t n sN fZ (n + 2 * ((qcn F : Nat) : Int)) (rDel X F) r) := by
  refine pw_M.of (by decide) (Nat.le_of_ble_eq_true rfl) rfl ?_
  intro p e s m args below meth c C hr hn
  have hRn := hR.n
  have hyr := Vl.rg hR hy
  have loop : ∀ (F1 : List Rf) (w1 : pw_W) (t1 : Int → Ob) (n1 : Int) (s1 : Nat) (Z1 : Int → Int) (v : Int) (V : Ob), RS g w1 B t1 n1 s1 Z1 → RK t1 n1 → Ext t n t1 n1 → MdA g w1 B t1 n1 F1 → w1 1000 = (b, some (mdE B (va_up (va_up (va_up x 7 n1) 10 ((s1 : Nat) : Int)) 27 ((F1.length : Nat) : Int)))) → x 29 = (((itF F1).length : Nat) : Int) → Vl t1 n1 v V → rDel V F1 = rDel X F → n1 + 2 * ((qcn F1 : Nat) : Int) ≤ n + 2 * ((qcn F : Nat) : Int) → s1 ≤ sN → (∀ j : Int, 0 ≤ j → j < n → Z1 j = fZ j) → F1.length ≤ 40 → FKs F1 → icn F1 < 1000 → (∀ k, (k < 1000 ∨ k = 1008 ∨ (1010 < k ∧ k < 1024) ∨ k = 1028 ∨ 1029 < k) → w1 k = w k) → pw_G g p l e { frames := 4, cells := 0, slots := 0, locals := 90 } s m args below meth c 3 (pw_Q g below (fun r w' => rDv g w w' b B x t n sN fZ (n + 2 * ((qcn F : Nat) : Int)) (rDel X F) r) args s { frames := 4, cells := 0, slots := 0, locals := 90 }) 0 0 2 [(0, .ref b), (1, .int (iZ y)), (2, .int (iZ v))] [] w1 := by
    intro F1
    induction F1 with
    | nil =>
      intro w1 t1 n1 s1 Z1 v V hR1 hK1 hext hA1 y0 y29 hv hq hnn hss hZZ hl40 hFk hic hf1
      obtain ⟨so, fr, st, la, it, b1, b2, b3, b4, b5, ⟨v1, v2, v3, v4, v5⟩, hFr, hIt⟩ := id hA1
      have hn1 := hR1.n
      have hext1 := hext.1
      have hvr := Vl.rg hR1 hv
      have y31 : x 31 = b2i false := hX.2.2.1
      have y0 : w1 1000 = (b, some (mdE B (va_up (va_up (va_up x 7 n1) 10 ((s1 : Nat) : Int)) 27 0))) := y0
      refine pw_aload_n (i := 0) C dX10_deliver_2 rfl rfl (Or.inr ⟨_, rfl⟩) ?_
      refine pw_get (j := 27) C cl_X10 fl_X10_210 (by decide) rfl y0 rfl dX10_deliver_3 ?_
      refine pw_stk (st' := [.int (iZ 0)]) rfl ?_
      refine pw_if_le (tgt := 44) C (by omega) dX10_deliver_6 (by decide) (fun h_11 => ?_) (fun h_11 => ?_)
      · refine pw_aload_n (i := 0) C dX10_deliver_44 rfl rfl (Or.inr ⟨_, rfl⟩) ?_
        refine pw_get (j := 27) C cl_X10 fl_X10_210 (by decide) rfl y0 rfl dX10_deliver_45 ?_
        refine pw_stk (st' := [.int (iZ 0)]) rfl ?_
        refine pw_if_ne (tgt := 64) C (by omega) dX10_deliver_48 (by decide) (fun h_12 => ?_) (fun h_12 => ?_)
        · exfalso; omega
        · refine pw_aload_n (i := 0) C dX10_deliver_51 rfl rfl (Or.inr ⟨_, rfl⟩) ?_
          refine pw_iload_n (i := 2) C dX10_deliver_52 rfl rfl ?_
          refine pw_put (j := 30) C cl_X10 fl_X10_220 (by decide) rfl rfl rfl rfl rfl y0 (Nat.le_of_ble_eq_true rfl) dX10_deliver_53 (fun w_15 k_13 o_14 => ?_)
          have k_16 : w_15 1000 = (b, some (mdE B (va_up (va_up (va_up (va_up x 7 n1) 10 ((s1 : Nat) : Int)) 27 0) 30 v))) := k_13
          refine pw_aload_n (i := 0) C dX10_deliver_56 rfl rfl (Or.inr ⟨_, rfl⟩) ?_
          refine pw_iconst C dX10_deliver_57 ?_
          refine pw_put (j := 31) C cl_X10 fl_X10_213 (by decide) rfl rfl rfl (by decide +kernel) (by decide +kernel) k_16 (Nat.le_of_ble_eq_true rfl) dX10_deliver_58 (fun w_19 k_17 o_18 => ?_)
          have k_20 : w_19 1000 = (b, some (mdE B (va_up (va_up (va_up (va_up (va_up x 7 n1) 10 ((s1 : Nat) : Int)) 27 0) 30 v) 31 1))) := k_17
          refine pw_goto (tgt := 126) C dX10_deliver_61 (by decide) ?_
          have c_21 := ((o_18 1024 (by omega)).trans (o_14 1024 (by omega))).trans b1
          have c_22 := ((o_18 1025 (by omega)).trans (o_14 1025 (by omega))).trans b2
          have c_23 := ((o_18 1026 (by omega)).trans (o_14 1026 (by omega))).trans b3
          have c_24 := ((o_18 1027 (by omega)).trans (o_14 1027 (by omega))).trans b4
          have c_25 := ((o_18 1029 (by omega)).trans (o_14 1029 (by omega))).trans b5
          have R_26 := hR1.same (w' := w_19) (fun k hk => (o_18 k (by omega)).trans (o_14 k (by omega)))
          refine pw_vret C hr dX10_deliver_126 ⟨rfl, ?_⟩
          rw [← hq]
          exact ⟨t1, n1, s1, Z1, 0, x 29, v, 1, k_20, R_26, hext, by simp only [rDel, qcn] at hnn ⊢; omega, hss, hZZ, ⟨so, fr, st, la, it, c_21, c_22, c_23, c_24, c_25, ⟨v1, v2, v3, v4, v5⟩, trivial, trivial⟩, ⟨rfl, y29, rfl, fun u hu => by cases hu; exact hv⟩, fun k hk => ((o_18 k (by omega)).trans (o_14 k (by omega))).trans (hf1 k hk)⟩
      · exfalso; omega
    | cons q F2 ih =>
      intro w1 t1 n1 s1 Z1 v V hR1 hK1 hext hA1 y0 y29 hv hq hnn hss hZZ hl40 hFk hic hf1
      obtain ⟨so, fr, st, la, it, b1, b2, b3, b4, b5, ⟨v1, v2, v3, v4, v5⟩, hFr, hIt⟩ := id hA1
      have hn1 := hR1.n
      have hext1 := hext.1
      have hvr := Vl.rg hR1 hv
      have y31 : x 31 = b2i false := hX.2.2.1
      have hl : (q :: F2).length = F2.length + 1 := rfl
      have hFq := hFk q List.mem_cons_self
      have hin : icn (q :: F2) = icF q + icn F2 := rfl
      have hil := itF_le (q :: F2)
      have hs0 : so ((((q :: F2).length : Nat) : Int) - 1) = (if q.1 = 3 then 1 else 0) := by rw [show (((q :: F2).length : Nat) : Int) - 1 = ((F2.length : Nat) : Int) by omega]; exact hFr.1
      have hs1 : q.1 ≠ 3 → st ((((q :: F2).length : Nat) : Int) - 1) = ((q.1 : Nat) : Int) := fun e => by rw [show (((q :: F2).length : Nat) : Int) - 1 = ((F2.length : Nat) : Int) by omega]; exact hFr.2.1 e
      by_cases e3 : q.1 = 3
      · have hfe : itF (q :: F2) = itF F2 := by simp [itF, hFq.2.2 e3]
        rw [if_pos e3] at hs0
        have hqc : qcn (q :: F2) = 1 + qcn F2 := by simp [qcn, e3]
        refine pw_aload_n (i := 0) C dX10_deliver_2 rfl rfl (Or.inr ⟨_, rfl⟩) ?_
        refine pw_get (j := 27) C cl_X10 fl_X10_210 (by decide) rfl y0 rfl dX10_deliver_3 ?_
        refine pw_stk (st' := [.int (iZ (((q :: F2).length : Nat) : Int))]) rfl ?_
        refine pw_if_le (tgt := 44) C (by omega) dX10_deliver_6 (by decide) (fun h_101 => ?_) (fun h_101 => ?_)
        · exfalso; omega
        · refine pw_aload_n (i := 0) C dX10_deliver_9 rfl rfl (Or.inr ⟨_, rfl⟩) ?_
          refine pw_get (j := 23) C cl_X10 fl_X10_59 (by decide) rfl y0 rfl dX10_deliver_10 ?_
          refine pw_stk (st' := [.ref (B 23)]) rfl ?_
          refine pw_aload_n (i := 0) C dX10_deliver_13 rfl rfl (Or.inr ⟨_, rfl⟩) ?_
          refine pw_get (j := 27) C cl_X10 fl_X10_210 (by decide) rfl y0 rfl dX10_deliver_14 ?_
          refine pw_stk (st' := [.int (iZ (((q :: F2).length : Nat) : Int)), .ref (B 23)]) rfl ?_
          refine pw_iconst C dX10_deliver_17 ?_
          refine pw_isub C dX10_deliver_18 ?_
          have g_102 := v1 ((((q :: F2).length : Nat) : Int) - 1)
          refine pw_iald C b1 ⟨by omega, by omega, by omega⟩ dX10_deliver_19 ?_
          refine pw_iconst C dX10_deliver_20 ?_
          refine pw_icmp_ne (tgt := 44) C (by omega) (by omega) dX10_deliver_21 (by decide) (fun h_103 => ?_) (fun h_103 => ?_)
          · exfalso; omega
          · refine pw_aload_n (i := 0) C dX10_deliver_24 rfl rfl (Or.inr ⟨_, rfl⟩) ?_
            refine pw_iconst C dX10_deliver_25 ?_
            refine pw_iload_n (i := 2) C dX10_deliver_26 rfl rfl ?_
            refine pw_callV (As := [.int (iZ 2), .int (iZ v)]) (st := []) C (m_X10_list2 g l y0 hR1 rfl rfl hK1 (RK.v hK1 2 (by decide)) hv (by omega)) my_X10_list2 ml_X10_189 (pw_rec.of C y0 cl_X10.1) rfl ⟨Nat.le_of_ble_eq_true rfl, Nat.le_of_ble_eq_true rfl⟩ ⟨by (try dsimp only); omega, by (try dsimp only); omega⟩ rfl (Nat.le_of_ble_eq_true rfl) dX10_deliver_27 ?_
            rintro _ w_116 ⟨z_104, t_105, n_106, sN_107, Z_108, rfl, e_109, R_110, x_111, hn_112, hs_113, hZ_114, z_104v, o_115⟩
            have x_1111 := x_111.1
            have R_110n := R_110.n
            have v_117 := Vl.ext hv x_111
            have K_118 := RK.ext hK1 x_111
            have z_104r := Vl.rg R_110 z_104v
            refine pw_stk (st' := [.int (iZ z_104)]) rfl ?_
            refine pw_istore_n (i := 2) (lv' := [(0, .ref b), (1, .int (iZ y)), (2, .int (iZ z_104))]) C dX10_deliver_30 rfl (by decide) rfl ?_
            refine pw_aload_n (i := 0) C dX10_deliver_31 rfl rfl (Or.inr ⟨_, rfl⟩) ?_
            refine pw_dup C dX10_deliver_32 rfl ?_
            refine pw_get (j := 27) C cl_X10 fl_X10_210 (by decide) rfl e_109 rfl dX10_deliver_33 ?_
            refine pw_stk (st' := [.int (iZ (((q :: F2).length : Nat) : Int)), .ref b]) rfl ?_
            refine pw_iconst C dX10_deliver_36 ?_
            refine pw_isub C dX10_deliver_37 ?_
            refine pw_put (j := 27) C cl_X10 fl_X10_210 (by decide) rfl rfl rfl rfl rfl e_109 (Nat.le_of_ble_eq_true rfl) dX10_deliver_38 (fun w_121 k_119 o_120 => ?_)
            have k_122 : w_121 1000 = (b, some (mdE B (va_up (va_up (va_up (va_up (va_up (va_up x 7 n1) 10 ((s1 : Nat) : Int)) 27 (((q :: F2).length : Nat) : Int)) 7 n_106) 10 ((sN_107 : Nat) : Int)) 27 ((((q :: F2).length : Nat) : Int) - 1)))) := k_119
            refine pw_goto (tgt := 2) C dX10_deliver_41 (by decide) ?_
            have c_123 := ((o_120 1024 (by omega)).trans (o_115 1024 (by omega))).trans b1
            have c_124 := ((o_120 1025 (by omega)).trans (o_115 1025 (by omega))).trans b2
            have c_125 := ((o_120 1026 (by omega)).trans (o_115 1026 (by omega))).trans b3
            have c_126 := ((o_120 1027 (by omega)).trans (o_115 1027 (by omega))).trans b4
            have c_127 := ((o_120 1029 (by omega)).trans (o_115 1029 (by omega))).trans b5
            have R_128 := R_110.same (w' := w_121) (fun k hk => (o_120 k (by omega)))
            refine ih w_121 t_105 n_106 sN_107 Z_108 z_104 _ R_128 (RK.ext hK1 x_111) (hext.tr x_111) ⟨so, fr, st, la, it, c_123, c_124, c_125, c_126, c_127, ⟨v1, v2, v3, v4, v5⟩, hFr.2.2.2.2.keep x_111 (fun _ _ _ => ⟨rfl, rfl, rfl, rfl⟩), by have := hIt.ext x_111; rw [hfe] at this; exact this⟩ ?_ (by rw [← hfe]; exact y29) z_104v ?_ (by omega) (by omega) (fun j j0 j1 => (hZ_114 j j0 (by omega)).trans (hZZ j j0 j1)) (by omega) (fun y hy => hFk y (List.mem_cons_of_mem _ hy)) (by omega) (fun k hk => ((o_120 k (by omega)).trans (o_115 k (by omega))).trans (hf1 k hk))
            · rw [k_122, show (((q :: F2).length : Nat) : Int) - 1 = ((F2.length : Nat) : Int) by omega]; rfl
            · rw [← hq]; show _ = rDel V (q :: F2); rw [rDel, if_pos e3]; rfl
      · rw [if_neg e3] at hs0
        have hs2 := hs1 e3
        obtain ⟨hd, hd0⟩ := itF_del (V := V) (F2 := F2) e3 hFq.2.1
        by_cases e1 : q.1 = 1
        · skip
          refine pw_aload_n (i := 0) C dX10_deliver_2 rfl rfl (Or.inr ⟨_, rfl⟩) ?_
          refine pw_get (j := 27) C cl_X10 fl_X10_210 (by decide) rfl y0 rfl dX10_deliver_3 ?_
          refine pw_stk (st' := [.int (iZ (((q :: F2).length : Nat) : Int))]) rfl ?_
          refine pw_if_le (tgt := 44) C (by omega) dX10_deliver_6 (by decide) (fun h_201 => ?_) (fun h_201 => ?_)
          · exfalso; omega
          · refine pw_aload_n (i := 0) C dX10_deliver_9 rfl rfl (Or.inr ⟨_, rfl⟩) ?_
            refine pw_get (j := 23) C cl_X10 fl_X10_59 (by decide) rfl y0 rfl dX10_deliver_10 ?_
            refine pw_stk (st' := [.ref (B 23)]) rfl ?_
            refine pw_aload_n (i := 0) C dX10_deliver_13 rfl rfl (Or.inr ⟨_, rfl⟩) ?_
            refine pw_get (j := 27) C cl_X10 fl_X10_210 (by decide) rfl y0 rfl dX10_deliver_14 ?_
            refine pw_stk (st' := [.int (iZ (((q :: F2).length : Nat) : Int)), .ref (B 23)]) rfl ?_
            refine pw_iconst C dX10_deliver_17 ?_
            refine pw_isub C dX10_deliver_18 ?_
            have g_202 := v1 ((((q :: F2).length : Nat) : Int) - 1)
            refine pw_iald C b1 ⟨by omega, by omega, by omega⟩ dX10_deliver_19 ?_
            refine pw_iconst C dX10_deliver_20 ?_
            refine pw_icmp_ne (tgt := 44) C (by omega) (by omega) dX10_deliver_21 (by decide) (fun h_203 => ?_) (fun h_203 => ?_)
            · refine pw_aload_n (i := 0) C dX10_deliver_44 rfl rfl (Or.inr ⟨_, rfl⟩) ?_
              refine pw_get (j := 27) C cl_X10 fl_X10_210 (by decide) rfl y0 rfl dX10_deliver_45 ?_
              refine pw_stk (st' := [.int (iZ (((q :: F2).length : Nat) : Int))]) rfl ?_
              refine pw_if_ne (tgt := 64) C (by omega) dX10_deliver_48 (by decide) (fun h_204 => ?_) (fun h_204 => ?_)
              · refine pw_aload_n (i := 0) C dX10_deliver_64 rfl rfl (Or.inr ⟨_, rfl⟩) ?_
                refine pw_get (j := 25) C cl_X10 fl_X10_65 (by decide) rfl y0 rfl dX10_deliver_65 ?_
                refine pw_stk (st' := [.ref (B 25)]) rfl ?_
                refine pw_aload_n (i := 0) C dX10_deliver_68 rfl rfl (Or.inr ⟨_, rfl⟩) ?_
                refine pw_get (j := 27) C cl_X10 fl_X10_210 (by decide) rfl y0 rfl dX10_deliver_69 ?_
                refine pw_stk (st' := [.int (iZ (((q :: F2).length : Nat) : Int)), .ref (B 25)]) rfl ?_
                refine pw_iconst C dX10_deliver_72 ?_
                refine pw_isub C dX10_deliver_73 ?_
                have g_205 := v3 ((((q :: F2).length : Nat) : Int) - 1)
                refine pw_iald C b3 ⟨by omega, by omega, by omega⟩ dX10_deliver_74 ?_
                refine pw_iconst C dX10_deliver_75 ?_
                refine pw_icmp_ne (tgt := 106) C (by omega) (by omega) dX10_deliver_76 (by decide) (fun h_206 => ?_) (fun h_206 => ?_)
                · exfalso; omega
                · refine pw_aload_n (i := 0) C dX10_deliver_79 rfl rfl (Or.inr ⟨_, rfl⟩) ?_
                  refine pw_get (j := 26) C cl_X10 fl_X10_68 (by decide) rfl y0 rfl dX10_deliver_80 ?_
                  refine pw_stk (st' := [.ref (B 26)]) rfl ?_
                  refine pw_aload_n (i := 0) C dX10_deliver_83 rfl rfl (Or.inr ⟨_, rfl⟩) ?_
                  refine pw_get (j := 27) C cl_X10 fl_X10_210 (by decide) rfl y0 rfl dX10_deliver_84 ?_
                  refine pw_stk (st' := [.int (iZ (((q :: F2).length : Nat) : Int)), .ref (B 26)]) rfl ?_
                  refine pw_iconst C dX10_deliver_87 ?_
                  refine pw_isub C dX10_deliver_88 ?_
                  refine pw_iload_n (i := 2) C dX10_deliver_89 rfl rfl ?_
                  refine pw_iast C b4 ⟨by omega, by omega, by omega⟩ dX10_deliver_90 (fun w_209 k_207 o_208 => ?_)
                  refine pw_aload_n (i := 0) C dX10_deliver_91 rfl rfl (Or.inr ⟨_, rfl⟩) ?_
                  have c_210 := (o_208 1000 (by omega)).trans y0
                  refine pw_get (j := 25) C cl_X10 fl_X10_65 (by decide) rfl c_210 rfl dX10_deliver_92 ?_
                  refine pw_stk (st' := [.ref (B 25)]) rfl ?_
                  refine pw_aload_n (i := 0) C dX10_deliver_95 rfl rfl (Or.inr ⟨_, rfl⟩) ?_
                  refine pw_get (j := 27) C cl_X10 fl_X10_210 (by decide) rfl c_210 rfl dX10_deliver_96 ?_
                  refine pw_stk (st' := [.int (iZ (((q :: F2).length : Nat) : Int)), .ref (B 25)]) rfl ?_
                  refine pw_iconst C dX10_deliver_99 ?_
                  refine pw_isub C dX10_deliver_100 ?_
                  refine pw_iconst C dX10_deliver_101 ?_
                  have c_211 := (o_208 1026 (by omega)).trans b3
                  refine pw_iast C c_211 ⟨by omega, by omega, by omega⟩ dX10_deliver_102 (fun w_214 k_212 o_213 => ?_)
                  refine pw_goto (tgt := 126) C dX10_deliver_103 (by decide) ?_
                  have c_215 := (o_213 1000 (by omega)).trans c_210
                  have c_216 := ((o_213 1024 (by omega)).trans (o_208 1024 (by omega))).trans b1
                  have c_217 := ((o_213 1025 (by omega)).trans (o_208 1025 (by omega))).trans b2
                  have c_218 := (o_213 1027 (by omega)).trans k_207
                  have c_219 := ((o_213 1029 (by omega)).trans (o_208 1029 (by omega))).trans b5
                  have R_220 := hR1.same (w' := w_214) (fun k hk => (o_213 k (by omega)).trans (o_208 k (by omega)))
                  refine pw_vret C hr dX10_deliver_126 ⟨rfl, ?_⟩
                  rw [← hq]
                  rw [hd e1]
                  refine ⟨t1, n1, s1, Z1, (((q :: F2).length : Nat) : Int), x 29, x 30, x 31, c_215, R_220, hext, by show n1 + 2 * ((qcn ((2, q.2.1, V) :: F2) : Nat) : Int) ≤ _; simp only [qcn] at hnn ⊢; rw [if_neg e3] at hnn; rw [if_neg (by decide)]; omega, hss, hZZ, ⟨so, fr, _, _, it, c_216, c_217, k_212, c_218, c_219, ⟨v1, v2, upz_inI v3 (by decide), upz_inI v4 (by omega), v5⟩, ⟨?_, fun _ => ?_, hFr.2.2.1, fun _ => ?_, hFr.2.2.2.2.keep Ext.rf (fun j j0 j1 => ⟨rfl, rfl, upz_ne _ _ (by omega), upz_ne _ _ (by omega)⟩)⟩, hIt⟩, ⟨rfl, y29, y31, (fun u hu => by cases hu)⟩, fun k hk => ((o_213 k (by omega)).trans (o_208 k (by omega))).trans (hf1 k hk)⟩
                  · rw [hFr.1, if_neg e3, if_neg (show ¬ (2 : Nat) = 3 by decide)]
                  · rw [show ((F2.length : Nat) : Int) = (((q :: F2).length : Nat) : Int) - 1 by omega, upz_self]; rfl
                  · rw [show ((F2.length : Nat) : Int) = (((q :: F2).length : Nat) : Int) - 1 by omega, upz_self]; exact hv
              · exfalso; omega
            · exfalso; omega
        · skip
          refine pw_aload_n (i := 0) C dX10_deliver_2 rfl rfl (Or.inr ⟨_, rfl⟩) ?_
          refine pw_get (j := 27) C cl_X10 fl_X10_210 (by decide) rfl y0 rfl dX10_deliver_3 ?_
          refine pw_stk (st' := [.int (iZ (((q :: F2).length : Nat) : Int))]) rfl ?_
          refine pw_if_le (tgt := 44) C (by omega) dX10_deliver_6 (by decide) (fun h_301 => ?_) (fun h_301 => ?_)
          · exfalso; omega
          · refine pw_aload_n (i := 0) C dX10_deliver_9 rfl rfl (Or.inr ⟨_, rfl⟩) ?_
            refine pw_get (j := 23) C cl_X10 fl_X10_59 (by decide) rfl y0 rfl dX10_deliver_10 ?_
            refine pw_stk (st' := [.ref (B 23)]) rfl ?_
            refine pw_aload_n (i := 0) C dX10_deliver_13 rfl rfl (Or.inr ⟨_, rfl⟩) ?_
            refine pw_get (j := 27) C cl_X10 fl_X10_210 (by decide) rfl y0 rfl dX10_deliver_14 ?_
            refine pw_stk (st' := [.int (iZ (((q :: F2).length : Nat) : Int)), .ref (B 23)]) rfl ?_
            refine pw_iconst C dX10_deliver_17 ?_
            refine pw_isub C dX10_deliver_18 ?_
            have g_302 := v1 ((((q :: F2).length : Nat) : Int) - 1)
            refine pw_iald C b1 ⟨by omega, by omega, by omega⟩ dX10_deliver_19 ?_
            refine pw_iconst C dX10_deliver_20 ?_
            refine pw_icmp_ne (tgt := 44) C (by omega) (by omega) dX10_deliver_21 (by decide) (fun h_303 => ?_) (fun h_303 => ?_)
            · refine pw_aload_n (i := 0) C dX10_deliver_44 rfl rfl (Or.inr ⟨_, rfl⟩) ?_
              refine pw_get (j := 27) C cl_X10 fl_X10_210 (by decide) rfl y0 rfl dX10_deliver_45 ?_
              refine pw_stk (st' := [.int (iZ (((q :: F2).length : Nat) : Int))]) rfl ?_
              refine pw_if_ne (tgt := 64) C (by omega) dX10_deliver_48 (by decide) (fun h_304 => ?_) (fun h_304 => ?_)
              · refine pw_aload_n (i := 0) C dX10_deliver_64 rfl rfl (Or.inr ⟨_, rfl⟩) ?_
                refine pw_get (j := 25) C cl_X10 fl_X10_65 (by decide) rfl y0 rfl dX10_deliver_65 ?_
                refine pw_stk (st' := [.ref (B 25)]) rfl ?_
                refine pw_aload_n (i := 0) C dX10_deliver_68 rfl rfl (Or.inr ⟨_, rfl⟩) ?_
                refine pw_get (j := 27) C cl_X10 fl_X10_210 (by decide) rfl y0 rfl dX10_deliver_69 ?_
                refine pw_stk (st' := [.int (iZ (((q :: F2).length : Nat) : Int)), .ref (B 25)]) rfl ?_
                refine pw_iconst C dX10_deliver_72 ?_
                refine pw_isub C dX10_deliver_73 ?_
                have g_305 := v3 ((((q :: F2).length : Nat) : Int) - 1)
                refine pw_iald C b3 ⟨by omega, by omega, by omega⟩ dX10_deliver_74 ?_
                refine pw_iconst C dX10_deliver_75 ?_
                refine pw_icmp_ne (tgt := 106) C (by omega) (by omega) dX10_deliver_76 (by decide) (fun h_306 => ?_) (fun h_306 => ?_)
                · refine pw_aload_n (i := 0) C dX10_deliver_106 rfl rfl (Or.inr ⟨_, rfl⟩) ?_
                  refine pw_get (j := 28) C cl_X10 fl_X10_71 (by decide) rfl y0 rfl dX10_deliver_107 ?_
                  refine pw_stk (st' := [.ref (B 28)]) rfl ?_
                  refine pw_aload_n (i := 0) C dX10_deliver_110 rfl rfl (Or.inr ⟨_, rfl⟩) ?_
                  refine pw_get (j := 29) C cl_X10 fl_X10_217 (by decide) rfl y0 rfl dX10_deliver_111 ?_
                  refine pw_stk (st' := [.int (iZ (x 29)), .ref (B 28)]) rfl ?_
                  refine pw_stk (st' := [.int (iZ (((itF (q :: F2)).length : Nat) : Int)), .ref (B 28)]) (by rw [y29]) ?_
                  refine pw_iload_n (i := 2) C dX10_deliver_114 rfl rfl ?_
                  refine pw_iast C b5 ⟨by omega, by omega, by omega⟩ dX10_deliver_115 (fun w_309 k_307 o_308 => ?_)
                  refine pw_aload_n (i := 0) C dX10_deliver_116 rfl rfl (Or.inr ⟨_, rfl⟩) ?_
                  refine pw_dup C dX10_deliver_117 rfl ?_
                  have c_310 := (o_308 1000 (by omega)).trans y0
                  refine pw_get (j := 29) C cl_X10 fl_X10_217 (by decide) rfl c_310 rfl dX10_deliver_118 ?_
                  refine pw_stk (st' := [.int (iZ (x 29)), .ref b]) rfl ?_
                  refine pw_stk (st' := [.int (iZ (((itF (q :: F2)).length : Nat) : Int)), .ref b]) (by rw [y29]) ?_
                  refine pw_iconst C dX10_deliver_121 ?_
                  refine pw_iadd C dX10_deliver_122 ?_
                  refine pw_put (j := 29) C cl_X10 fl_X10_217 (by decide) rfl rfl rfl rfl rfl c_310 (Nat.le_of_ble_eq_true rfl) dX10_deliver_123 (fun w_313 k_311 o_312 => ?_)
                  have k_314 : w_313 1000 = (b, some (mdE B (va_up (va_up (va_up (va_up x 7 n1) 10 ((s1 : Nat) : Int)) 27 (((q :: F2).length : Nat) : Int)) 29 ((((itF (q :: F2)).length : Nat) : Int) + 1)))) := k_311
                  have c_315 := ((o_312 1024 (by omega)).trans (o_308 1024 (by omega))).trans b1
                  have c_316 := ((o_312 1025 (by omega)).trans (o_308 1025 (by omega))).trans b2
                  have c_317 := ((o_312 1026 (by omega)).trans (o_308 1026 (by omega))).trans b3
                  have c_318 := ((o_312 1027 (by omega)).trans (o_308 1027 (by omega))).trans b4
                  have c_319 := (o_312 1029 (by omega)).trans k_307
                  have R_320 := hR1.same (w' := w_313) (fun k hk => (o_312 k (by omega)).trans (o_308 k (by omega)))
                  refine pw_vret C hr dX10_deliver_126 ⟨rfl, ?_⟩
                  rw [← hq]
                  rw [hd0 e1]
                  refine ⟨t1, n1, s1, Z1, (((q :: F2).length : Nat) : Int), (((itF (q :: F2)).length : Nat) : Int) + 1, x 30, x 31, k_314, R_320, hext, by show n1 + 2 * ((qcn ((0, V :: q.2.1, oNil) :: F2) : Nat) : Int) ≤ _; simp only [qcn] at hnn ⊢; rw [if_neg e3] at hnn; rw [if_neg (by decide)]; omega, hss, hZZ, ⟨so, fr, st, la, _, c_315, c_316, c_317, c_318, c_319, ⟨v1, v2, v3, v4, upz_inI v5 (by omega)⟩, ⟨?_, fun _ => ?_, hFr.2.2.1, (fun q => by cases q), hFr.2.2.2.2⟩, ?_⟩, ⟨rfl, ?_, y31, (fun u hu => by cases hu)⟩, fun k hk => ((o_312 k (by omega)).trans (o_308 k (by omega))).trans (hf1 k hk)⟩
                  · rw [hFr.1, if_neg e3, if_neg (show ¬ (0 : Nat) = 3 by decide)]
                  · rw [hFr.2.1 e3]; show ((q.1 : Nat) : Int) = ((0 : Nat) : Int); omega
                  · rw [show itF ((0, V :: q.2.1, oNil) :: F2) = itF (q :: F2) ++ [V] by simp [itF]]; have := VlsI.add hv hIt; rw [Int.zero_add] at this; exact this
                  · rw [show itF ((0, V :: q.2.1, oNil) :: F2) = itF (q :: F2) ++ [V] by simp [itF]]; show (((itF (q :: F2)).length : Nat) : Int) + 1 = _; simp
                · exfalso; omega
              · exfalso; omega
            · exfalso; omega
  refine pw_iload_n (i := 1) C dX10_deliver_0 rfl rfl ?_
  refine pw_istore_n (i := 2) (lv' := [(0, .ref b), (1, .int (iZ y)), (2, .int (iZ y))]) C dX10_deliver_1 rfl (by decide) rfl ?_
  exact loop F w t n sN fZ y X hR hK Ext.rf hA (by rw [← h7, ← h10, ← hX.1]; exact h0) hX.2.1 hy rfl (by omega) (Nat.le_refl _) (fun _ _ _ => rfl) hFl hFk hic (fun _ _ => rfl)

set_option maxRecDepth 100000 in
set_option maxHeartbeats 4000000 in
/-- close -/
theorem m_X10_close (g : pw_P) (l : Launch) {w : pw_W} {b : Nat} {B : Nat → Nat} {x : Nat → Int} (h0 : w 1000 = (b, some (mdE B x))) {t : Int → Ob} {n : Int} {sN : Nat} {fZ : Int → Int} (hR : RS g w B t n sN fZ) (h7 : x 7 = n) (h10 : x 10 = ((sN : Nat) : Int)) (hK : RK t n) {q : Rf} {F2 : List Rf} (hA : MdA g w B t n (q :: F2)) (hX : MdX x t n none (q :: F2)) (hFl : (q :: F2).length ≤ 40) (hFk : FKs F2) (hic : icn (q :: F2) < 1000) (hqk : q.1 = 0 ∨ q.1 = 2) (hla : q.1 ≠ 2 → q.2.2 = oNil) (hcap : n + (q.2.1.length : Int) + 2 * ((qcn F2 : Nat) : Int) ≤ 40000) : pw_M g l yX10_close cX10_close 3 none { frames := 5, cells := 0, slots := 0, locals := 112 } [.ref b] w (fun r w' => rDv g w w' b B x t n sN fZ (n + (q.2.1.length : Int) + 2 * ((qcn F2 : Nat) : Int)) (rDel (rLs q.2.1 q.2.2) F2) r) := by
  refine pw_M.of (by decide) (Nat.le_of_ble_eq_true rfl) rfl ?_
  intro p e s m args below meth c C hr hn
  obtain ⟨so, fr, st, la, it, b1, b2, b3, b4, b5, ⟨v1, v2, v3, v4, v5⟩, hFr, hIt⟩ := id hA
  obtain ⟨x27, x29, x31, x30⟩ := id hX
  have hRn := hR.n
  have hl : (q :: F2).length = F2.length + 1 := rfl
  have hfr : fr ((F2.length : Nat) : Int) = (((itF F2).length : Nat) : Int) := hFr.2.2.1
  have hil := itF_le F2
  have hin : icn (q :: F2) = icF q + icn F2 := rfl
  have hicf : icF q = q.2.1.length + (if q.1 = 2 then 1 else 0) := rfl
  have hla2 := hFr.2.2.2.1
  have hst := hFr.2.1 (by omega)
  have hil2 : (itF (q :: F2)).length = (itF F2).length + q.2.1.length := by simp [itF]
  have loop : ∀ (q1 : List Ob) (w1 : pw_W) (t1 : Int → Ob) (n1 : Int) (s1 : Nat) (Z1 : Int → Int) (v : Int) (V : Ob), RS g w1 B t1 n1 s1 Z1 → RK t1 n1 → Ext t n t1 n1 → Vl t1 n1 v V → rLs q1 V = rLs q.2.1 q.2.2 → (n1 + (q1.length : Int) ≤ n + (q.2.1.length : Int) ∧ q1.length ≤ q.2.1.length) → s1 ≤ sN → (∀ j : Int, 0 ≤ j → j < n → Z1 j = fZ j) → w1 1000 = (b, some (mdE B (va_up (va_up (va_up x 7 n1) 10 ((s1 : Nat) : Int)) 29 (((itF F2 ++ q1.reverse).length : Nat) : Int)))) → VlsI t1 n1 it 0 (itF F2 ++ q1.reverse) → (∀ k, (k < 1000 ∨ k = 1008 ∨ 1010 < k) → w1 k = w k) → pw_G g p l e { frames := 5, cells := 0, slots := 0, locals := 112 } s m args below meth c 3 (pw_Q g below (fun r w' => rDv g w w' b B x t n sN fZ (n + (q.2.1.length : Int) + 2 * ((qcn F2 : Nat) : Int)) (rDel (rLs q.2.1 q.2.2) F2) r) args s { frames := 5, cells := 0, slots := 0, locals := 112 }) 0 0 28 [(0, .ref b), (1, .int (iZ ((F2.length : Nat) : Int))), (2, .int (iZ v))] [] w1 := by
    intro q1
    induction q1 with
    | nil =>
      intro w1 t1 n1 s1 Z1 v V hR1 hK1 hext hv hq hnn hss hZZ y0 kv1 hf1
      have hn1 := hR1.n
      have hvr := Vl.rg hR1 hv
      have c2 := (hf1 1025 (by omega)).trans b2
      have c5 := (hf1 1029 (by omega)).trans b5
      have hlz : (itF F2 ++ ([] : List Ob).reverse).length = (itF F2).length := by simp
      refine pw_aload_n (i := 0) C dX10_close_28 rfl rfl (Or.inr ⟨_, rfl⟩) ?_
      refine pw_get (j := 29) C cl_X10 fl_X10_217 (by decide) rfl y0 rfl dX10_close_29 ?_
      refine pw_stk (st' := [.int (iZ (((itF F2 ++ ([] : List Ob).reverse).length : Nat) : Int))]) rfl ?_
      refine pw_aload_n (i := 0) C dX10_close_32 rfl rfl (Or.inr ⟨_, rfl⟩) ?_
      refine pw_get (j := 24) C cl_X10 fl_X10_62 (by decide) rfl y0 rfl dX10_close_33 ?_
      refine pw_stk (st' := [.ref (B 24), .int (iZ (((itF F2 ++ ([] : List Ob).reverse).length : Nat) : Int))]) rfl ?_
      refine pw_iload_n (i := 1) C dX10_close_36 rfl rfl ?_
      have g_11 := v2 ((F2.length : Nat) : Int)
      refine pw_iald C c2 ⟨by omega, by omega, by omega⟩ dX10_close_37 ?_
      refine pw_icmp_le (tgt := 69) C (by omega) (by omega) dX10_close_38 (by decide) (fun h_12 => ?_) (fun h_12 => ?_)
      · refine pw_aload_n (i := 0) C dX10_close_69 rfl rfl (Or.inr ⟨_, rfl⟩) ?_
        refine pw_dup C dX10_close_70 rfl ?_
        refine pw_get (j := 27) C cl_X10 fl_X10_210 (by decide) rfl y0 rfl dX10_close_71 ?_
        refine pw_stk (st' := [.int (iZ (x 27)), .ref b]) rfl ?_
        refine pw_stk (st' := [.int (iZ (((q :: F2).length : Nat) : Int)), .ref b]) (by rw [x27]) ?_
        refine pw_iconst C dX10_close_74 ?_
        refine pw_isub C dX10_close_75 ?_
        refine pw_put (j := 27) C cl_X10 fl_X10_210 (by decide) rfl rfl rfl rfl rfl y0 (Nat.le_of_ble_eq_true rfl) dX10_close_76 (fun w_15 k_13 o_14 => ?_)
        have k_16 : w_15 1000 = (b, some (mdE B (va_up (va_up (va_up (va_up x 7 n1) 10 ((s1 : Nat) : Int)) 29 (((itF F2 ++ ([] : List Ob).reverse).length : Nat) : Int)) 27 ((((q :: F2).length : Nat) : Int) - 1)))) := k_13
        refine pw_aload_n (i := 0) C dX10_close_79 rfl rfl (Or.inr ⟨_, rfl⟩) ?_
        refine pw_iload_n (i := 2) C dX10_close_80 rfl rfl ?_
        have R_17 := hR1.same (w' := w_15) (fun k hk => (o_14 k (by omega)))
        have hAn : MdA g w_15 B t1 n1 F2 := ⟨so, fr, st, la, it, ((o_14 1024 (by decide))).trans ((hf1 1024 (by omega)).trans b1), ((o_14 1025 (by decide))).trans ((hf1 1025 (by omega)).trans b2), ((o_14 1026 (by decide))).trans ((hf1 1026 (by omega)).trans b3), ((o_14 1027 (by decide))).trans ((hf1 1027 (by omega)).trans b4), ((o_14 1029 (by decide))).trans ((hf1 1029 (by omega)).trans b5), ⟨v1, v2, v3, v4, v5⟩, hFr.2.2.2.2.keep hext (fun _ _ _ => ⟨rfl, rfl, rfl, rfl⟩), by simpa using kv1⟩
        refine pw_callV (As := [.int (iZ v)]) (st := []) C (m_X10_deliver g l k_16 R_17 rfl rfl hK1 hAn ⟨by show (((q :: F2).length : Nat) : Int) - 1 = _; omega, by show (((itF F2 ++ ([] : List Ob).reverse).length : Nat) : Int) = _; simp, x31, (fun u hu => by cases hu)⟩ (by omega) hFk (by omega) hv (by simp only [List.length_nil] at hnn; omega)) my_X10_deliver ml_X10_223 (pw_rec.of C k_16 cl_X10.1) rfl ⟨Nat.le_of_ble_eq_true rfl, Nat.le_of_ble_eq_true rfl⟩ ⟨by (try dsimp only); omega, by (try dsimp only); omega⟩ rfl (Nat.le_of_ble_eq_true rfl) dX10_close_81 ?_
        rintro _ w9 ⟨rfl, t9, n9, s9, Z9, o9, i9, h9, d9, g0, g1, g2, g3, g4, g5, g6, g7, g8⟩
        refine pw_stk (st' := []) rfl ?_
        rw [show V = rLs q.2.1 q.2.2 from hq] at g3 g6 g7
        exact pw_vret C hr dX10_close_84 ⟨rfl, t9, n9, s9, Z9, o9, i9, h9, d9, g0, g1, hext.tr g2, by simp only [List.length_nil] at hnn; omega, by omega, fun j j0 j1 => (g5 j j0 (by have := hext.1; omega)).trans (hZZ j j0 j1), g6, g7, fun k hk => ((g8 k (by omega)).trans (o_14 k (by omega))).trans (hf1 k (by omega))⟩
      · exfalso; omega
    | cons x1 q1 ih =>
      intro w1 t1 n1 s1 Z1 v V hR1 hK1 hext hv hq hnn hss hZZ y0 kv1 hf1
      have hn1 := hR1.n
      have hvr := Vl.rg hR1 hv
      have c2 := (hf1 1025 (by omega)).trans b2
      have c5 := (hf1 1029 (by omega)).trans b5
      have hre : itF F2 ++ (x1 :: q1).reverse = itF F2 ++ (q1.reverse ++ [x1]) := by simp
      have hlz : (itF F2 ++ (x1 :: q1).reverse).length = (itF F2 ++ q1.reverse).length + 1 := by simp; omega
      have hly : (itF F2 ++ (x1 :: q1).reverse).length = (itF F2).length + (x1 :: q1).length := by simp
      have hlx : (x1 :: q1).length = q1.length + 1 := rfl
      refine pw_aload_n (i := 0) C dX10_close_28 rfl rfl (Or.inr ⟨_, rfl⟩) ?_
      refine pw_get (j := 29) C cl_X10 fl_X10_217 (by decide) rfl y0 rfl dX10_close_29 ?_
      refine pw_stk (st' := [.int (iZ (((itF F2 ++ (x1 :: q1).reverse).length : Nat) : Int))]) rfl ?_
      refine pw_aload_n (i := 0) C dX10_close_32 rfl rfl (Or.inr ⟨_, rfl⟩) ?_
      refine pw_get (j := 24) C cl_X10 fl_X10_62 (by decide) rfl y0 rfl dX10_close_33 ?_
      refine pw_stk (st' := [.ref (B 24), .int (iZ (((itF F2 ++ (x1 :: q1).reverse).length : Nat) : Int))]) rfl ?_
      refine pw_iload_n (i := 1) C dX10_close_36 rfl rfl ?_
      have g_51 := v2 ((F2.length : Nat) : Int)
      refine pw_iald C c2 ⟨by omega, by omega, by omega⟩ dX10_close_37 ?_
      refine pw_icmp_le (tgt := 69) C (by omega) (by omega) dX10_close_38 (by decide) (fun h_52 => ?_) (fun h_52 => ?_)
      · exfalso; omega
      · refine pw_aload_n (i := 0) C dX10_close_41 rfl rfl (Or.inr ⟨_, rfl⟩) ?_
        refine pw_dup C dX10_close_42 rfl ?_
        refine pw_get (j := 29) C cl_X10 fl_X10_217 (by decide) rfl y0 rfl dX10_close_43 ?_
        refine pw_stk (st' := [.int (iZ (((itF F2 ++ (x1 :: q1).reverse).length : Nat) : Int)), .ref b]) rfl ?_
        refine pw_iconst C dX10_close_46 ?_
        refine pw_isub C dX10_close_47 ?_
        refine pw_put (j := 29) C cl_X10 fl_X10_217 (by decide) rfl rfl rfl rfl rfl y0 (Nat.le_of_ble_eq_true rfl) dX10_close_48 (fun w_55 k_53 o_54 => ?_)
        have k_56 : w_55 1000 = (b, some (mdE B (va_up (va_up (va_up (va_up x 7 n1) 10 ((s1 : Nat) : Int)) 29 (((itF F2 ++ (x1 :: q1).reverse).length : Nat) : Int)) 29 ((((itF F2 ++ (x1 :: q1).reverse).length : Nat) : Int) - 1)))) := k_53
        refine pw_aload_n (i := 0) C dX10_close_51 rfl rfl (Or.inr ⟨_, rfl⟩) ?_
        refine pw_aload_n (i := 0) C dX10_close_52 rfl rfl (Or.inr ⟨_, rfl⟩) ?_
        refine pw_get (j := 28) C cl_X10 fl_X10_71 (by decide) rfl k_56 rfl dX10_close_53 ?_
        refine pw_stk (st' := [.ref (B 28), .ref b]) rfl ?_
        refine pw_aload_n (i := 0) C dX10_close_56 rfl rfl (Or.inr ⟨_, rfl⟩) ?_
        refine pw_get (j := 29) C cl_X10 fl_X10_217 (by decide) rfl k_56 rfl dX10_close_57 ?_
        refine pw_stk (st' := [.int (iZ ((((itF F2 ++ (x1 :: q1).reverse).length : Nat) : Int) - 1)), .ref (B 28), .ref b]) rfl ?_
        have c_57 := (o_54 1029 (by omega)).trans c5
        refine pw_iald C c_57 ⟨by omega, by omega, by omega⟩ dX10_close_60 ?_
        have hit : Vl t1 n1 (it ((((itF F2 ++ (x1 :: q1).reverse).length : Nat) : Int) - 1)) x1 := by have := VlsI.mem (itF F2 ++ q1.reverse).length kv1 (X := x1) (by rw [hre, ← List.append_assoc]; simp); rw [Int.zero_add, show (((itF F2 ++ q1.reverse).length : Nat) : Int) = ((((itF F2 ++ (x1 :: q1).reverse).length : Nat) : Int) - 1) by omega] at this; exact this
        have hitr := Vl.rg hR1 hit
        refine pw_iload_n (i := 2) C dX10_close_61 rfl rfl ?_
        have R_58 := hR1.same (w' := w_55) (fun k hk => (o_54 k (by omega)))
        refine pw_callV (As := [.int (iZ (it ((((itF F2 ++ (x1 :: q1).reverse).length : Nat) : Int) - 1))), .int (iZ v)]) (st := []) C (rd_pair g l k_56 R_58 rfl rfl hit hv (by omega)) my_X10_pair ml_X10_183 (pw_rec.of C k_56 cl_X10.1) rfl ⟨Nat.le_of_ble_eq_true rfl, Nat.le_of_ble_eq_true rfl⟩ ⟨by (try dsimp only); omega, by (try dsimp only); omega⟩ rfl (Nat.le_of_ble_eq_true rfl) dX10_close_62 ?_
        rintro _ w_71 ⟨z_59, t_60, n_61, sN_62, Z_63, rfl, e_64, R_65, x_66, hn_67, hs_68, hZ_69, z_59v, o_70⟩
        have x_661 := x_66.1
        have R_65n := R_65.n
        have v_72 := Vl.ext hv x_66
        have v_73 := Vl.ext hit x_66
        have K_74 := RK.ext hK1 x_66
        have z_59r := Vl.rg R_65 z_59v
        refine pw_stk (st' := [.int (iZ z_59)]) rfl ?_
        refine pw_istore_n (i := 2) (lv' := [(0, .ref b), (1, .int (iZ ((F2.length : Nat) : Int))), (2, .int (iZ z_59))]) C dX10_close_65 rfl (by decide) rfl ?_
        refine pw_goto (tgt := 28) C dX10_close_66 (by decide) ?_
        refine ih w_71 t_60 n_61 sN_62 Z_63 z_59 _ R_65 K_74 (hext.tr x_66) z_59v (by rw [← hq]; rfl) (by simp only [List.length_cons] at hnn; omega) (by omega) (fun j j0 j1 => (hZ_69 j j0 (by have := hext.1; omega)).trans (hZZ j j0 j1)) ?_ (by have := kv1.ext x_66; rw [hre, ← List.append_assoc] at this; exact this.left) (fun k hk => ((o_70 k (by omega)).trans (o_54 k (by omega))).trans (hf1 k hk))
        rw [e_64, show (((itF F2 ++ q1.reverse).length : Nat) : Int) = (((itF F2 ++ (x1 :: q1).reverse).length : Nat) : Int) - 1 by omega]; rfl
  by_cases e2 : q.1 = 2
  · skip
    refine pw_aload_n (i := 0) C dX10_close_0 rfl rfl (Or.inr ⟨_, rfl⟩) ?_
    refine pw_get (j := 27) C cl_X10 fl_X10_210 (by decide) rfl h0 rfl dX10_close_1 ?_
    refine pw_stk (st' := [.int (iZ (x 27))]) rfl ?_
    refine pw_stk (st' := [.int (iZ (((q :: F2).length : Nat) : Int))]) (by rw [x27]) ?_
    refine pw_iconst C dX10_close_4 ?_
    refine pw_isub C dX10_close_5 ?_
    refine pw_stk (st' := [.int (iZ ((F2.length : Nat) : Int))]) (by rw [show (((q :: F2).length : Nat) : Int) - 1 = ((F2.length : Nat) : Int) by omega]) ?_
    refine pw_istore_n (i := 1) (lv' := [(0, .ref b), (1, .int (iZ ((F2.length : Nat) : Int)))]) C dX10_close_6 rfl (by decide) rfl ?_
    refine pw_aload_n (i := 0) C dX10_close_7 rfl rfl (Or.inr ⟨_, rfl⟩) ?_
    refine pw_get (j := 25) C cl_X10 fl_X10_65 (by decide) rfl h0 rfl dX10_close_8 ?_
    refine pw_stk (st' := [.ref (B 25)]) rfl ?_
    refine pw_iload_n (i := 1) C dX10_close_11 rfl rfl ?_
    have g_301 := v3 ((F2.length : Nat) : Int)
    refine pw_iald C b3 ⟨by omega, by omega, by omega⟩ dX10_close_12 ?_
    refine pw_iconst C dX10_close_13 ?_
    refine pw_icmp_ne (tgt := 26) C (by omega) (by omega) dX10_close_14 (by decide) (fun h_302 => ?_) (fun h_302 => ?_)
    · exfalso; omega
    · refine pw_aload_n (i := 0) C dX10_close_17 rfl rfl (Or.inr ⟨_, rfl⟩) ?_
      refine pw_get (j := 26) C cl_X10 fl_X10_68 (by decide) rfl h0 rfl dX10_close_18 ?_
      refine pw_stk (st' := [.ref (B 26)]) rfl ?_
      refine pw_iload_n (i := 1) C dX10_close_21 rfl rfl ?_
      have g_303 := v4 ((F2.length : Nat) : Int)
      refine pw_iald C b4 ⟨by omega, by omega, by omega⟩ dX10_close_22 ?_
      refine pw_goto (tgt := 27) C dX10_close_23 (by decide) ?_
      refine pw_istore_n (i := 2) (lv' := [(0, .ref b), (1, .int (iZ ((F2.length : Nat) : Int))), (2, .int (iZ (la ((F2.length : Nat) : Int))))]) C dX10_close_27 rfl (by decide) rfl ?_
      exact loop q.2.1 w t n sN fZ (la ((F2.length : Nat) : Int)) _ hR hK Ext.rf (hla2 e2) rfl (by omega) (Nat.le_refl _) (fun _ _ _ => rfl) (by rw [← h7, ← h10, show (((itF F2 ++ q.2.1.reverse).length : Nat) : Int) = x 29 from x29.symm]; exact h0) hIt (fun _ _ => rfl)
  · have hnl : q.2.2 = oNil := hla e2
    refine pw_aload_n (i := 0) C dX10_close_0 rfl rfl (Or.inr ⟨_, rfl⟩) ?_
    refine pw_get (j := 27) C cl_X10 fl_X10_210 (by decide) rfl h0 rfl dX10_close_1 ?_
    refine pw_stk (st' := [.int (iZ (x 27))]) rfl ?_
    refine pw_stk (st' := [.int (iZ (((q :: F2).length : Nat) : Int))]) (by rw [x27]) ?_
    refine pw_iconst C dX10_close_4 ?_
    refine pw_isub C dX10_close_5 ?_
    refine pw_stk (st' := [.int (iZ ((F2.length : Nat) : Int))]) (by rw [show (((q :: F2).length : Nat) : Int) - 1 = ((F2.length : Nat) : Int) by omega]) ?_
    refine pw_istore_n (i := 1) (lv' := [(0, .ref b), (1, .int (iZ ((F2.length : Nat) : Int)))]) C dX10_close_6 rfl (by decide) rfl ?_
    refine pw_aload_n (i := 0) C dX10_close_7 rfl rfl (Or.inr ⟨_, rfl⟩) ?_
    refine pw_get (j := 25) C cl_X10 fl_X10_65 (by decide) rfl h0 rfl dX10_close_8 ?_
    refine pw_stk (st' := [.ref (B 25)]) rfl ?_
    refine pw_iload_n (i := 1) C dX10_close_11 rfl rfl ?_
    have g_401 := v3 ((F2.length : Nat) : Int)
    refine pw_iald C b3 ⟨by omega, by omega, by omega⟩ dX10_close_12 ?_
    refine pw_iconst C dX10_close_13 ?_
    refine pw_icmp_ne (tgt := 26) C (by omega) (by omega) dX10_close_14 (by decide) (fun h_402 => ?_) (fun h_402 => ?_)
    · refine pw_iconst C dX10_close_26 ?_
      refine pw_istore_n (i := 2) (lv' := [(0, .ref b), (1, .int (iZ ((F2.length : Nat) : Int))), (2, .int (iZ 0))]) C dX10_close_27 rfl (by decide) rfl ?_
      exact loop q.2.1 w t n sN fZ 0 _ hR hK Ext.rf ((by rw [hnl]; exact hK.nil)) rfl (by omega) (Nat.le_refl _) (fun _ _ _ => rfl) (by rw [← h7, ← h10, show (((itF F2 ++ q.2.1.reverse).length : Nat) : Int) = x 29 from x29.symm]; exact h0) hIt (fun _ _ => rfl)
    · exfalso; omega


