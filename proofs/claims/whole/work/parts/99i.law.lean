section
variable {g : pw_P} {p : Program} {l : Launch} {e : Env} {R : Room} {s : State} {m : MethodId} {args : Array Value} {below : List Frame} {meth : Method} {c : Code} {nL : Nat} {Q : State → Prop} {cells slots pc : Nat} {lv : List (Nat × Value)} {st : List Value} {w : pw_W} {cc : ByteArray} {own : String}
theorem x_in (x : Int32) : inI x.toInt := ⟨by have := x.le_toInt; omega, by have := x.toInt_lt; omega⟩
theorem pw_slen (C : pw_C g p s m args meth c cc nL own) {b0 L : Nat} {xs : Nat → Int32} (hX : va_X b0 L xs s s.heap) (hbl : b0 < s.heap.size) (hB : pw_B g = s.heap.size) (hd : decode cc pc = .ok (.arraylength, 1)) (kk : pw_G g p l e R s m args below meth c nL Q cells slots (pc + 1) lv (.int (iZ ((L : Nat) : Int)) :: st) w) : pw_G g p l e R s m args below meth c nL Q cells slots pc lv (.ref b0 :: st) w := by
  intro ls H locs hl hH hS
  refine va_slen C.1 C.2.1 hX hbl (fun h => absurd (show pw_B g ≤ b0 from h) (by omega)) hS hd ?_
  have := kk ls H locs hl hH hS
  rw [show iZ ((L : Nat) : Int) = Int32.ofNat L from by first | exact Int32.ofInt_eq_ofNat | rfl] at this
  exact this
theorem pw_sld (C : pw_C g p s m args meth c cc nL own) {b0 L : Nat} {xs : Nat → Int32} (hX : va_X b0 L xs s s.heap) (hbl : b0 < s.heap.size) (hB : pw_B g = s.heap.size) {i : Int} (h : 0 ≤ i ∧ i < ((L : Nat) : Int) ∧ i < 2147483648) (hd : decode cc pc = .ok (.iaload, 1)) (kk : pw_G g p l e R s m args below meth c nL Q cells slots (pc + 1) lv (.int (iZ (xs i.toNat).toInt) :: st) w) : pw_G g p l e R s m args below meth c nL Q cells slots pc lv (.int (iZ i) :: .ref b0 :: st) w := by
  intro ls H locs hl hH hS
  refine va_sld C.1 C.2.1 hX hbl (fun h => absurd (show pw_B g ≤ b0 from h) (by omega)) hS (iz_in h.1 h.2.1 h.2.2) hd ?_
  rw [iz_clamp ⟨by omega, h.2.2⟩]
  have := kk ls H locs hl hH hS
  rw [show iZ (xs i.toNat).toInt = xs i.toNat from Int32.ofInt_toInt _] at this
  exact this
theorem pw_same (C : pw_C g p s m args meth c cc nL own) {x : Int32} {off : Int} {tgt : Nat} (hd : decode cc pc = .ok (.if_icmp .eq off, 3)) (ht : (pc : Int) + off = (tgt : Int)) (kt : pw_G g p l e R s m args below meth c nL Q cells slots tgt lv st w) : pw_G g p l e R s m args below meth c nL Q cells slots pc lv (.int x :: .int x :: st) w :=
  fun ls H locs hl hH hS => lv_icmp_eq C.1 C.2.1 hd ht (fun _ => kt ls H locs hl hH hS) (fun h => absurd rfl h)
theorem pw_lwret {b0 : Nat} (C : pw_C g p s m #[Value.ref b0] meth c cL_law nL own) (hr : meth.sig.returnType = ret) (hB : pw_B g = s.heap.size) (hc : cells ≤ 600000) (hs : slots ≤ 7302250) (hd : decode cL_law pc = .ok (.ireturn, 1)) : pw_G g p l e room_1 s m #[Value.ref b0] below meth c nL (lw_Z below #[Value.ref b0] s) cells slots pc lv [.int (iZ 1)] w := by
  intro ls H locs hl hH hS
  refine va_forget (fun q hq => by have h9 : pw_B g ≤ q.base := hS.2.2 q hq; omega) ?_
  refine W.widen hc hs ?_
  exact lw_ret C.1 C.2.1 hr C.2.2.2.2.2.1 hd
end
theorem rmZ_4 (x : Int) : rmZ x = 2048 ∨ rmZ x = 4096 ∨ rmZ x = 8192 ∨ rmZ x = 16384 := by
  unfold rmZ
  split
  · exact Or.inl rfl
  · split
    · exact Or.inr (Or.inl rfl)
    · split
      · exact Or.inr (Or.inr (Or.inl rfl))
      · exact Or.inr (Or.inr (Or.inr rfl))
set_option maxRecDepth 100000 in
set_option maxHeartbeats 4000000 in
/-- THE LAW'S LOOP -/
theorem law_loop {g : pw_P} {p : Program} {l : Launch} {e : Env} {s : State} {m : MethodId} {below : List Frame} {meth : Method} {c : Code} {b L : Nat} {xs : Nat → Int32} {A B : Nat → Nat} {bm : Nat} (C : pw_C g p s m #[Value.ref b] meth c cL_law 4 RL) (hr : meth.sig.returnType = ret) (hX : va_X b L xs s s.heap) (hbl : b < s.heap.size) (hB : pw_B g = s.heap.size) (hL : L ≤ 3072) : ∀ (nn k cap : Nat) (w : pw_W), k + nn = 513 → 6 * k ≤ L → LwI g w A bm B k cap → pw_G g p l e room_1 s m #[Value.ref b] below meth c 4 (lw_Z below #[Value.ref b] s) (70 + 604 * k) (500000 + 3900 * k + 8 * cap) 18 [(0, .ref b), (1, .ref (A 0)), (2, .ref bm), (3, .int (iZ (6 * ((k : Nat) : Int))))] [] w := by
  intro nn
  induction nn with
  | zero => intro k cap w h1 h2; exfalso; omega
  | succ nn ih =>
    intro k cap w hkn h6 hI
    obtain ⟨wt, f, fw, len, rf, rp, fu, sp, wf, T, L1, nk, kp, n, sN, U, hLm, hMm, hww, hTn, hcp, b1, b2, b3, b4⟩ := id hI
    have hfct := hLm.facts
    have hf4 := hfct.2.2.2.1
    have hf5 := hfct.2.2.2.2.1
    obtain ⟨xm0, hcm0⟩ := hMm.cell
    refine pw_iload_n (i := 3) C dL_law_18 rfl rfl ?_
    refine pw_aload_n (i := 0) C dL_law_19 rfl rfl (Or.inr ⟨_, rfl⟩) ?_
    refine pw_slen C hX hbl hB dL_law_20 ?_
    refine pw_bipush C dL_law_21 (by decide) ?_
    refine pw_isub C dL_law_23 ?_
    refine pw_icmp_gt (tgt := 295) C (by omega) (by omega) dL_law_24 (by decide) (fun h_11 => ?_) (fun h_11 => ?_)
    · refine pw_iconst C dL_law_295 ?_
      exact pw_lwret C hr hB (by omega) (by omega) dL_law_296
    · refine pw_aload_n (i := 0) C dL_law_27 rfl rfl (Or.inr ⟨_, rfl⟩) ?_
      refine pw_iload_n (i := 3) C dL_law_28 rfl rfl ?_
      refine pw_sld C hX hbl hB ⟨by omega, by omega, by omega⟩ dL_law_29 ?_
      obtain ⟨v0, v0e, v0i⟩ : ∃ v, v = (xs (6 * ((k : Nat) : Int)).toNat).toInt ∧ inI v := ⟨_, rfl, x_in _⟩
      rw [← v0e]
      refine pw_stk (st' := [.int (iZ v0)]) rfl ?_
      refine pw_bipush C dL_law_30 (by decide) ?_
      obtain ⟨y, hyI, hye⟩ := iz_of (iZ v0 &&& iZ 15)
      refine pw_iand (z := y) C dL_law_32 hye ?_
      by_cases h_12 : y = 0
      · refine pw_tsIn (tgt := 84) (off := 51) C dL_law_33 (by omega) (by omega) (by omega) (by rw [h_12]; rfl) (by decide) ?_
        refine pw_aload_n (i := 1) C dL_law_84 rfl rfl (Or.inr ⟨_, rfl⟩) ?_
        refine pw_aload_n (i := 0) C dL_law_85 rfl rfl (Or.inr ⟨_, rfl⟩) ?_
        refine pw_iload_n (i := 3) C dL_law_86 rfl rfl ?_
        refine pw_iconst C dL_law_87 ?_
        refine pw_iadd C dL_law_88 ?_
        refine pw_sld C hX hbl hB ⟨by omega, by omega, by omega⟩ dL_law_89 ?_
        obtain ⟨v1, v1e, v1i⟩ : ∃ v, v = (xs ((6 * ((k : Nat) : Int)) + 1).toNat).toInt ∧ inI v := ⟨_, rfl, x_in _⟩
        rw [← v1e]
        refine pw_stk (st' := [.int (iZ v1), .ref (A 0)]) rfl ?_
        refine pw_aload_n (i := 0) C dL_law_90 rfl rfl (Or.inr ⟨_, rfl⟩) ?_
        refine pw_iload_n (i := 3) C dL_law_91 rfl rfl ?_
        refine pw_iconst C dL_law_92 ?_
        refine pw_iadd C dL_law_93 ?_
        refine pw_sld C hX hbl hB ⟨by omega, by omega, by omega⟩ dL_law_94 ?_
        obtain ⟨v2, v2e, v2i⟩ : ∃ v, v = (xs ((6 * ((k : Nat) : Int)) + 2).toNat).toInt ∧ inI v := ⟨_, rfl, x_in _⟩
        rw [← v2e]
        refine pw_stk (st' := [.int (iZ v2), .int (iZ v1), .ref (A 0)]) rfl ?_
        refine pw_aload_n (i := 0) C dL_law_95 rfl rfl (Or.inr ⟨_, rfl⟩) ?_
        refine pw_iload_n (i := 3) C dL_law_96 rfl rfl ?_
        refine pw_iconst C dL_law_97 ?_
        refine pw_iadd C dL_law_98 ?_
        refine pw_sld C hX hbl hB ⟨by omega, by omega, by omega⟩ dL_law_99 ?_
        obtain ⟨v3, v3e, v3i⟩ : ∃ v, v = (xs ((6 * ((k : Nat) : Int)) + 3).toNat).toInt ∧ inI v := ⟨_, rfl, x_in _⟩
        rw [← v3e]
        refine pw_stk (st' := [.int (iZ v3), .int (iZ v2), .int (iZ v1), .ref (A 0)]) rfl ?_
        refine pw_aload_n (i := 0) C dL_law_100 rfl rfl (Or.inr ⟨_, rfl⟩) ?_
        refine pw_iload_n (i := 3) C dL_law_101 rfl rfl ?_
        refine pw_iconst C dL_law_102 ?_
        refine pw_iadd C dL_law_103 ?_
        refine pw_sld C hX hbl hB ⟨by omega, by omega, by omega⟩ dL_law_104 ?_
        obtain ⟨v4, v4e, v4i⟩ : ∃ v, v = (xs ((6 * ((k : Nat) : Int)) + 4).toNat).toInt ∧ inI v := ⟨_, rfl, x_in _⟩
        rw [← v4e]
        refine pw_stk (st' := [.int (iZ v4), .int (iZ v3), .int (iZ v2), .int (iZ v1), .ref (A 0)]) rfl ?_
        refine pw_aload_n (i := 0) C dL_law_105 rfl rfl (Or.inr ⟨_, rfl⟩) ?_
        refine pw_iload_n (i := 3) C dL_law_106 rfl rfl ?_
        refine pw_iconst C dL_law_107 ?_
        refine pw_iadd C dL_law_108 ?_
        refine pw_sld C hX hbl hB ⟨by omega, by omega, by omega⟩ dL_law_109 ?_
        obtain ⟨v5, v5e, v5i⟩ : ∃ v, v = (xs ((6 * ((k : Nat) : Int)) + 5).toNat).toInt ∧ inI v := ⟨_, rfl, x_in _⟩
        rw [← v5e]
        refine pw_stk (st' := [.int (iZ v5), .int (iZ v4), .int (iZ v3), .int (iZ v2), .int (iZ v1), .ref (A 0)]) rfl ?_
        refine pw_callV (As := [.int (iZ v1), .int (iZ v2), .int (iZ v3), .int (iZ v4), .int (iZ v5)]) (st := []) C (lm_feed g l hLm v1i v2i v3i v4i v5i) my_X9_feed ml_L_13 (pw_rec.of C hfct.1 cl_X9.1) rfl ⟨Nat.le_of_ble_eq_true rfl, Nat.le_of_ble_eq_true rfl⟩ ⟨by show (70 + 604 * k) + 0 ≤ 600000; omega, by show (500000 + 3900 * k + 8 * cap) + 0 ≤ 7302250; omega⟩ rfl (Nat.le_of_ble_eq_true rfl) dL_law_110 ?_
        rintro _ w1 ⟨rfl, hL1, hf1⟩
        have hM1 := hMm.same hf1
        obtain ⟨xm, hcm⟩ := hM1.cell
        refine pw_stk (st' := []) rfl ?_
        refine pw_aload_n (i := 2) C dL_law_113 rfl rfl (Or.inr ⟨_, rfl⟩) ?_
        refine pw_aload_n (i := 0) C dL_law_114 rfl rfl (Or.inr ⟨_, rfl⟩) ?_
        refine pw_iload_n (i := 3) C dL_law_115 rfl rfl ?_
        refine pw_iconst C dL_law_116 ?_
        refine pw_iadd C dL_law_117 ?_
        refine pw_sld C hX hbl hB ⟨by omega, by omega, by omega⟩ dL_law_118 ?_
        rw [← v1e]
        refine pw_stk (st' := [.int (iZ v1), .ref bm]) rfl ?_
        refine pw_aload_n (i := 0) C dL_law_119 rfl rfl (Or.inr ⟨_, rfl⟩) ?_
        refine pw_iload_n (i := 3) C dL_law_120 rfl rfl ?_
        refine pw_iconst C dL_law_121 ?_
        refine pw_iadd C dL_law_122 ?_
        refine pw_sld C hX hbl hB ⟨by omega, by omega, by omega⟩ dL_law_123 ?_
        rw [← v2e]
        refine pw_stk (st' := [.int (iZ v2), .int (iZ v1), .ref bm]) rfl ?_
        refine pw_aload_n (i := 0) C dL_law_124 rfl rfl (Or.inr ⟨_, rfl⟩) ?_
        refine pw_iload_n (i := 3) C dL_law_125 rfl rfl ?_
        refine pw_iconst C dL_law_126 ?_
        refine pw_iadd C dL_law_127 ?_
        refine pw_sld C hX hbl hB ⟨by omega, by omega, by omega⟩ dL_law_128 ?_
        rw [← v3e]
        refine pw_stk (st' := [.int (iZ v3), .int (iZ v2), .int (iZ v1), .ref bm]) rfl ?_
        refine pw_aload_n (i := 0) C dL_law_129 rfl rfl (Or.inr ⟨_, rfl⟩) ?_
        refine pw_iload_n (i := 3) C dL_law_130 rfl rfl ?_
        refine pw_iconst C dL_law_131 ?_
        refine pw_iadd C dL_law_132 ?_
        refine pw_sld C hX hbl hB ⟨by omega, by omega, by omega⟩ dL_law_133 ?_
        rw [← v4e]
        refine pw_stk (st' := [.int (iZ v4), .int (iZ v3), .int (iZ v2), .int (iZ v1), .ref bm]) rfl ?_
        refine pw_aload_n (i := 0) C dL_law_134 rfl rfl (Or.inr ⟨_, rfl⟩) ?_
        refine pw_iload_n (i := 3) C dL_law_135 rfl rfl ?_
        refine pw_iconst C dL_law_136 ?_
        refine pw_iadd C dL_law_137 ?_
        refine pw_sld C hX hbl hB ⟨by omega, by omega, by omega⟩ dL_law_138 ?_
        rw [← v5e]
        refine pw_stk (st' := [.int (iZ v5), .int (iZ v4), .int (iZ v3), .int (iZ v2), .int (iZ v1), .ref bm]) rfl ?_
        refine pw_callV (As := [.int (iZ v1), .int (iZ v2), .int (iZ v3), .int (iZ v4), .int (iZ v5)]) (st := []) C (mm_feed g l hM1 v1i v2i v3i v4i v5i) my_X10_feed ml_L_17 (pw_rec.of C hcm cl_X10.1) rfl ⟨Nat.le_of_ble_eq_true rfl, Nat.le_of_ble_eq_true rfl⟩ ⟨by show ((70 + 604 * k) + 0) + 0 ≤ 600000; omega, by show ((500000 + 3900 * k + 8 * cap) + 0) + 0 ≤ 7302250; omega⟩ rfl (Nat.le_of_ble_eq_true rfl) dL_law_139 ?_
        rintro _ w2 ⟨rfl, ⟨fw2, hw2, hM2⟩, hf2⟩
        refine pw_stk (st' := []) rfl ?_
        refine pw_goto (tgt := 289) C dL_law_142 (by decide) ?_
        refine pw_iinc (lv' := [(0, .ref b), (1, .ref (A 0)), (2, .ref bm), (3, .int (iZ ((6 * ((k : Nat) : Int)) + 6)))]) C dL_law_289 rfl (by decide) rfl ?_
        refine pw_goto (tgt := 18) C dL_law_292 (by decide) ?_
        rw [show 6 * ((k : Nat) : Int) + 6 = 6 * ((k + 1 : Nat) : Int) by omega]
        have hz20 := nzC_le (f := fw2) 20
        refine pw_wide (70 + 604 * (k + 1)) (500000 + 3900 * (k + 1) + 8 * cap) (by show (((70 + 604 * k) + 0) + 0) ≤ _; omega) (by show (((500000 + 3900 * k + 8 * cap) + 0) + 0) ≤ _; omega) ?_
        exact ih (k + 1) cap w2 (by omega) (by omega) ⟨_, f, fw2, len, rf, rp, fu, sp, wf, T, L1, nk, kp, n, sN, U, hL1.same hf2, hM2, (fun i i0 i1 => (hw2 i i0 i1).trans (wbA_cg (fun j j0 j1 => (ar5_up j j0 j1).symm) i i0 i1)), hTn, hcp, b1, by omega, by omega, by omega⟩
      by_cases h_13 : y = 1
      · refine pw_tsIn (tgt := 145) (off := 112) C dL_law_33 (by omega) (by omega) (by omega) (by rw [h_13]; rfl) (by decide) ?_
        obtain ⟨v1, v1e, v1i⟩ : ∃ v, v = (xs ((6 * ((k : Nat) : Int)) + 1).toNat).toInt ∧ inI v := ⟨_, rfl, x_in _⟩
        by_cases hok : 0 ≤ v1 ∧ v1 ≤ 20 ∧ ((len : Nat) : Int) + v1 ≤ 3000
        · refine pw_aload_n (i := 1) C dL_law_145 rfl rfl (Or.inr ⟨_, rfl⟩) ?_
          refine pw_aload_n (i := 0) C dL_law_146 rfl rfl (Or.inr ⟨_, rfl⟩) ?_
          refine pw_iload_n (i := 3) C dL_law_147 rfl rfl ?_
          refine pw_iconst C dL_law_148 ?_
          refine pw_iadd C dL_law_149 ?_
          refine pw_sld C hX hbl hB ⟨by omega, by omega, by omega⟩ dL_law_150 ?_
          rw [← v1e]
          refine pw_stk (st' := [.int (iZ v1), .ref (A 0)]) rfl ?_
          refine pw_callV (As := [.int (iZ v1)]) (st := []) C (m_X9_end g l hLm v1i) my_X9_end ml_L_18 (pw_rec.of C hfct.1 cl_X9.1) rfl ⟨Nat.le_of_ble_eq_true rfl, Nat.le_of_ble_eq_true rfl⟩ ⟨by show (70 + 604 * k) + 0 ≤ 600000; omega, by show (500000 + 3900 * k + 8 * cap) + 0 ≤ 7302250; omega⟩ rfl (Nat.le_of_ble_eq_true rfl) dL_law_151 ?_
          rintro r1 w1 ⟨hh1, hf1⟩
          rw [if_pos hok] at hh1
          obtain ⟨rfl, wt1, hz1, hL1⟩ := hh1
          have hM1 := hMm.same hf1
          obtain ⟨xm, hcm⟩ := hM1.cell
          refine pw_stk (st' := [.int (iZ (((len : Nat) : Int) + v1))]) rfl ?_
          refine pw_aload_n (i := 2) C dL_law_154 rfl rfl (Or.inr ⟨_, rfl⟩) ?_
          refine pw_aload_n (i := 0) C dL_law_155 rfl rfl (Or.inr ⟨_, rfl⟩) ?_
          refine pw_iload_n (i := 3) C dL_law_156 rfl rfl ?_
          refine pw_iconst C dL_law_157 ?_
          refine pw_iadd C dL_law_158 ?_
          refine pw_sld C hX hbl hB ⟨by omega, by omega, by omega⟩ dL_law_159 ?_
          rw [← v1e]
          refine pw_stk (st' := [.int (iZ v1), .ref bm, .int (iZ (((len : Nat) : Int) + v1))]) rfl ?_
          refine pw_callV (As := [.int (iZ v1)]) (st := [.int (iZ (((len : Nat) : Int) + v1))]) C (mm_end g l hM1 hww v1i) my_X10_end ml_L_22 (pw_rec.of C hcm cl_X10.1) rfl ⟨Nat.le_of_ble_eq_true rfl, Nat.le_of_ble_eq_true rfl⟩ ⟨by show ((70 + 604 * k) + 0) + 0 ≤ 600000; omega, by show ((500000 + 3900 * k + 8 * cap) + 0) + 0 ≤ 7302250; omega⟩ rfl (Nat.le_of_ble_eq_true rfl) dL_law_160 ?_
          rintro r2 w2 ⟨hh2, hf2⟩
          rw [if_pos hok] at hh2
          obtain ⟨rfl, fw2, hz2, hM2⟩ := hh2
          refine pw_stk (st' := [.int (iZ (((len : Nat) : Int) + v1)), .int (iZ (((len : Nat) : Int) + v1))]) rfl ?_
          refine pw_same (tgt := 289) C dL_law_163 (by decide) ?_
          refine pw_iinc (lv' := [(0, .ref b), (1, .ref (A 0)), (2, .ref bm), (3, .int (iZ ((6 * ((k : Nat) : Int)) + 6)))]) C dL_law_289 rfl (by decide) rfl ?_
          refine pw_goto (tgt := 18) C dL_law_292 (by decide) ?_
          rw [show 6 * ((k : Nat) : Int) + 6 = 6 * ((k + 1 : Nat) : Int) by omega]
          have a1 := nzC_ap (f := f) (a := wbA wt) (len := len) v1.toNat
          have a2 := nzC_mono (f := wbA wt) (i := v1.toNat) (j := 20) (by omega)
          have a3 : nzC fw 20 = nzC (wbA wt) 20 := nzC_same (fun j j0 j1 => hww j j0 (by omega))
          have a4 := nzC_le (f := fw) 20
          have a5 : nzC fw2 20 = 0 := nzC_zero 20 (fun i i0 i1 => hz2 i i0 (by omega))
          refine pw_wide (70 + 604 * (k + 1)) (500000 + 3900 * (k + 1) + 8 * cap) (by show (((70 + 604 * k) + 0) + 0) ≤ _; omega) (by show (((500000 + 3900 * k + 8 * cap) + 0) + 0) ≤ _; omega) ?_
          exact ih (k + 1) cap w2 (by omega) (by omega) ⟨wt1, _, fw2, _, rf, rp, fu, sp, wf, T, L1, nk, kp, n, sN, U, hL1.same hf2, hM2, (fun i i0 i1 => (hz2 i i0 i1).trans (wbA_zero hz1 i i0 i1).symm), hTn, hcp, b1, by omega, by omega, by omega⟩
        · refine pw_aload_n (i := 1) C dL_law_145 rfl rfl (Or.inr ⟨_, rfl⟩) ?_
          refine pw_aload_n (i := 0) C dL_law_146 rfl rfl (Or.inr ⟨_, rfl⟩) ?_
          refine pw_iload_n (i := 3) C dL_law_147 rfl rfl ?_
          refine pw_iconst C dL_law_148 ?_
          refine pw_iadd C dL_law_149 ?_
          refine pw_sld C hX hbl hB ⟨by omega, by omega, by omega⟩ dL_law_150 ?_
          rw [← v1e]
          refine pw_stk (st' := [.int (iZ v1), .ref (A 0)]) rfl ?_
          refine pw_callV (As := [.int (iZ v1)]) (st := []) C (m_X9_end g l hLm v1i) my_X9_end ml_L_18 (pw_rec.of C hfct.1 cl_X9.1) rfl ⟨Nat.le_of_ble_eq_true rfl, Nat.le_of_ble_eq_true rfl⟩ ⟨by show (70 + 604 * k) + 0 ≤ 600000; omega, by show (500000 + 3900 * k + 8 * cap) + 0 ≤ 7302250; omega⟩ rfl (Nat.le_of_ble_eq_true rfl) dL_law_151 ?_
          rintro r1 w1 ⟨hh1, hf1⟩
          rw [if_neg hok] at hh1
          obtain ⟨rfl, hL1⟩ := hh1
          have hM1 := hMm.same hf1
          obtain ⟨xm, hcm⟩ := hM1.cell
          refine pw_stk (st' := [.int (iZ (-1))]) rfl ?_
          refine pw_aload_n (i := 2) C dL_law_154 rfl rfl (Or.inr ⟨_, rfl⟩) ?_
          refine pw_aload_n (i := 0) C dL_law_155 rfl rfl (Or.inr ⟨_, rfl⟩) ?_
          refine pw_iload_n (i := 3) C dL_law_156 rfl rfl ?_
          refine pw_iconst C dL_law_157 ?_
          refine pw_iadd C dL_law_158 ?_
          refine pw_sld C hX hbl hB ⟨by omega, by omega, by omega⟩ dL_law_159 ?_
          rw [← v1e]
          refine pw_stk (st' := [.int (iZ v1), .ref bm, .int (iZ (-1))]) rfl ?_
          refine pw_callV (As := [.int (iZ v1)]) (st := [.int (iZ (-1))]) C (mm_end g l hM1 hww v1i) my_X10_end ml_L_22 (pw_rec.of C hcm cl_X10.1) rfl ⟨Nat.le_of_ble_eq_true rfl, Nat.le_of_ble_eq_true rfl⟩ ⟨by show ((70 + 604 * k) + 0) + 0 ≤ 600000; omega, by show ((500000 + 3900 * k + 8 * cap) + 0) + 0 ≤ 7302250; omega⟩ rfl (Nat.le_of_ble_eq_true rfl) dL_law_160 ?_
          rintro r2 w2 ⟨hh2, hf2⟩
          rw [if_neg hok] at hh2
          obtain ⟨rfl, hM2⟩ := hh2
          refine pw_stk (st' := [.int (iZ (-1)), .int (iZ (-1))]) rfl ?_
          refine pw_same (tgt := 289) C dL_law_163 (by decide) ?_
          refine pw_iinc (lv' := [(0, .ref b), (1, .ref (A 0)), (2, .ref bm), (3, .int (iZ ((6 * ((k : Nat) : Int)) + 6)))]) C dL_law_289 rfl (by decide) rfl ?_
          refine pw_goto (tgt := 18) C dL_law_292 (by decide) ?_
          rw [show 6 * ((k : Nat) : Int) + 6 = 6 * ((k + 1 : Nat) : Int) by omega]
          refine pw_wide (70 + 604 * (k + 1)) (500000 + 3900 * (k + 1) + 8 * cap) (by show (((70 + 604 * k) + 0) + 0) ≤ _; omega) (by show (((500000 + 3900 * k + 8 * cap) + 0) + 0) ≤ _; omega) ?_
          exact ih (k + 1) cap w2 (by omega) (by omega) ⟨wt, f, fw, len, rf, rp, fu, sp, wf, T, L1, nk, kp, n, sN, U, hL1.same hf2, hM2, hww, hTn, hcp, b1, by omega, by omega, by omega⟩
      by_cases h_114 : y = 2
      · refine pw_tsIn (tgt := 168) (off := 135) C dL_law_33 (by omega) (by omega) (by omega) (by rw [h_114]; rfl) (by decide) ?_
        refine pw_aload_n (i := 1) C dL_law_168 rfl rfl (Or.inr ⟨_, rfl⟩) ?_
        refine pw_aload_n (i := 0) C dL_law_169 rfl rfl (Or.inr ⟨_, rfl⟩) ?_
        refine pw_iload_n (i := 3) C dL_law_170 rfl rfl ?_
        refine pw_iconst C dL_law_171 ?_
        refine pw_iadd C dL_law_172 ?_
        refine pw_sld C hX hbl hB ⟨by omega, by omega, by omega⟩ dL_law_173 ?_
        obtain ⟨v1, v1e, v1i⟩ : ∃ v, v = (xs ((6 * ((k : Nat) : Int)) + 1).toNat).toInt ∧ inI v := ⟨_, rfl, x_in _⟩
        rw [← v1e]
        refine pw_stk (st' := [.int (iZ v1), .ref (A 0)]) rfl ?_
        refine pw_callV (As := [.int (iZ v1)]) (st := []) C (m_X9_fuel g l hLm v1i) my_X9_fuel ml_L_23 (pw_rec.of C hfct.1 cl_X9.1) rfl ⟨Nat.le_of_ble_eq_true rfl, Nat.le_of_ble_eq_true rfl⟩ ⟨by show (70 + 604 * k) + 0 ≤ 600000; omega, by show (500000 + 3900 * k + 8 * cap) + 0 ≤ 7302250; omega⟩ rfl (Nat.le_of_ble_eq_true rfl) dL_law_174 ?_
        rintro _ w1 ⟨rfl, hL1, hf1⟩
        have hM1 := hMm.same hf1
        obtain ⟨xm, hcm⟩ := hM1.cell
        refine pw_stk (st' := [.int (iZ (if 1 ≤ v1 ∧ v1 ≤ 1000 then ((fu : Nat) : Int) else -1))]) rfl ?_
        refine pw_aload_n (i := 2) C dL_law_177 rfl rfl (Or.inr ⟨_, rfl⟩) ?_
        refine pw_aload_n (i := 0) C dL_law_178 rfl rfl (Or.inr ⟨_, rfl⟩) ?_
        refine pw_iload_n (i := 3) C dL_law_179 rfl rfl ?_
        refine pw_iconst C dL_law_180 ?_
        refine pw_iadd C dL_law_181 ?_
        refine pw_sld C hX hbl hB ⟨by omega, by omega, by omega⟩ dL_law_182 ?_
        rw [← v1e]
        refine pw_stk (st' := [.int (iZ v1), .ref bm, .int (iZ (if 1 ≤ v1 ∧ v1 ≤ 1000 then ((fu : Nat) : Int) else -1))]) rfl ?_
        refine pw_callV (As := [.int (iZ v1)]) (st := [.int (iZ (if 1 ≤ v1 ∧ v1 ≤ 1000 then ((fu : Nat) : Int) else -1))]) C (mm_fuel g l hM1 v1i) my_X10_fuel ml_L_26 (pw_rec.of C hcm cl_X10.1) rfl ⟨Nat.le_of_ble_eq_true rfl, Nat.le_of_ble_eq_true rfl⟩ ⟨by show ((70 + 604 * k) + 0) + 0 ≤ 600000; omega, by show ((500000 + 3900 * k + 8 * cap) + 0) + 0 ≤ 7302250; omega⟩ rfl (Nat.le_of_ble_eq_true rfl) dL_law_183 ?_
        rintro _ w2 ⟨rfl, hM2, hf2⟩
        refine pw_stk (st' := [.int (iZ (if 1 ≤ v1 ∧ v1 ≤ 1000 then ((fu : Nat) : Int) else -1)), .int (iZ (if 1 ≤ v1 ∧ v1 ≤ 1000 then ((fu : Nat) : Int) else -1))]) rfl ?_
        refine pw_same (tgt := 289) C dL_law_186 (by decide) ?_
        refine pw_iinc (lv' := [(0, .ref b), (1, .ref (A 0)), (2, .ref bm), (3, .int (iZ ((6 * ((k : Nat) : Int)) + 6)))]) C dL_law_289 rfl (by decide) rfl ?_
        refine pw_goto (tgt := 18) C dL_law_292 (by decide) ?_
        rw [show 6 * ((k : Nat) : Int) + 6 = 6 * ((k + 1 : Nat) : Int) by omega]
        refine pw_wide (70 + 604 * (k + 1)) (500000 + 3900 * (k + 1) + 8 * cap) (by show (((70 + 604 * k) + 0) + 0) ≤ _; omega) (by show (((500000 + 3900 * k + 8 * cap) + 0) + 0) ≤ _; omega) ?_
        exact ih (k + 1) cap w2 (by omega) (by omega) ⟨wt, f, fw, len, rf, rp, _, sp, wf, T, L1, nk, kp, n, sN, U, hL1.same hf2, hM2, hww, hTn, hcp, b1, by omega, by omega, by omega⟩
      by_cases h_115 : y = 3
      · refine pw_tsIn (tgt := 191) (off := 158) C dL_law_33 (by omega) (by omega) (by omega) (by rw [h_115]; rfl) (by decide) ?_
        have hmn : (0 : Int) ≤ (if 1000 < ((len : Nat) : Int) then 1000 else ((len : Nat) : Int)) ∧ (if 1000 < ((len : Nat) : Int) then 1000 else ((len : Nat) : Int)) ≤ (1000 : Int) := by split <;> omega
        have hkq : (kp + (3 * (if 1000 < ((len : Nat) : Int) then 1000 else ((len : Nat) : Int)) + 1250)) ≤ 16384 := by omega
        have hr4 := rmZ_4 (kp + (3 * (if 1000 < ((len : Nat) : Int) then 1000 else ((len : Nat) : Int)) + 1250))
        have hgq : (cap : Int) < rmZ (kp + (3 * (if 1000 < ((len : Nat) : Int) then 1000 else ((len : Nat) : Int)) + 1250)) → 4 ≤ 4 ∧ 4 * (rmZ (kp + (3 * (if 1000 < ((len : Nat) : Int) then 1000 else ((len : Nat) : Int)) + 1250))).toNat ≤ (8 * ((rmZ (kp + (3 * (if 1000 < ((len : Nat) : Int) then 1000 else ((len : Nat) : Int)) + 1250))).toNat - cap)) := fun cq => ⟨Nat.le_refl _, by omega⟩
        refine pw_aload_n (i := 1) C dL_law_191 rfl rfl (Or.inr ⟨_, rfl⟩) ?_
        refine pw_callV (As := []) (st := []) C (m_X9_run g l hLm (gc := 4) (gs := (8 * ((rmZ (kp + (3 * (if 1000 < ((len : Nat) : Int) then 1000 else ((len : Nat) : Int)) + 1250))).toNat - cap))) hkq hgq) my_X9_run ml_L_27 (pw_rec.of C hfct.1 cl_X9.1) rfl ⟨Nat.le_of_ble_eq_true rfl, Nat.le_of_ble_eq_true rfl⟩ ⟨by show (70 + 604 * k) + (600 + 4) ≤ 600000; omega, by show (500000 + 3900 * k + 8 * cap) + (3900 + (8 * ((rmZ (kp + (3 * (if 1000 < ((len : Nat) : Int) then 1000 else ((len : Nat) : Int)) + 1250))).toNat - cap))) ≤ 7302250; omega⟩ rfl (Nat.le_of_ble_eq_true rfl) dL_law_192 ?_
        rintro _ w1 ⟨rfl, ⟨kp1, cap1, hL1, hk1, hc1⟩, hf1⟩
        have hM1 := hMm.same hf1
        obtain ⟨xm, hcm⟩ := hM1.cell
        refine pw_stk (st' := [.int (iZ (((rnF T fu nk (rTx f len)).1.1 : Nat) : Int))]) rfl ?_
        refine pw_aload_n (i := 2) C dL_law_195 rfl rfl (Or.inr ⟨_, rfl⟩) ?_
        refine pw_callV (As := []) (st := [.int (iZ (((rnF T fu nk (rTx f len)).1.1 : Nat) : Int))]) C (m_X10_run g l hM1 hfct.2.2.2.1.2 hfct.2.1 hTn hfct.2.2.1 (by omega) (by omega) (nk := nk)) my_X10_run ml_L_31 (pw_rec.of C hcm cl_X10.1) rfl ⟨Nat.le_of_ble_eq_true rfl, Nat.le_of_ble_eq_true rfl⟩ ⟨by show ((70 + 604 * k) + (600 + 4)) + 0 ≤ 600000; omega, by show ((500000 + 3900 * k + 8 * cap) + (3900 + (8 * ((rmZ (kp + (3 * (if 1000 < ((len : Nat) : Int) then 1000 else ((len : Nat) : Int)) + 1250))).toNat - cap)))) + 0 ≤ 7302250; omega⟩ rfl (Nat.le_of_ble_eq_true rfl) dL_law_196 ?_
        rintro _ w2 ⟨rfl, ⟨n2, s2, hM2, hn2, hs2⟩, hf2⟩
        refine pw_stk (st' := [.int (iZ (((rnF T fu nk (rTx f len)).1.1 : Nat) : Int)), .int (iZ (((rnF T fu nk (rTx f len)).1.1 : Nat) : Int))]) rfl ?_
        refine pw_same (tgt := 289) C dL_law_199 (by decide) ?_
        refine pw_iinc (lv' := [(0, .ref b), (1, .ref (A 0)), (2, .ref bm), (3, .int (iZ ((6 * ((k : Nat) : Int)) + 6)))]) C dL_law_289 rfl (by decide) rfl ?_
        refine pw_goto (tgt := 18) C dL_law_292 (by decide) ?_
        rw [show 6 * ((k : Nat) : Int) + 6 = 6 * ((k + 1 : Nat) : Int) by omega]
        have hc2 : (cap1 = 2048 ∨ cap1 = 4096 ∨ cap1 = 8192 ∨ cap1 = 16384) ∧ 8 * cap + (8 * ((rmZ (kp + (3 * (if 1000 < ((len : Nat) : Int) then 1000 else ((len : Nat) : Int)) + 1250))).toNat - cap)) ≤ 8 * cap1 := by
          rw [hc1]
          by_cases cq : (cap : Int) < rmZ (kp + (3 * (if 1000 < ((len : Nat) : Int) then 1000 else ((len : Nat) : Int)) + 1250))
          · rw [if_pos cq]; omega
          · rw [if_neg cq]; omega
        have hz0 : nzC f 0 = 0 := rfl
        refine pw_wide (70 + 604 * (k + 1)) (500000 + 3900 * (k + 1) + 8 * cap1) (by show (((70 + 604 * k) + (600 + 4)) + 0) ≤ _; omega) (by show (((500000 + 3900 * k + 8 * cap) + (3900 + (8 * ((rmZ (kp + (3 * (if 1000 < ((len : Nat) : Int) then 1000 else ((len : Nat) : Int)) + 1250))).toNat - cap)))) + 0) ≤ _; omega) ?_
        exact ih (k + 1) cap1 w2 (by omega) (by omega) ⟨wt, f, fw, 0, _, _, fu, _, _, _, _, _, kp1, n2, s2, U + nzC f len, hL1.same hf2, hM2, hww, hTn.run, hc2.1, by omega, by omega, by omega, by omega⟩
      by_cases h_116 : y = 4
      · refine pw_tsIn (tgt := 204) (off := 171) C dL_law_33 (by omega) (by omega) (by omega) (by rw [h_116]; rfl) (by decide) ?_
        refine pw_aload_n (i := 1) C dL_law_204 rfl rfl (Or.inr ⟨_, rfl⟩) ?_
        refine pw_aload_n (i := 0) C dL_law_205 rfl rfl (Or.inr ⟨_, rfl⟩) ?_
        refine pw_iload_n (i := 3) C dL_law_206 rfl rfl ?_
        refine pw_iconst C dL_law_207 ?_
        refine pw_iadd C dL_law_208 ?_
        refine pw_sld C hX hbl hB ⟨by omega, by omega, by omega⟩ dL_law_209 ?_
        obtain ⟨v1, v1e, v1i⟩ : ∃ v, v = (xs ((6 * ((k : Nat) : Int)) + 1).toNat).toInt ∧ inI v := ⟨_, rfl, x_in _⟩
        rw [← v1e]
        refine pw_stk (st' := [.int (iZ v1), .ref (A 0)]) rfl ?_
        refine pw_callV (As := [.int (iZ v1)]) (st := []) C (m_X9_fault g l hLm v1i) my_X9_fault ml_L_32 (pw_rec.of C hfct.1 cl_X9.1) rfl ⟨Nat.le_of_ble_eq_true rfl, Nat.le_of_ble_eq_true rfl⟩ ⟨by show (70 + 604 * k) + 0 ≤ 600000; omega, by show (500000 + 3900 * k + 8 * cap) + 0 ≤ 7302250; omega⟩ rfl (Nat.le_of_ble_eq_true rfl) dL_law_210 ?_
        rintro _ _ ⟨rfl, rfl⟩
        refine pw_stk (st' := [.int (iZ (flF rf rp wf v1))]) rfl ?_
        refine pw_aload_n (i := 2) C dL_law_213 rfl rfl (Or.inr ⟨_, rfl⟩) ?_
        refine pw_aload_n (i := 0) C dL_law_214 rfl rfl (Or.inr ⟨_, rfl⟩) ?_
        refine pw_iload_n (i := 3) C dL_law_215 rfl rfl ?_
        refine pw_iconst C dL_law_216 ?_
        refine pw_iadd C dL_law_217 ?_
        refine pw_sld C hX hbl hB ⟨by omega, by omega, by omega⟩ dL_law_218 ?_
        rw [← v1e]
        refine pw_stk (st' := [.int (iZ v1), .ref bm, .int (iZ (flF rf rp wf v1))]) rfl ?_
        refine pw_callV (As := [.int (iZ v1)]) (st := [.int (iZ (flF rf rp wf v1))]) C (mm_fault g l hMm v1i) my_X10_fault ml_L_35 (pw_rec.of C hcm0 cl_X10.1) rfl ⟨Nat.le_of_ble_eq_true rfl, Nat.le_of_ble_eq_true rfl⟩ ⟨by show ((70 + 604 * k) + 0) + 0 ≤ 600000; omega, by show ((500000 + 3900 * k + 8 * cap) + 0) + 0 ≤ 7302250; omega⟩ rfl (Nat.le_of_ble_eq_true rfl) dL_law_219 ?_
        rintro _ _ ⟨rfl, rfl⟩
        refine pw_stk (st' := [.int (iZ (flF rf rp wf v1)), .int (iZ (flF rf rp wf v1))]) rfl ?_
        refine pw_same (tgt := 289) C dL_law_222 (by decide) ?_
        refine pw_iinc (lv' := [(0, .ref b), (1, .ref (A 0)), (2, .ref bm), (3, .int (iZ ((6 * ((k : Nat) : Int)) + 6)))]) C dL_law_289 rfl (by decide) rfl ?_
        refine pw_goto (tgt := 18) C dL_law_292 (by decide) ?_
        rw [show 6 * ((k : Nat) : Int) + 6 = 6 * ((k + 1 : Nat) : Int) by omega]
        refine pw_wide (70 + 604 * (k + 1)) (500000 + 3900 * (k + 1) + 8 * cap) (by show (((70 + 604 * k) + 0) + 0) ≤ _; omega) (by show (((500000 + 3900 * k + 8 * cap) + 0) + 0) ≤ _; omega) ?_
        exact ih (k + 1) cap w (by omega) (by omega) hI.skip
      by_cases h_117 : y = 5
      · refine pw_tsIn (tgt := 227) (off := 194) C dL_law_33 (by omega) (by omega) (by omega) (by rw [h_117]; rfl) (by decide) ?_
        refine pw_aload_n (i := 1) C dL_law_227 rfl rfl (Or.inr ⟨_, rfl⟩) ?_
        refine pw_callV (As := []) (st := []) C (m_X9_steps g l hLm) my_X9_steps ml_L_36 (pw_rec.of C hfct.1 cl_X9.1) rfl ⟨Nat.le_of_ble_eq_true rfl, Nat.le_of_ble_eq_true rfl⟩ ⟨by show (70 + 604 * k) + 0 ≤ 600000; omega, by show (500000 + 3900 * k + 8 * cap) + 0 ≤ 7302250; omega⟩ rfl (Nat.le_of_ble_eq_true rfl) dL_law_228 ?_
        rintro _ _ ⟨rfl, rfl⟩
        refine pw_stk (st' := [.int (iZ ((sp : Nat) : Int))]) rfl ?_
        refine pw_aload_n (i := 2) C dL_law_231 rfl rfl (Or.inr ⟨_, rfl⟩) ?_
        refine pw_callV (As := []) (st := [.int (iZ ((sp : Nat) : Int))]) C (mm_steps g l hMm) my_X10_steps ml_L_39 (pw_rec.of C hcm0 cl_X10.1) rfl ⟨Nat.le_of_ble_eq_true rfl, Nat.le_of_ble_eq_true rfl⟩ ⟨by show ((70 + 604 * k) + 0) + 0 ≤ 600000; omega, by show ((500000 + 3900 * k + 8 * cap) + 0) + 0 ≤ 7302250; omega⟩ rfl (Nat.le_of_ble_eq_true rfl) dL_law_232 ?_
        rintro _ _ ⟨rfl, rfl⟩
        refine pw_stk (st' := [.int (iZ ((sp : Nat) : Int)), .int (iZ ((sp : Nat) : Int))]) rfl ?_
        refine pw_same (tgt := 289) C dL_law_235 (by decide) ?_
        refine pw_iinc (lv' := [(0, .ref b), (1, .ref (A 0)), (2, .ref bm), (3, .int (iZ ((6 * ((k : Nat) : Int)) + 6)))]) C dL_law_289 rfl (by decide) rfl ?_
        refine pw_goto (tgt := 18) C dL_law_292 (by decide) ?_
        rw [show 6 * ((k : Nat) : Int) + 6 = 6 * ((k + 1 : Nat) : Int) by omega]
        refine pw_wide (70 + 604 * (k + 1)) (500000 + 3900 * (k + 1) + 8 * cap) (by show (((70 + 604 * k) + 0) + 0) ≤ _; omega) (by show (((500000 + 3900 * k + 8 * cap) + 0) + 0) ≤ _; omega) ?_
        exact ih (k + 1) cap w (by omega) (by omega) hI.skip
      by_cases h_118 : y = 6
      · refine pw_tsIn (tgt := 240) (off := 207) C dL_law_33 (by omega) (by omega) (by omega) (by rw [h_118]; rfl) (by decide) ?_
        refine pw_aload_n (i := 1) C dL_law_240 rfl rfl (Or.inr ⟨_, rfl⟩) ?_
        refine pw_callV (As := []) (st := []) C (m_X9_functions g l hLm) my_X9_functions ml_L_40 (pw_rec.of C hfct.1 cl_X9.1) rfl ⟨Nat.le_of_ble_eq_true rfl, Nat.le_of_ble_eq_true rfl⟩ ⟨by show (70 + 604 * k) + 0 ≤ 600000; omega, by show (500000 + 3900 * k + 8 * cap) + 0 ≤ 7302250; omega⟩ rfl (Nat.le_of_ble_eq_true rfl) dL_law_241 ?_
        rintro _ _ ⟨rfl, rfl⟩
        refine pw_stk (st' := [.int (iZ ((T.length : Nat) : Int))]) rfl ?_
        refine pw_aload_n (i := 2) C dL_law_244 rfl rfl (Or.inr ⟨_, rfl⟩) ?_
        refine pw_callV (As := []) (st := [.int (iZ ((T.length : Nat) : Int))]) C (mm_functions g l hMm) my_X10_functions ml_L_43 (pw_rec.of C hcm0 cl_X10.1) rfl ⟨Nat.le_of_ble_eq_true rfl, Nat.le_of_ble_eq_true rfl⟩ ⟨by show ((70 + 604 * k) + 0) + 0 ≤ 600000; omega, by show ((500000 + 3900 * k + 8 * cap) + 0) + 0 ≤ 7302250; omega⟩ rfl (Nat.le_of_ble_eq_true rfl) dL_law_245 ?_
        rintro _ _ ⟨rfl, rfl⟩
        refine pw_stk (st' := [.int (iZ ((T.length : Nat) : Int)), .int (iZ ((T.length : Nat) : Int))]) rfl ?_
        refine pw_same (tgt := 289) C dL_law_248 (by decide) ?_
        refine pw_iinc (lv' := [(0, .ref b), (1, .ref (A 0)), (2, .ref bm), (3, .int (iZ ((6 * ((k : Nat) : Int)) + 6)))]) C dL_law_289 rfl (by decide) rfl ?_
        refine pw_goto (tgt := 18) C dL_law_292 (by decide) ?_
        rw [show 6 * ((k : Nat) : Int) + 6 = 6 * ((k + 1 : Nat) : Int) by omega]
        refine pw_wide (70 + 604 * (k + 1)) (500000 + 3900 * (k + 1) + 8 * cap) (by show (((70 + 604 * k) + 0) + 0) ≤ _; omega) (by show (((500000 + 3900 * k + 8 * cap) + 0) + 0) ≤ _; omega) ?_
        exact ih (k + 1) cap w (by omega) (by omega) hI.skip
      by_cases h_119 : y = 7
      · refine pw_tsIn (tgt := 253) (off := 220) C dL_law_33 (by omega) (by omega) (by omega) (by rw [h_119]; rfl) (by decide) ?_
        refine pw_aload_n (i := 1) C dL_law_253 rfl rfl (Or.inr ⟨_, rfl⟩) ?_
        refine pw_callV (As := []) (st := []) C (m_X9_size g l hLm) my_X9_size ml_L_44 (pw_rec.of C hfct.1 cl_X9.1) rfl ⟨Nat.le_of_ble_eq_true rfl, Nat.le_of_ble_eq_true rfl⟩ ⟨by show (70 + 604 * k) + 0 ≤ 600000; omega, by show (500000 + 3900 * k + 8 * cap) + 0 ≤ 7302250; omega⟩ rfl (Nat.le_of_ble_eq_true rfl) dL_law_254 ?_
        rintro _ _ ⟨rfl, rfl⟩
        refine pw_stk (st' := [.int (iZ (szF L1))]) rfl ?_
        refine pw_aload_n (i := 2) C dL_law_257 rfl rfl (Or.inr ⟨_, rfl⟩) ?_
        refine pw_callV (As := []) (st := [.int (iZ (szF L1))]) C (mm_size g l hMm) my_X10_size ml_L_47 (pw_rec.of C hcm0 cl_X10.1) rfl ⟨Nat.le_of_ble_eq_true rfl, Nat.le_of_ble_eq_true rfl⟩ ⟨by show ((70 + 604 * k) + 0) + 0 ≤ 600000; omega, by show ((500000 + 3900 * k + 8 * cap) + 0) + 0 ≤ 7302250; omega⟩ rfl (Nat.le_of_ble_eq_true rfl) dL_law_258 ?_
        rintro _ _ ⟨rfl, rfl⟩
        refine pw_stk (st' := [.int (iZ (szF L1)), .int (iZ (szF L1))]) rfl ?_
        refine pw_same (tgt := 289) C dL_law_261 (by decide) ?_
        refine pw_iinc (lv' := [(0, .ref b), (1, .ref (A 0)), (2, .ref bm), (3, .int (iZ ((6 * ((k : Nat) : Int)) + 6)))]) C dL_law_289 rfl (by decide) rfl ?_
        refine pw_goto (tgt := 18) C dL_law_292 (by decide) ?_
        rw [show 6 * ((k : Nat) : Int) + 6 = 6 * ((k + 1 : Nat) : Int) by omega]
        refine pw_wide (70 + 604 * (k + 1)) (500000 + 3900 * (k + 1) + 8 * cap) (by show (((70 + 604 * k) + 0) + 0) ≤ _; omega) (by show (((500000 + 3900 * k + 8 * cap) + 0) + 0) ≤ _; omega) ?_
        exact ih (k + 1) cap w (by omega) (by omega) hI.skip
      by_cases h_120 : y = 8
      · refine pw_tsIn (tgt := 266) (off := 233) C dL_law_33 (by omega) (by omega) (by omega) (by rw [h_120]; rfl) (by decide) ?_
        refine pw_aload_n (i := 1) C dL_law_266 rfl rfl (Or.inr ⟨_, rfl⟩) ?_
        refine pw_aload_n (i := 0) C dL_law_267 rfl rfl (Or.inr ⟨_, rfl⟩) ?_
        refine pw_iload_n (i := 3) C dL_law_268 rfl rfl ?_
        refine pw_iconst C dL_law_269 ?_
        refine pw_iadd C dL_law_270 ?_
        refine pw_sld C hX hbl hB ⟨by omega, by omega, by omega⟩ dL_law_271 ?_
        obtain ⟨v1, v1e, v1i⟩ : ∃ v, v = (xs ((6 * ((k : Nat) : Int)) + 1).toNat).toInt ∧ inI v := ⟨_, rfl, x_in _⟩
        rw [← v1e]
        refine pw_stk (st' := [.int (iZ v1), .ref (A 0)]) rfl ?_
        refine pw_callV (As := [.int (iZ v1)]) (st := []) C (m_X9_letter g l hLm v1i) my_X9_letter ml_L_48 (pw_rec.of C hfct.1 cl_X9.1) rfl ⟨Nat.le_of_ble_eq_true rfl, Nat.le_of_ble_eq_true rfl⟩ ⟨by show (70 + 604 * k) + 0 ≤ 600000; omega, by show (500000 + 3900 * k + 8 * cap) + 0 ≤ 7302250; omega⟩ rfl (Nat.le_of_ble_eq_true rfl) dL_law_272 ?_
        rintro _ _ ⟨rfl, rfl⟩
        refine pw_stk (st' := [.int (iZ (ltF L1 v1))]) rfl ?_
        refine pw_aload_n (i := 2) C dL_law_275 rfl rfl (Or.inr ⟨_, rfl⟩) ?_
        refine pw_aload_n (i := 0) C dL_law_276 rfl rfl (Or.inr ⟨_, rfl⟩) ?_
        refine pw_iload_n (i := 3) C dL_law_277 rfl rfl ?_
        refine pw_iconst C dL_law_278 ?_
        refine pw_iadd C dL_law_279 ?_
        refine pw_sld C hX hbl hB ⟨by omega, by omega, by omega⟩ dL_law_280 ?_
        rw [← v1e]
        refine pw_stk (st' := [.int (iZ v1), .ref bm, .int (iZ (ltF L1 v1))]) rfl ?_
        refine pw_callV (As := [.int (iZ v1)]) (st := [.int (iZ (ltF L1 v1))]) C (mm_letter g l hMm v1i) my_X10_letter ml_L_51 (pw_rec.of C hcm0 cl_X10.1) rfl ⟨Nat.le_of_ble_eq_true rfl, Nat.le_of_ble_eq_true rfl⟩ ⟨by show ((70 + 604 * k) + 0) + 0 ≤ 600000; omega, by show ((500000 + 3900 * k + 8 * cap) + 0) + 0 ≤ 7302250; omega⟩ rfl (Nat.le_of_ble_eq_true rfl) dL_law_281 ?_
        rintro _ _ ⟨rfl, rfl⟩
        refine pw_stk (st' := [.int (iZ (ltF L1 v1)), .int (iZ (ltF L1 v1))]) rfl ?_
        refine pw_same (tgt := 289) C dL_law_284 (by decide) ?_
        refine pw_iinc (lv' := [(0, .ref b), (1, .ref (A 0)), (2, .ref bm), (3, .int (iZ ((6 * ((k : Nat) : Int)) + 6)))]) C dL_law_289 rfl (by decide) rfl ?_
        refine pw_goto (tgt := 18) C dL_law_292 (by decide) ?_
        rw [show 6 * ((k : Nat) : Int) + 6 = 6 * ((k + 1 : Nat) : Int) by omega]
        refine pw_wide (70 + 604 * (k + 1)) (500000 + 3900 * (k + 1) + 8 * cap) (by show (((70 + 604 * k) + 0) + 0) ≤ _; omega) (by show (((500000 + 3900 * k + 8 * cap) + 0) + 0) ≤ _; omega) ?_
        exact ih (k + 1) cap w (by omega) (by omega) hI.skip
      refine pw_tsOut (tgt := 289) C dL_law_33 (by omega) (by omega) (by decide) ?_
      refine pw_iinc (lv' := [(0, .ref b), (1, .ref (A 0)), (2, .ref bm), (3, .int (iZ ((6 * ((k : Nat) : Int)) + 6)))]) C dL_law_289 rfl (by decide) rfl ?_
      refine pw_goto (tgt := 18) C dL_law_292 (by decide) ?_
      rw [show 6 * ((k : Nat) : Int) + 6 = 6 * ((k + 1 : Nat) : Int) by omega]
      refine pw_wide (70 + 604 * (k + 1)) (500000 + 3900 * (k + 1) + 8 * cap) (by show (70 + 604 * k) ≤ _; omega) (by show (500000 + 3900 * k + 8 * cap) ≤ _; omega) ?_
      exact ih (k + 1) cap w (by omega) (by omega) hI.skip
