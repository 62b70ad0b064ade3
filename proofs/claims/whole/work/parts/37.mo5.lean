/-! the reference: what a guard reckons -/
/-- the reference's house and number are as they may be -/
def gm_ok (μ : gf_M) : Prop := (0 ≤ μ 71 0 ∧ μ 71 0 ≤ 7) ∧ (∀ i : Int, 0 ≤ i → i < μ 71 0 → (0 ≤ μ 71 (3 + i) ∧ μ 71 (3 + i) ≤ 5) ∧ (0 ≤ μ 71 (10 + i) ∧ μ 71 (10 + i) ≤ 9) ∧ (0 ≤ μ 71 (17 + i) ∧ μ 71 (17 + i) ≤ 9)) ∧ (0 ≤ μ 71 1 ∧ μ 71 1 ≤ 8) ∧ (∀ j : Int, 0 ≤ j → j < μ 71 1 → 0 ≤ μ 71 (24 + j) ∧ μ 71 (24 + j) ≤ 9) ∧ (0 ≤ μ 71 2 ∧ μ 71 2 ≤ 40)
def gm_okg (μ : gf_M) (i : Int) : Prop := (0 ≤ i ∧ i ≤ 6) ∧ (0 ≤ μ 71 (3 + i) ∧ μ 71 (3 + i) ≤ 5) ∧ (0 ≤ μ 71 (10 + i) ∧ μ 71 (10 + i) ≤ 9) ∧ (0 ≤ μ 71 (17 + i) ∧ μ 71 (17 + i) ≤ 9)
theorem gm_ok_g {μ : gf_M} (h : gm_ok μ) {i : Int} (hi : 0 ≤ i ∧ i < μ 71 0) : gm_okg μ i := ⟨by have := h.1; omega, h.2.1 i hi.1 hi.2⟩
def gm_rk (μ : gf_M) (i : Int) (f : Int → Int) (n : Int) : Int := pf_reck (μ 71 (3 + i)) (μ 71 (10 + i)) (μ 71 (17 + i)) f n
def gm_x (μ : gf_M) : Int → Int := fun j => μ 71 (24 + j)
def gm_wr (μ μ' : gf_M) : Prop := μ' 65 15 = μ 71 1 ∧ (∀ j : Int, 0 ≤ j → j < 8 → μ' 73 j = μ 71 (24 + j)) ∧ ∀ a b : Int, ¬ (a = 65 ∧ b = 15) → a ≠ 73 → μ' a b = μ a b
/-- one product, as the reference sums them -/
def pf_tm (bf bk a s : Int) (f : Int → Int) (n j : Int) : Int := if bf = 0 then (if bk = 0 then f j else f (n - 1 - j)) * pf_wt a s j else pf_cs ((if bk = 0 then f j else f (n - 1 - j)) * pf_wt a s j)
theorem pf_sumf_front (g : Int → Int) : ∀ n : Nat, pf_sumf g (n + 1) = g 0 + pf_sumf (fun j => g (j + 1)) n
  | 0 => by show 0 + g ((0 : Nat) : Int) = g 0 + 0; rw [Int.zero_add, Int.add_zero]; rfl
  | n + 1 => by
    show pf_sumf g (n + 1) + g ((n + 1 : Nat) : Int) = g 0 + (pf_sumf (fun j => g (j + 1)) n + g ((n : Int) + 1))
    rw [pf_sumf_front g n, show ((n + 1 : Nat) : Int) = (n : Int) + 1 by omega]
    omega
theorem pf_sumf_rev (g : Int → Int) : ∀ n : Nat, pf_sumf (fun j => g ((n : Int) - 1 - j)) n = pf_sumf g n
  | 0 => rfl
  | n + 1 => by
    rw [pf_sumf_front]
    show g (((n + 1 : Nat) : Int) - 1 - 0) + pf_sumf (fun j => g (((n + 1 : Nat) : Int) - 1 - (j + 1))) n = pf_sumf g n + g n
    rw [show ((n + 1 : Nat) : Int) - 1 - 0 = n by omega, ← pf_sumf_rev g n, show (fun j : Int => g (((n + 1 : Nat) : Int) - 1 - (j + 1))) = (fun j : Int => g ((n : Int) - 1 - j)) from funext fun j => by rw [show ((n + 1 : Nat) : Int) - 1 - (j + 1) = (n : Int) - 1 - j by omega]]
    omega
theorem pf_rec_1 (a s : Int) (f : Int → Int) (n : Int) : ∀ i : Nat, pf_rec 1 a s f n i = pf_sumf (pf_tm 0 0 a s f n) i % 11
  | 0 => rfl
  | i + 1 => by
    show (pf_rec 1 a s f n i + f i * pf_wt a s i) % 11 = (pf_sumf (pf_tm 0 0 a s f n) i + f i * pf_wt a s i) % 11
    rw [pf_rec_1 a s f n i]
    omega
theorem pf_rec_0 (a s : Int) (f : Int → Int) (n : Int) : ∀ i : Nat, pf_rec 0 a s f n i = pf_sumf (pf_tm 0 0 a s f n) i % 10
  | 0 => rfl
  | i + 1 => by
    show (pf_rec 0 a s f n i + f i * pf_wt a s i) % 10 = (pf_sumf (pf_tm 0 0 a s f n) i + f i * pf_wt a s i) % 10
    rw [pf_rec_0 a s f n i]
    omega
theorem pf_rec_2 (a s : Int) (f : Int → Int) (n : Int) : ∀ i : Nat, pf_rec 2 a s f n i = pf_sumf (pf_tm 1 0 a s f n) i % 10
  | 0 => rfl
  | i + 1 => by
    show (pf_rec 2 a s f n i + pf_cs (f i * pf_wt a s i)) % 10 = (pf_sumf (pf_tm 1 0 a s f n) i + pf_cs (f i * pf_wt a s i)) % 10
    rw [pf_rec_2 a s f n i]
    omega
theorem pf_rec_5 (a s : Int) (f : Int → Int) (n : Int) : ∀ i : Nat, pf_rec 5 a s f n i = pf_sumf (pf_tm 1 0 a s f n) i % 10
  | 0 => rfl
  | i + 1 => by
    show (pf_rec 5 a s f n i + pf_cs (f i * pf_wt a s i)) % 10 = (pf_sumf (pf_tm 1 0 a s f n) i + pf_cs (f i * pf_wt a s i)) % 10
    rw [pf_rec_5 a s f n i]
    omega
theorem pf_rec_4 (a s : Int) (f : Int → Int) (n : Int) : ∀ i : Nat, pf_rec 4 a s f n i = pf_sumf (fun j => f j * pf_wt a s (n - 1 - j)) i % 11
  | 0 => rfl
  | i + 1 => by
    show (pf_rec 4 a s f n i + f i * pf_wt a s (n - 1 - i)) % 11 = (pf_sumf (fun j => f j * pf_wt a s (n - 1 - j)) i + f i * pf_wt a s (n - 1 - i)) % 11
    rw [pf_rec_4 a s f n i]
    omega
theorem pf_rec_4r {a s : Int} {f : Int → Int} {n : Int} (hn : 0 ≤ n) : pf_rec 4 a s f n n.toNat = pf_sumf (pf_tm 0 1 a s f n) n.toNat % 11 := by
  rw [pf_rec_4, ← pf_sumf_rev]
  rw [show ((n.toNat : Nat) : Int) = n by omega]
  rw [pf_sumf_congr (h := pf_tm 0 1 a s f n) n.toNat (fun j h0 h1 => by
    show f (n - 1 - j) * pf_wt a s (n - 1 - (n - 1 - j)) = f (n - 1 - j) * pf_wt a s j
    rw [show n - 1 - (n - 1 - j) = j by omega])]
theorem pf_tm_R {bf bk a s n j : Int} {f : Int → Int} (hF : ∀ j : Int, 0 ≤ j → j < n → 0 ≤ f j ∧ f j ≤ 9) (hj : 0 ≤ j ∧ j < n) : 0 ≤ pf_tm bf bk a s f n j ∧ pf_tm bf bk a s f n j ≤ 81 := by
  have h1 : 0 ≤ (if bk = 0 then f j else f (n - 1 - j)) ∧ (if bk = 0 then f j else f (n - 1 - j)) ≤ 9 := by
    split
    · exact hF j hj.1 hj.2
    · exact hF (n - 1 - j) (by omega) (by omega)
  have h2 := pf_mulb h1 (pf_wt_R a s j)
  unfold pf_tm pf_cs
  split <;> omega
theorem dd_Mo_sumOf_0 : decode cc_Mo_sumOf 0 = .ok (.iconst 0, 1) := by decide +kernel
theorem dd_Mo_sumOf_1 : decode cc_Mo_sumOf 1 = .ok (.istore 6, 2) := by decide +kernel
theorem dd_Mo_sumOf_3 : decode cc_Mo_sumOf 3 = .ok (.iconst 0, 1) := by decide +kernel
theorem dd_Mo_sumOf_4 : decode cc_Mo_sumOf 4 = .ok (.istore 7, 2) := by decide +kernel
theorem dd_Mo_sumOf_6 : decode cc_Mo_sumOf 6 = .ok (.iload 7, 2) := by decide +kernel
theorem dd_Mo_sumOf_8 : decode cc_Mo_sumOf 8 = .ok (.iload_n 3, 1) := by decide +kernel
theorem dd_Mo_sumOf_9 : decode cc_Mo_sumOf 9 = .ok (.if_icmp .ge 71, 3) := by decide +kernel
theorem dd_Mo_sumOf_12 : decode cc_Mo_sumOf 12 = .ok (.iload 5, 2) := by decide +kernel
theorem dd_Mo_sumOf_14 : decode cc_Mo_sumOf 14 = .ok (.ifCond .eq 14, 3) := by decide +kernel
theorem dd_Mo_sumOf_17 : decode cc_Mo_sumOf 17 = .ok (.aload_n 2, 1) := by decide +kernel
theorem dd_Mo_sumOf_18 : decode cc_Mo_sumOf 18 = .ok (.iload_n 3, 1) := by decide +kernel
theorem dd_Mo_sumOf_19 : decode cc_Mo_sumOf 19 = .ok (.iconst 1, 1) := by decide +kernel
theorem dd_Mo_sumOf_20 : decode cc_Mo_sumOf 20 = .ok (.isub, 1) := by decide +kernel
theorem dd_Mo_sumOf_21 : decode cc_Mo_sumOf 21 = .ok (.iload 7, 2) := by decide +kernel
theorem dd_Mo_sumOf_23 : decode cc_Mo_sumOf 23 = .ok (.isub, 1) := by decide +kernel
theorem dd_Mo_sumOf_24 : decode cc_Mo_sumOf 24 = .ok (.iaload, 1) := by decide +kernel
theorem dd_Mo_sumOf_25 : decode cc_Mo_sumOf 25 = .ok (.goto 7, 3) := by decide +kernel
theorem dd_Mo_sumOf_28 : decode cc_Mo_sumOf 28 = .ok (.aload_n 2, 1) := by decide +kernel
theorem dd_Mo_sumOf_29 : decode cc_Mo_sumOf 29 = .ok (.iload 7, 2) := by decide +kernel
theorem dd_Mo_sumOf_31 : decode cc_Mo_sumOf 31 = .ok (.iaload, 1) := by decide +kernel
theorem dd_Mo_sumOf_32 : decode cc_Mo_sumOf 32 = .ok (.istore 8, 2) := by decide +kernel
theorem dd_Mo_sumOf_34 : decode cc_Mo_sumOf 34 = .ok (.iload 8, 2) := by decide +kernel
theorem dd_Mo_sumOf_36 : decode cc_Mo_sumOf 36 = .ok (.iload_n 0, 1) := by decide +kernel
theorem dd_Mo_sumOf_37 : decode cc_Mo_sumOf 37 = .ok (.iload 7, 2) := by decide +kernel
theorem dd_Mo_sumOf_39 : decode cc_Mo_sumOf 39 = .ok (.iload_n 1, 1) := by decide +kernel
theorem dd_Mo_sumOf_40 : decode cc_Mo_sumOf 40 = .ok (.imul, 1) := by decide +kernel
theorem dd_Mo_sumOf_41 : decode cc_Mo_sumOf 41 = .ok (.iadd, 1) := by decide +kernel
theorem dd_Mo_sumOf_42 : decode cc_Mo_sumOf 42 = .ok (.bipush 10, 2) := by decide +kernel
theorem dd_Mo_sumOf_44 : decode cc_Mo_sumOf 44 = .ok (.irem, 1) := by decide +kernel
theorem dd_Mo_sumOf_45 : decode cc_Mo_sumOf 45 = .ok (.imul, 1) := by decide +kernel
theorem dd_Mo_sumOf_46 : decode cc_Mo_sumOf 46 = .ok (.istore 9, 2) := by decide +kernel
theorem dd_Mo_sumOf_48 : decode cc_Mo_sumOf 48 = .ok (.iload 6, 2) := by decide +kernel
theorem dd_Mo_sumOf_50 : decode cc_Mo_sumOf 50 = .ok (.iload 4, 2) := by decide +kernel
theorem dd_Mo_sumOf_52 : decode cc_Mo_sumOf 52 = .ok (.ifCond .eq 17, 3) := by decide +kernel
theorem dd_Mo_sumOf_55 : decode cc_Mo_sumOf 55 = .ok (.iload 9, 2) := by decide +kernel
theorem dd_Mo_sumOf_57 : decode cc_Mo_sumOf 57 = .ok (.bipush 10, 2) := by decide +kernel
theorem dd_Mo_sumOf_59 : decode cc_Mo_sumOf 59 = .ok (.idiv, 1) := by decide +kernel
theorem dd_Mo_sumOf_60 : decode cc_Mo_sumOf 60 = .ok (.iload 9, 2) := by decide +kernel
theorem dd_Mo_sumOf_62 : decode cc_Mo_sumOf 62 = .ok (.bipush 10, 2) := by decide +kernel
theorem dd_Mo_sumOf_64 : decode cc_Mo_sumOf 64 = .ok (.irem, 1) := by decide +kernel
theorem dd_Mo_sumOf_65 : decode cc_Mo_sumOf 65 = .ok (.iadd, 1) := by decide +kernel
theorem dd_Mo_sumOf_66 : decode cc_Mo_sumOf 66 = .ok (.goto 5, 3) := by decide +kernel
theorem dd_Mo_sumOf_69 : decode cc_Mo_sumOf 69 = .ok (.iload 9, 2) := by decide +kernel
theorem dd_Mo_sumOf_71 : decode cc_Mo_sumOf 71 = .ok (.iadd, 1) := by decide +kernel
theorem dd_Mo_sumOf_72 : decode cc_Mo_sumOf 72 = .ok (.istore 6, 2) := by decide +kernel
theorem dd_Mo_sumOf_74 : decode cc_Mo_sumOf 74 = .ok (.iinc 7 1, 3) := by decide +kernel
theorem dd_Mo_sumOf_77 : decode cc_Mo_sumOf 77 = .ok (.goto (-71), 3) := by decide +kernel
theorem dd_Mo_sumOf_80 : decode cc_Mo_sumOf 80 = .ok (.iload 6, 2) := by decide +kernel
theorem dd_Mo_sumOf_82 : decode cc_Mo_sumOf 82 = .ok (.ireturn, 1) := by decide +kernel
set_option maxRecDepth 100000 in
set_option maxHeartbeats 4000000 in
theorem ct_Mo_sumOf (l : Launch) (E : gf_E) (a s k n bf bk : Int) (N : Nat) (μ : gf_M) (ha : 0 ≤ a ∧ a ≤ 9) (hs : 0 ≤ s ∧ s ≤ 9) (hk : gf_is 81 k 1 0 N) (hn : 0 ≤ n ∧ n ≤ 9 ∧ n ≤ N) (hbf : bf = 0 ∨ bf = 1) (hbk : bk = 0 ∨ bk = 1) (hF : ∀ j : Int, 0 ≤ j → j < n → 0 ≤ μ k j ∧ μ k j ≤ 9)  : gf_Mi l E yy_Mo_sumOf cc_Mo_sumOf 10 .int (gf_rm 0 0) 81 gf_ref μ [.int (gf_i a), .int (gf_i s), .ref (gf_ad E k), .int (gf_i n), .int (gf_i bf), .int (gf_i bk)] (fun q μ' => (q = pf_sumf (pf_tm bf bk a s (μ k) n) n.toNat ∧ 0 ≤ q ∧ q ≤ 81 * n) ∧ μ' = μ) := by
  refine gf_mi (by decide +kernel) (Nat.le_of_ble_eq_true rfl) (by decide) (fun X Q hlx C hQ => ?_)
  subst hlx
  replace C : gf_C X E cc_Mo_sumOf 10 "GuardFiguresModel" (gf_rm 0 0) := C
  show gf_G X E Q 10 gf_φ μ 0 [(0, .int (gf_i a)), (1, .int (gf_i s)), (2, .ref (gf_ad E k)), (3, .int (gf_i n)), (4, .int (gf_i bf)), (5, .int (gf_i bk))] []
  refine gf_iconst C dd_Mo_sumOf_0 ?_
  refine gf_istore (lv' := [(6, .int (gf_i 0)), (0, .int (gf_i a)), (1, .int (gf_i s)), (2, .ref (gf_ad E k)), (3, .int (gf_i n)), (4, .int (gf_i bf)), (5, .int (gf_i bk))]) C dd_Mo_sumOf_1 (by decide) rfl ?_
  refine gf_iconst C dd_Mo_sumOf_3 ?_
  refine gf_istore (lv' := [(7, .int (gf_i 0)), (6, .int (gf_i 0)), (0, .int (gf_i a)), (1, .int (gf_i s)), (2, .ref (gf_ad E k)), (3, .int (gf_i n)), (4, .int (gf_i bf)), (5, .int (gf_i bk))]) C dd_Mo_sumOf_4 (by decide) rfl ?_
  have L6_1 : ∀ (N : Nat) (z j : Int) , (0 ≤ j ∧ j ≤ n ∧ z = pf_sumf (pf_tm bf bk a s (μ k) n) j.toNat ∧ 0 ≤ z ∧ z ≤ 81 * j) → (9 - j).toNat < N → gf_G X E Q 10 gf_φ μ 6 [(6, .int (gf_i z)), (7, .int (gf_i j)), (0, .int (gf_i a)), (1, .int (gf_i s)), (2, .ref (gf_ad E k)), (3, .int (gf_i n)), (4, .int (gf_i bf)), (5, .int (gf_i bk))] [] := by
    intro N
    induction N with
    | zero => intro z j hinv hN; exact absurd hN (Nat.not_lt_zero _)
    | succ N ih6_1 =>
      intro z j hinv hN
      have hinv0 := hinv
      obtain ⟨hj0, hj1, hz, hz0, hz1⟩ := hinv
      refine gf_iload C dd_Mo_sumOf_6 1 rfl ?_
      refine gf_iload_n C dd_Mo_sumOf_8 5 rfl ?_
      refine gf_icmp_ge 80 C dd_Mo_sumOf_9 (by decide) (by omega) (by omega) (fun h9 => ?_) (fun h9 => ?_)
      · skip
        refine gf_iload C dd_Mo_sumOf_80 0 rfl ?_
        refine gf_iret C hQ dd_Mo_sumOf_82 (by omega) ?_
        have ej : j = n := by omega
        rw [ej] at hz
        exact ⟨⟨hz, by omega, by omega⟩, rfl⟩
      · skip
        refine gf_iload C dd_Mo_sumOf_12 7 rfl ?_
        refine gf_if_eq 28 C dd_Mo_sumOf_14 (by decide) (by omega) (fun h14 => ?_) (fun h14 => ?_)
        · skip
          refine gf_aload_n C dd_Mo_sumOf_28 4 rfl ?_
          refine gf_iload C dd_Mo_sumOf_29 1 rfl ?_
          refine gf_iald C dd_Mo_sumOf_31 hk (by omega) (fun hv31 => ?_)
          refine gf_nm (fun x32 hx32 => ?_)
          refine gf_istore (lv' := [(8, .int (gf_i x32)), (6, .int (gf_i z)), (7, .int (gf_i j)), (0, .int (gf_i a)), (1, .int (gf_i s)), (2, .ref (gf_ad E k)), (3, .int (gf_i n)), (4, .int (gf_i bf)), (5, .int (gf_i bk))]) C dd_Mo_sumOf_32 (by decide) rfl ?_
          have hwm := pf_mulb (a := j) (b := s) (A := 9) (B := 9) (by omega) (by omega)
          refine gf_iload C dd_Mo_sumOf_34 0 rfl ?_
          refine gf_iload_n C dd_Mo_sumOf_36 3 rfl ?_
          refine gf_iload C dd_Mo_sumOf_37 2 rfl ?_
          refine gf_iload_n C dd_Mo_sumOf_39 4 rfl ?_
          refine gf_imul C dd_Mo_sumOf_40 ?_
          refine gf_iadd C dd_Mo_sumOf_41 ?_
          refine gf_bipush C dd_Mo_sumOf_42 (by decide +kernel) ?_
          refine gf_irem C dd_Mo_sumOf_44 (by omega) ?_
          refine gf_imul C dd_Mo_sumOf_45 ?_
          refine gf_nm (fun x46 hx46 => ?_)
          refine gf_istore (lv' := [(9, .int (gf_i x46)), (8, .int (gf_i x32)), (6, .int (gf_i z)), (7, .int (gf_i j)), (0, .int (gf_i a)), (1, .int (gf_i s)), (2, .ref (gf_ad E k)), (3, .int (gf_i n)), (4, .int (gf_i bf)), (5, .int (gf_i bk))]) C dd_Mo_sumOf_46 (by decide) rfl ?_
          have hwR := pf_wt_R a s j
          have hx32R : 0 ≤ x32 ∧ x32 ≤ 9 := by first | (rw [hx32]; exact hF (n - 1 - j) (by omega) (by omega)) | (rw [hx32]; exact hF j (by omega) (by omega))
          have hvv : x46 = x32 * pf_wt a s j := hx46
          have hvR := pf_mulb hx32R hwR
          rw [← hvv] at hvR
          refine gf_iload C dd_Mo_sumOf_48 2 rfl ?_
          refine gf_iload C dd_Mo_sumOf_50 8 rfl ?_
          refine gf_if_eq 69 C dd_Mo_sumOf_52 (by decide) (by omega) (fun h52 => ?_) (fun h52 => ?_)
          · skip
            refine gf_iload C dd_Mo_sumOf_69 0 rfl ?_
            refine gf_iadd C dd_Mo_sumOf_71 ?_
            refine gf_nm (fun x72 hx72 => ?_)
            refine gf_istore (lv' := [(6, .int (gf_i x72)), (9, .int (gf_i x46)), (8, .int (gf_i x32)), (7, .int (gf_i j)), (0, .int (gf_i a)), (1, .int (gf_i s)), (2, .ref (gf_ad E k)), (3, .int (gf_i n)), (4, .int (gf_i bf)), (5, .int (gf_i bk))]) C dd_Mo_sumOf_72 (by decide) rfl ?_
            obtain ⟨x74, hx74⟩ : ∃ y : Int, y = j + 1 := ⟨_, rfl⟩
            refine gf_iinc (q := 3) (v := x74) (lv' := [(7, .int (gf_i x74)), (6, .int (gf_i x72)), (9, .int (gf_i x46)), (8, .int (gf_i x32)), (0, .int (gf_i a)), (1, .int (gf_i s)), (2, .ref (gf_ad E k)), (3, .int (gf_i n)), (4, .int (gf_i bf)), (5, .int (gf_i bk))]) C dd_Mo_sumOf_74 rfl hx74 (by decide) rfl ?_
            refine gf_goto 6 C dd_Mo_sumOf_77 (by decide) ?_
            refine gf_lsub [1, 0, 4, 5, 6, 7, 8, 9] rfl ?_
            exact ih6_1 x72 x74 (by
                    have ht : (if bf = 0 then x46 else pf_cs x46) = pf_tm bf bk a s (μ k) n j := by
                      unfold pf_tm
                      rw [hvv, hx32]
                      first | (rw [if_pos h14]; done) | (rw [if_neg h14]; done)
                    have htR := pf_tm_R (bf := bf) (bk := bk) (a := a) (s := s) hF ⟨hj0, show j < n by omega⟩
                    rw [← ht] at htR
                    have hx : x72 = z + (if bf = 0 then x46 else pf_cs x46) := by
                      rw [hx72]
                      first | (rw [if_pos h52]; done) | (rw [if_neg h52]; rfl)
                    refine ⟨by omega, by omega, ?_, by omega, by omega⟩
                    rw [show x74.toNat = j.toNat + 1 by omega]
                    show _ = pf_sumf _ j.toNat + pf_tm bf bk a s (μ k) n ((j.toNat : Nat) : Int)
                    rw [← hz, show ((j.toNat : Nat) : Int) = j by omega, ← ht]
                    exact hx) (by omega)
          · skip
            refine gf_iload C dd_Mo_sumOf_55 0 rfl ?_
            refine gf_bipush C dd_Mo_sumOf_57 (by decide +kernel) ?_
            refine gf_idiv C dd_Mo_sumOf_59 (by omega) ?_
            refine gf_iload C dd_Mo_sumOf_60 0 rfl ?_
            refine gf_bipush C dd_Mo_sumOf_62 (by decide +kernel) ?_
            refine gf_irem C dd_Mo_sumOf_64 (by omega) ?_
            refine gf_iadd C dd_Mo_sumOf_65 ?_
            refine gf_goto 71 C dd_Mo_sumOf_66 (by decide) ?_
            refine gf_iadd C dd_Mo_sumOf_71 ?_
            refine gf_nm (fun x72 hx72 => ?_)
            refine gf_istore (lv' := [(6, .int (gf_i x72)), (9, .int (gf_i x46)), (8, .int (gf_i x32)), (7, .int (gf_i j)), (0, .int (gf_i a)), (1, .int (gf_i s)), (2, .ref (gf_ad E k)), (3, .int (gf_i n)), (4, .int (gf_i bf)), (5, .int (gf_i bk))]) C dd_Mo_sumOf_72 (by decide) rfl ?_
            obtain ⟨x74, hx74⟩ : ∃ y : Int, y = j + 1 := ⟨_, rfl⟩
            refine gf_iinc (q := 3) (v := x74) (lv' := [(7, .int (gf_i x74)), (6, .int (gf_i x72)), (9, .int (gf_i x46)), (8, .int (gf_i x32)), (0, .int (gf_i a)), (1, .int (gf_i s)), (2, .ref (gf_ad E k)), (3, .int (gf_i n)), (4, .int (gf_i bf)), (5, .int (gf_i bk))]) C dd_Mo_sumOf_74 rfl hx74 (by decide) rfl ?_
            refine gf_goto 6 C dd_Mo_sumOf_77 (by decide) ?_
            refine gf_lsub [1, 0, 4, 5, 6, 7, 8, 9] rfl ?_
            exact ih6_1 x72 x74 (by
                    have ht : (if bf = 0 then x46 else pf_cs x46) = pf_tm bf bk a s (μ k) n j := by
                      unfold pf_tm
                      rw [hvv, hx32]
                      first | (rw [if_pos h14]; done) | (rw [if_neg h14]; done)
                    have htR := pf_tm_R (bf := bf) (bk := bk) (a := a) (s := s) hF ⟨hj0, show j < n by omega⟩
                    rw [← ht] at htR
                    have hx : x72 = z + (if bf = 0 then x46 else pf_cs x46) := by
                      rw [hx72]
                      first | (rw [if_pos h52]; done) | (rw [if_neg h52]; rfl)
                    refine ⟨by omega, by omega, ?_, by omega, by omega⟩
                    rw [show x74.toNat = j.toNat + 1 by omega]
                    show _ = pf_sumf _ j.toNat + pf_tm bf bk a s (μ k) n ((j.toNat : Nat) : Int)
                    rw [← hz, show ((j.toNat : Nat) : Int) = j by omega, ← ht]
                    exact hx) (by omega)
        · skip
          refine gf_aload_n C dd_Mo_sumOf_17 4 rfl ?_
          refine gf_iload_n C dd_Mo_sumOf_18 5 rfl ?_
          refine gf_iconst C dd_Mo_sumOf_19 ?_
          refine gf_isub C dd_Mo_sumOf_20 ?_
          refine gf_iload C dd_Mo_sumOf_21 1 rfl ?_
          refine gf_isub C dd_Mo_sumOf_23 ?_
          refine gf_iald C dd_Mo_sumOf_24 hk (by omega) (fun hv24 => ?_)
          refine gf_goto 32 C dd_Mo_sumOf_25 (by decide) ?_
          refine gf_nm (fun x32 hx32 => ?_)
          refine gf_istore (lv' := [(8, .int (gf_i x32)), (6, .int (gf_i z)), (7, .int (gf_i j)), (0, .int (gf_i a)), (1, .int (gf_i s)), (2, .ref (gf_ad E k)), (3, .int (gf_i n)), (4, .int (gf_i bf)), (5, .int (gf_i bk))]) C dd_Mo_sumOf_32 (by decide) rfl ?_
          have hwm := pf_mulb (a := j) (b := s) (A := 9) (B := 9) (by omega) (by omega)
          refine gf_iload C dd_Mo_sumOf_34 0 rfl ?_
          refine gf_iload_n C dd_Mo_sumOf_36 3 rfl ?_
          refine gf_iload C dd_Mo_sumOf_37 2 rfl ?_
          refine gf_iload_n C dd_Mo_sumOf_39 4 rfl ?_
          refine gf_imul C dd_Mo_sumOf_40 ?_
          refine gf_iadd C dd_Mo_sumOf_41 ?_
          refine gf_bipush C dd_Mo_sumOf_42 (by decide +kernel) ?_
          refine gf_irem C dd_Mo_sumOf_44 (by omega) ?_
          refine gf_imul C dd_Mo_sumOf_45 ?_
          refine gf_nm (fun x46 hx46 => ?_)
          refine gf_istore (lv' := [(9, .int (gf_i x46)), (8, .int (gf_i x32)), (6, .int (gf_i z)), (7, .int (gf_i j)), (0, .int (gf_i a)), (1, .int (gf_i s)), (2, .ref (gf_ad E k)), (3, .int (gf_i n)), (4, .int (gf_i bf)), (5, .int (gf_i bk))]) C dd_Mo_sumOf_46 (by decide) rfl ?_
          have hwR := pf_wt_R a s j
          have hx32R : 0 ≤ x32 ∧ x32 ≤ 9 := by first | (rw [hx32]; exact hF (n - 1 - j) (by omega) (by omega)) | (rw [hx32]; exact hF j (by omega) (by omega))
          have hvv : x46 = x32 * pf_wt a s j := hx46
          have hvR := pf_mulb hx32R hwR
          rw [← hvv] at hvR
          refine gf_iload C dd_Mo_sumOf_48 2 rfl ?_
          refine gf_iload C dd_Mo_sumOf_50 8 rfl ?_
          refine gf_if_eq 69 C dd_Mo_sumOf_52 (by decide) (by omega) (fun h52 => ?_) (fun h52 => ?_)
          · skip
            refine gf_iload C dd_Mo_sumOf_69 0 rfl ?_
            refine gf_iadd C dd_Mo_sumOf_71 ?_
            refine gf_nm (fun x72 hx72 => ?_)
            refine gf_istore (lv' := [(6, .int (gf_i x72)), (9, .int (gf_i x46)), (8, .int (gf_i x32)), (7, .int (gf_i j)), (0, .int (gf_i a)), (1, .int (gf_i s)), (2, .ref (gf_ad E k)), (3, .int (gf_i n)), (4, .int (gf_i bf)), (5, .int (gf_i bk))]) C dd_Mo_sumOf_72 (by decide) rfl ?_
            obtain ⟨x74, hx74⟩ : ∃ y : Int, y = j + 1 := ⟨_, rfl⟩
            refine gf_iinc (q := 3) (v := x74) (lv' := [(7, .int (gf_i x74)), (6, .int (gf_i x72)), (9, .int (gf_i x46)), (8, .int (gf_i x32)), (0, .int (gf_i a)), (1, .int (gf_i s)), (2, .ref (gf_ad E k)), (3, .int (gf_i n)), (4, .int (gf_i bf)), (5, .int (gf_i bk))]) C dd_Mo_sumOf_74 rfl hx74 (by decide) rfl ?_
            refine gf_goto 6 C dd_Mo_sumOf_77 (by decide) ?_
            refine gf_lsub [1, 0, 4, 5, 6, 7, 8, 9] rfl ?_
            exact ih6_1 x72 x74 (by
                    have ht : (if bf = 0 then x46 else pf_cs x46) = pf_tm bf bk a s (μ k) n j := by
                      unfold pf_tm
                      rw [hvv, hx32]
                      first | (rw [if_pos h14]; done) | (rw [if_neg h14]; done)
                    have htR := pf_tm_R (bf := bf) (bk := bk) (a := a) (s := s) hF ⟨hj0, show j < n by omega⟩
                    rw [← ht] at htR
                    have hx : x72 = z + (if bf = 0 then x46 else pf_cs x46) := by
                      rw [hx72]
                      first | (rw [if_pos h52]; done) | (rw [if_neg h52]; rfl)
                    refine ⟨by omega, by omega, ?_, by omega, by omega⟩
                    rw [show x74.toNat = j.toNat + 1 by omega]
                    show _ = pf_sumf _ j.toNat + pf_tm bf bk a s (μ k) n ((j.toNat : Nat) : Int)
                    rw [← hz, show ((j.toNat : Nat) : Int) = j by omega, ← ht]
                    exact hx) (by omega)
          · skip
            refine gf_iload C dd_Mo_sumOf_55 0 rfl ?_
            refine gf_bipush C dd_Mo_sumOf_57 (by decide +kernel) ?_
            refine gf_idiv C dd_Mo_sumOf_59 (by omega) ?_
            refine gf_iload C dd_Mo_sumOf_60 0 rfl ?_
            refine gf_bipush C dd_Mo_sumOf_62 (by decide +kernel) ?_
            refine gf_irem C dd_Mo_sumOf_64 (by omega) ?_
            refine gf_iadd C dd_Mo_sumOf_65 ?_
            refine gf_goto 71 C dd_Mo_sumOf_66 (by decide) ?_
            refine gf_iadd C dd_Mo_sumOf_71 ?_
            refine gf_nm (fun x72 hx72 => ?_)
            refine gf_istore (lv' := [(6, .int (gf_i x72)), (9, .int (gf_i x46)), (8, .int (gf_i x32)), (7, .int (gf_i j)), (0, .int (gf_i a)), (1, .int (gf_i s)), (2, .ref (gf_ad E k)), (3, .int (gf_i n)), (4, .int (gf_i bf)), (5, .int (gf_i bk))]) C dd_Mo_sumOf_72 (by decide) rfl ?_
            obtain ⟨x74, hx74⟩ : ∃ y : Int, y = j + 1 := ⟨_, rfl⟩
            refine gf_iinc (q := 3) (v := x74) (lv' := [(7, .int (gf_i x74)), (6, .int (gf_i x72)), (9, .int (gf_i x46)), (8, .int (gf_i x32)), (0, .int (gf_i a)), (1, .int (gf_i s)), (2, .ref (gf_ad E k)), (3, .int (gf_i n)), (4, .int (gf_i bf)), (5, .int (gf_i bk))]) C dd_Mo_sumOf_74 rfl hx74 (by decide) rfl ?_
            refine gf_goto 6 C dd_Mo_sumOf_77 (by decide) ?_
            refine gf_lsub [1, 0, 4, 5, 6, 7, 8, 9] rfl ?_
            exact ih6_1 x72 x74 (by
                    have ht : (if bf = 0 then x46 else pf_cs x46) = pf_tm bf bk a s (μ k) n j := by
                      unfold pf_tm
                      rw [hvv, hx32]
                      first | (rw [if_pos h14]; done) | (rw [if_neg h14]; done)
                    have htR := pf_tm_R (bf := bf) (bk := bk) (a := a) (s := s) hF ⟨hj0, show j < n by omega⟩
                    rw [← ht] at htR
                    have hx : x72 = z + (if bf = 0 then x46 else pf_cs x46) := by
                      rw [hx72]
                      first | (rw [if_pos h52]; done) | (rw [if_neg h52]; rfl)
                    refine ⟨by omega, by omega, ?_, by omega, by omega⟩
                    rw [show x74.toNat = j.toNat + 1 by omega]
                    show _ = pf_sumf _ j.toNat + pf_tm bf bk a s (μ k) n ((j.toNat : Nat) : Int)
                    rw [← hz, show ((j.toNat : Nat) : Int) = j by omega, ← ht]
                    exact hx) (by omega)
  refine gf_lsub [1, 0, 2, 3, 4, 5, 6, 7] rfl ?_
  exact L6_1 _ 0 0 (⟨by omega, by omega, rfl, by omega, by omega⟩) (Nat.lt_succ_self _)

theorem dd_Mo_chainOf_0 : decode cc_Mo_chainOf 0 = .ok (.iconst 0, 1) := by decide +kernel
theorem dd_Mo_chainOf_1 : decode cc_Mo_chainOf 1 = .ok (.istore 4, 2) := by decide +kernel
theorem dd_Mo_chainOf_3 : decode cc_Mo_chainOf 3 = .ok (.iconst 0, 1) := by decide +kernel
theorem dd_Mo_chainOf_4 : decode cc_Mo_chainOf 4 = .ok (.istore 5, 2) := by decide +kernel
theorem dd_Mo_chainOf_6 : decode cc_Mo_chainOf 6 = .ok (.iload 5, 2) := by decide +kernel
theorem dd_Mo_chainOf_8 : decode cc_Mo_chainOf 8 = .ok (.iload_n 3, 1) := by decide +kernel
theorem dd_Mo_chainOf_9 : decode cc_Mo_chainOf 9 = .ok (.if_icmp .ge 25, 3) := by decide +kernel
theorem dd_Mo_chainOf_12 : decode cc_Mo_chainOf 12 = .ok (.iload 4, 2) := by decide +kernel
theorem dd_Mo_chainOf_14 : decode cc_Mo_chainOf 14 = .ok (.iload_n 0, 1) := by decide +kernel
theorem dd_Mo_chainOf_15 : decode cc_Mo_chainOf 15 = .ok (.imul, 1) := by decide +kernel
theorem dd_Mo_chainOf_16 : decode cc_Mo_chainOf 16 = .ok (.aload_n 2, 1) := by decide +kernel
theorem dd_Mo_chainOf_17 : decode cc_Mo_chainOf 17 = .ok (.iload 5, 2) := by decide +kernel
theorem dd_Mo_chainOf_19 : decode cc_Mo_chainOf 19 = .ok (.iaload, 1) := by decide +kernel
theorem dd_Mo_chainOf_20 : decode cc_Mo_chainOf 20 = .ok (.iadd, 1) := by decide +kernel
theorem dd_Mo_chainOf_21 : decode cc_Mo_chainOf 21 = .ok (.iload_n 1, 1) := by decide +kernel
theorem dd_Mo_chainOf_22 : decode cc_Mo_chainOf 22 = .ok (.iadd, 1) := by decide +kernel
theorem dd_Mo_chainOf_23 : decode cc_Mo_chainOf 23 = .ok (.bipush 10, 2) := by decide +kernel
theorem dd_Mo_chainOf_25 : decode cc_Mo_chainOf 25 = .ok (.irem, 1) := by decide +kernel
theorem dd_Mo_chainOf_26 : decode cc_Mo_chainOf 26 = .ok (.istore 4, 2) := by decide +kernel
theorem dd_Mo_chainOf_28 : decode cc_Mo_chainOf 28 = .ok (.iinc 5 1, 3) := by decide +kernel
theorem dd_Mo_chainOf_31 : decode cc_Mo_chainOf 31 = .ok (.goto (-25), 3) := by decide +kernel
theorem dd_Mo_chainOf_34 : decode cc_Mo_chainOf 34 = .ok (.iload 4, 2) := by decide +kernel
theorem dd_Mo_chainOf_36 : decode cc_Mo_chainOf 36 = .ok (.ireturn, 1) := by decide +kernel
set_option maxRecDepth 100000 in
set_option maxHeartbeats 4000000 in
theorem ct_Mo_chainOf (l : Launch) (E : gf_E) (a s k n : Int) (N : Nat) (μ : gf_M) (ha : 0 ≤ a ∧ a ≤ 9) (hs : 0 ≤ s ∧ s ≤ 9) (hk : gf_is 81 k 1 0 N) (hn : 0 ≤ n ∧ n ≤ 9 ∧ n ≤ N) (hF : ∀ j : Int, 0 ≤ j → j < n → 0 ≤ μ k j ∧ μ k j ≤ 9)  : gf_Mi l E yy_Mo_chainOf cc_Mo_chainOf 6 .int (gf_rm 0 0) 81 gf_ref μ [.int (gf_i a), .int (gf_i s), .ref (gf_ad E k), .int (gf_i n)] (fun q μ' => (q = pf_rec 3 a s (μ k) n n.toNat ∧ 0 ≤ q ∧ q ≤ 9) ∧ μ' = μ) := by
  refine gf_mi (by decide +kernel) (Nat.le_of_ble_eq_true rfl) (by decide) (fun X Q hlx C hQ => ?_)
  subst hlx
  replace C : gf_C X E cc_Mo_chainOf 6 "GuardFiguresModel" (gf_rm 0 0) := C
  show gf_G X E Q 6 gf_φ μ 0 [(0, .int (gf_i a)), (1, .int (gf_i s)), (2, .ref (gf_ad E k)), (3, .int (gf_i n))] []
  refine gf_iconst C dd_Mo_chainOf_0 ?_
  refine gf_istore (lv' := [(4, .int (gf_i 0)), (0, .int (gf_i a)), (1, .int (gf_i s)), (2, .ref (gf_ad E k)), (3, .int (gf_i n))]) C dd_Mo_chainOf_1 (by decide) rfl ?_
  refine gf_iconst C dd_Mo_chainOf_3 ?_
  refine gf_istore (lv' := [(5, .int (gf_i 0)), (4, .int (gf_i 0)), (0, .int (gf_i a)), (1, .int (gf_i s)), (2, .ref (gf_ad E k)), (3, .int (gf_i n))]) C dd_Mo_chainOf_4 (by decide) rfl ?_
  have L6_1 : ∀ (N : Nat) (z j : Int) , (0 ≤ j ∧ j ≤ n ∧ z = pf_rec 3 a s (μ k) n j.toNat ∧ 0 ≤ z ∧ z ≤ 9) → (9 - j).toNat < N → gf_G X E Q 6 gf_φ μ 6 [(4, .int (gf_i z)), (5, .int (gf_i j)), (0, .int (gf_i a)), (1, .int (gf_i s)), (2, .ref (gf_ad E k)), (3, .int (gf_i n))] [] := by
    intro N
    induction N with
    | zero => intro z j hinv hN; exact absurd hN (Nat.not_lt_zero _)
    | succ N ih6_1 =>
      intro z j hinv hN
      have hinv0 := hinv
      obtain ⟨hj0, hj1, hz, hz0, hz1⟩ := hinv
      refine gf_iload C dd_Mo_chainOf_6 1 rfl ?_
      refine gf_iload_n C dd_Mo_chainOf_8 5 rfl ?_
      refine gf_icmp_ge 34 C dd_Mo_chainOf_9 (by decide) (by omega) (by omega) (fun h9 => ?_) (fun h9 => ?_)
      · skip
        refine gf_iload C dd_Mo_chainOf_34 0 rfl ?_
        refine gf_iret C hQ dd_Mo_chainOf_36 (by omega) ?_
        have ej : j = n := by omega
        rw [ej] at hz
        exact ⟨⟨hz, by omega, by omega⟩, rfl⟩
      · skip
        refine gf_iload C dd_Mo_chainOf_12 0 rfl ?_
        refine gf_iload_n C dd_Mo_chainOf_14 2 rfl ?_
        refine gf_imul C dd_Mo_chainOf_15 ?_
        refine gf_aload_n C dd_Mo_chainOf_16 4 rfl ?_
        refine gf_iload C dd_Mo_chainOf_17 1 rfl ?_
        refine gf_iald C dd_Mo_chainOf_19 hk (by omega) (fun hv19 => ?_)
        refine gf_iadd C dd_Mo_chainOf_20 ?_
        refine gf_iload_n C dd_Mo_chainOf_21 3 rfl ?_
        refine gf_iadd C dd_Mo_chainOf_22 ?_
        have hfj := hF j (by omega) (by omega)
        have hmm := pf_mulb (a := z) (b := a) (A := 9) (B := 9) (by omega) (by omega)
        refine gf_bipush C dd_Mo_chainOf_23 (by decide +kernel) ?_
        refine gf_irem C dd_Mo_chainOf_25 (by omega) ?_
        refine gf_nm (fun x26 hx26 => ?_)
        refine gf_istore (lv' := [(4, .int (gf_i x26)), (5, .int (gf_i j)), (0, .int (gf_i a)), (1, .int (gf_i s)), (2, .ref (gf_ad E k)), (3, .int (gf_i n))]) C dd_Mo_chainOf_26 (by decide) rfl ?_
        obtain ⟨x28, hx28⟩ : ∃ y : Int, y = j + 1 := ⟨_, rfl⟩
        refine gf_iinc (q := 1) (v := x28) (lv' := [(5, .int (gf_i x28)), (4, .int (gf_i x26)), (0, .int (gf_i a)), (1, .int (gf_i s)), (2, .ref (gf_ad E k)), (3, .int (gf_i n))]) C dd_Mo_chainOf_28 rfl hx28 (by decide) rfl ?_
        refine gf_goto 6 C dd_Mo_chainOf_31 (by decide) ?_
        refine gf_lsub [1, 0, 2, 3, 4, 5] rfl ?_
        exact ih6_1 x26 x28 (by
                refine ⟨by omega, by omega, ?_, by omega, by omega⟩
                rw [show x28.toNat = j.toNat + 1 by omega]
                show _ = (pf_rec 3 a s (μ k) n j.toNat * a + μ k ((j.toNat : Nat) : Int) + s) % 10
                rw [← hz, show ((j.toNat : Nat) : Int) = j by omega]
                exact hx26) (by omega)
  refine gf_lsub [1, 0, 2, 3, 4, 5] rfl ?_
  exact L6_1 _ 0 0 (⟨by omega, by omega, rfl, by omega, by omega⟩) (Nat.lt_succ_self _)

theorem dd_Mo_reckons_0 : decode cc_Mo_reckons 0 = .ok (.iload_n 0, 1) := by decide +kernel
theorem dd_Mo_reckons_1 : decode cc_Mo_reckons 1 = .ok (.tableswitch 108 1 5 #[35, 49, 63, 72, 86], 35) := by decide +kernel
theorem dd_Mo_reckons_36 : decode cc_Mo_reckons 36 = .ok (.iload_n 1, 1) := by decide +kernel
theorem dd_Mo_reckons_37 : decode cc_Mo_reckons 37 = .ok (.iload_n 2, 1) := by decide +kernel
theorem dd_Mo_reckons_38 : decode cc_Mo_reckons 38 = .ok (.aload_n 3, 1) := by decide +kernel
theorem dd_Mo_reckons_39 : decode cc_Mo_reckons 39 = .ok (.iload 4, 2) := by decide +kernel
theorem dd_Mo_reckons_41 : decode cc_Mo_reckons 41 = .ok (.iconst 0, 1) := by decide +kernel
theorem dd_Mo_reckons_42 : decode cc_Mo_reckons 42 = .ok (.iconst 0, 1) := by decide +kernel
theorem dd_Mo_reckons_43 : decode cc_Mo_reckons 43 = .ok (.invokestatic 131, 3) := by decide +kernel
theorem dd_Mo_reckons_46 : decode cc_Mo_reckons 46 = .ok (.bipush 11, 2) := by decide +kernel
theorem dd_Mo_reckons_48 : decode cc_Mo_reckons 48 = .ok (.irem, 1) := by decide +kernel
theorem dd_Mo_reckons_49 : decode cc_Mo_reckons 49 = .ok (.ireturn, 1) := by decide +kernel
theorem dd_Mo_reckons_50 : decode cc_Mo_reckons 50 = .ok (.iload_n 1, 1) := by decide +kernel
theorem dd_Mo_reckons_51 : decode cc_Mo_reckons 51 = .ok (.iload_n 2, 1) := by decide +kernel
theorem dd_Mo_reckons_52 : decode cc_Mo_reckons 52 = .ok (.aload_n 3, 1) := by decide +kernel
theorem dd_Mo_reckons_53 : decode cc_Mo_reckons 53 = .ok (.iload 4, 2) := by decide +kernel
theorem dd_Mo_reckons_55 : decode cc_Mo_reckons 55 = .ok (.iconst 1, 1) := by decide +kernel
theorem dd_Mo_reckons_56 : decode cc_Mo_reckons 56 = .ok (.iconst 0, 1) := by decide +kernel
theorem dd_Mo_reckons_57 : decode cc_Mo_reckons 57 = .ok (.invokestatic 131, 3) := by decide +kernel
theorem dd_Mo_reckons_60 : decode cc_Mo_reckons 60 = .ok (.bipush 10, 2) := by decide +kernel
theorem dd_Mo_reckons_62 : decode cc_Mo_reckons 62 = .ok (.irem, 1) := by decide +kernel
theorem dd_Mo_reckons_63 : decode cc_Mo_reckons 63 = .ok (.ireturn, 1) := by decide +kernel
theorem dd_Mo_reckons_64 : decode cc_Mo_reckons 64 = .ok (.iload_n 1, 1) := by decide +kernel
theorem dd_Mo_reckons_65 : decode cc_Mo_reckons 65 = .ok (.iload_n 2, 1) := by decide +kernel
theorem dd_Mo_reckons_66 : decode cc_Mo_reckons 66 = .ok (.aload_n 3, 1) := by decide +kernel
theorem dd_Mo_reckons_67 : decode cc_Mo_reckons 67 = .ok (.iload 4, 2) := by decide +kernel
theorem dd_Mo_reckons_69 : decode cc_Mo_reckons 69 = .ok (.invokestatic 135, 3) := by decide +kernel
theorem dd_Mo_reckons_72 : decode cc_Mo_reckons 72 = .ok (.ireturn, 1) := by decide +kernel
theorem dd_Mo_reckons_73 : decode cc_Mo_reckons 73 = .ok (.iload_n 1, 1) := by decide +kernel
theorem dd_Mo_reckons_74 : decode cc_Mo_reckons 74 = .ok (.iload_n 2, 1) := by decide +kernel
theorem dd_Mo_reckons_75 : decode cc_Mo_reckons 75 = .ok (.aload_n 3, 1) := by decide +kernel
theorem dd_Mo_reckons_76 : decode cc_Mo_reckons 76 = .ok (.iload 4, 2) := by decide +kernel
theorem dd_Mo_reckons_78 : decode cc_Mo_reckons 78 = .ok (.iconst 0, 1) := by decide +kernel
theorem dd_Mo_reckons_79 : decode cc_Mo_reckons 79 = .ok (.iconst 1, 1) := by decide +kernel
theorem dd_Mo_reckons_80 : decode cc_Mo_reckons 80 = .ok (.invokestatic 131, 3) := by decide +kernel
theorem dd_Mo_reckons_83 : decode cc_Mo_reckons 83 = .ok (.bipush 11, 2) := by decide +kernel
theorem dd_Mo_reckons_85 : decode cc_Mo_reckons 85 = .ok (.irem, 1) := by decide +kernel
theorem dd_Mo_reckons_86 : decode cc_Mo_reckons 86 = .ok (.ireturn, 1) := by decide +kernel
theorem dd_Mo_reckons_87 : decode cc_Mo_reckons 87 = .ok (.iconst 2, 1) := by decide +kernel
theorem dd_Mo_reckons_88 : decode cc_Mo_reckons 88 = .ok (.iload_n 1, 1) := by decide +kernel
theorem dd_Mo_reckons_89 : decode cc_Mo_reckons 89 = .ok (.iload_n 2, 1) := by decide +kernel
theorem dd_Mo_reckons_90 : decode cc_Mo_reckons 90 = .ok (.aload_n 3, 1) := by decide +kernel
theorem dd_Mo_reckons_91 : decode cc_Mo_reckons 91 = .ok (.iload 4, 2) := by decide +kernel
theorem dd_Mo_reckons_93 : decode cc_Mo_reckons 93 = .ok (.iconst 1, 1) := by decide +kernel
theorem dd_Mo_reckons_94 : decode cc_Mo_reckons 94 = .ok (.iconst 0, 1) := by decide +kernel
theorem dd_Mo_reckons_95 : decode cc_Mo_reckons 95 = .ok (.invokestatic 131, 3) := by decide +kernel
theorem dd_Mo_reckons_98 : decode cc_Mo_reckons 98 = .ok (.bipush 10, 2) := by decide +kernel
theorem dd_Mo_reckons_100 : decode cc_Mo_reckons 100 = .ok (.irem, 1) := by decide +kernel
theorem dd_Mo_reckons_101 : decode cc_Mo_reckons 101 = .ok (.imul, 1) := by decide +kernel
theorem dd_Mo_reckons_102 : decode cc_Mo_reckons 102 = .ok (.iload 4, 2) := by decide +kernel
theorem dd_Mo_reckons_104 : decode cc_Mo_reckons 104 = .ok (.iadd, 1) := by decide +kernel
theorem dd_Mo_reckons_105 : decode cc_Mo_reckons 105 = .ok (.bipush 10, 2) := by decide +kernel
theorem dd_Mo_reckons_107 : decode cc_Mo_reckons 107 = .ok (.irem, 1) := by decide +kernel
theorem dd_Mo_reckons_108 : decode cc_Mo_reckons 108 = .ok (.ireturn, 1) := by decide +kernel
theorem dd_Mo_reckons_109 : decode cc_Mo_reckons 109 = .ok (.iload_n 1, 1) := by decide +kernel
theorem dd_Mo_reckons_110 : decode cc_Mo_reckons 110 = .ok (.iload_n 2, 1) := by decide +kernel
theorem dd_Mo_reckons_111 : decode cc_Mo_reckons 111 = .ok (.aload_n 3, 1) := by decide +kernel
theorem dd_Mo_reckons_112 : decode cc_Mo_reckons 112 = .ok (.iload 4, 2) := by decide +kernel
theorem dd_Mo_reckons_114 : decode cc_Mo_reckons 114 = .ok (.iconst 0, 1) := by decide +kernel
theorem dd_Mo_reckons_115 : decode cc_Mo_reckons 115 = .ok (.iconst 0, 1) := by decide +kernel
theorem dd_Mo_reckons_116 : decode cc_Mo_reckons 116 = .ok (.invokestatic 131, 3) := by decide +kernel
theorem dd_Mo_reckons_119 : decode cc_Mo_reckons 119 = .ok (.bipush 10, 2) := by decide +kernel
theorem dd_Mo_reckons_121 : decode cc_Mo_reckons 121 = .ok (.irem, 1) := by decide +kernel
theorem dd_Mo_reckons_122 : decode cc_Mo_reckons 122 = .ok (.ireturn, 1) := by decide +kernel
set_option maxRecDepth 100000 in
set_option maxHeartbeats 4000000 in
theorem ct_Mo_reckons (l : Launch) (E : gf_E) (K a s k n : Int) (N : Nat) (μ : gf_M) (hK : 0 ≤ K ∧ K ≤ 5) (ha : 0 ≤ a ∧ a ≤ 9) (hs : 0 ≤ s ∧ s ≤ 9) (hk : gf_is 81 k 1 0 N) (hn : 0 ≤ n ∧ n ≤ 9 ∧ n ≤ N) (hF : ∀ j : Int, 0 ≤ j → j < n → 0 ≤ μ k j ∧ μ k j ≤ 9)  : gf_Mi l E yy_Mo_reckons cc_Mo_reckons 5 .int (gf_rm 1 29) 81 gf_ref μ [.int (gf_i K), .int (gf_i a), .int (gf_i s), .ref (gf_ad E k), .int (gf_i n)] (fun q μ' => (q = pf_reck K a s (μ k) n ∧ 0 ≤ q ∧ q ≤ 10) ∧ μ' = μ) := by
  refine gf_mi (by decide +kernel) (Nat.le_of_ble_eq_true rfl) (by decide) (fun X Q hlx C hQ => ?_)
  subst hlx
  replace C : gf_C X E cc_Mo_reckons 5 "GuardFiguresModel" (gf_rm 1 29) := C
  show gf_G X E Q 5 gf_φ μ 0 [(0, .int (gf_i K)), (1, .int (gf_i a)), (2, .int (gf_i s)), (3, .ref (gf_ad E k)), (4, .int (gf_i n))] []
  refine gf_iload_n C dd_Mo_reckons_0 0 rfl ?_
  rcases (show K = 1 ∨ K = 2 ∨ K = 3 ∨ K = 4 ∨ K = 5 ∨ ¬ (1 ≤ K ∧ K ≤ 5) by omega) with hsw1 | hsw1 | hsw1 | hsw1 | hsw1 | hsw1
  · refine gf_cv hsw1 ?_
    refine gf_tblI 36 C dd_Mo_reckons_1 (by decide) (by decide) (by decide) rfl (by decide) ?_
    refine gf_iload_n C dd_Mo_reckons_36 1 rfl ?_
    refine gf_iload_n C dd_Mo_reckons_37 2 rfl ?_
    refine gf_aload_n C dd_Mo_reckons_38 3 rfl ?_
    refine gf_iload C dd_Mo_reckons_39 4 rfl ?_
    refine gf_iconst C dd_Mo_reckons_41 ?_
    refine gf_iconst C dd_Mo_reckons_42 ?_
    refine gf_callSi (st := []) (As := [.int (gf_i a), .int (gf_i s), .ref (gf_ad E k), .int (gf_i n), .int (gf_i 0), .int (gf_i 0)]) C wk_Mo_131 (ct_Mo_sumOf (gf_xl X) E a s k n 0 0 N μ (by omega) (by omega) (hk) (by omega) (by omega) (by omega) (hF)) rfl ⟨rfl, rfl, rfl, rfl⟩ (Nat.le_of_ble_eq_true rfl) rfl dd_Mo_reckons_43 (fun r43 m43 hR43 hp43 => ?_)
    have hr43 := hp43.1
    refine gf_pm hp43.2 ?_
    refine gf_bipush C dd_Mo_reckons_46 (by decide +kernel) ?_
    refine gf_irem C dd_Mo_reckons_48 (by omega) ?_
    refine gf_iret C hQ dd_Mo_reckons_49 (by omega) ?_
    refine ⟨⟨?_, by omega, by omega⟩, rfl⟩
    rw [hsw1, hr43.1]
    unfold pf_reck
    rw [pf_rec_1]
    rfl
  · refine gf_cv hsw1 ?_
    refine gf_tblI 50 C dd_Mo_reckons_1 (by decide) (by decide) (by decide) rfl (by decide) ?_
    refine gf_iload_n C dd_Mo_reckons_50 1 rfl ?_
    refine gf_iload_n C dd_Mo_reckons_51 2 rfl ?_
    refine gf_aload_n C dd_Mo_reckons_52 3 rfl ?_
    refine gf_iload C dd_Mo_reckons_53 4 rfl ?_
    refine gf_iconst C dd_Mo_reckons_55 ?_
    refine gf_iconst C dd_Mo_reckons_56 ?_
    refine gf_callSi (st := []) (As := [.int (gf_i a), .int (gf_i s), .ref (gf_ad E k), .int (gf_i n), .int (gf_i 1), .int (gf_i 0)]) C wk_Mo_131 (ct_Mo_sumOf (gf_xl X) E a s k n 1 0 N μ (by omega) (by omega) (hk) (by omega) (by omega) (by omega) (hF)) rfl ⟨rfl, rfl, rfl, rfl⟩ (Nat.le_of_ble_eq_true rfl) rfl dd_Mo_reckons_57 (fun r57 m57 hR57 hp57 => ?_)
    have hr57 := hp57.1
    refine gf_pm hp57.2 ?_
    refine gf_bipush C dd_Mo_reckons_60 (by decide +kernel) ?_
    refine gf_irem C dd_Mo_reckons_62 (by omega) ?_
    refine gf_iret C hQ dd_Mo_reckons_63 (by omega) ?_
    refine ⟨⟨?_, by omega, by omega⟩, rfl⟩
    rw [hsw1, hr57.1]
    unfold pf_reck
    rw [pf_rec_2]
    rfl
  · refine gf_cv hsw1 ?_
    refine gf_tblI 64 C dd_Mo_reckons_1 (by decide) (by decide) (by decide) rfl (by decide) ?_
    refine gf_iload_n C dd_Mo_reckons_64 1 rfl ?_
    refine gf_iload_n C dd_Mo_reckons_65 2 rfl ?_
    refine gf_aload_n C dd_Mo_reckons_66 3 rfl ?_
    refine gf_iload C dd_Mo_reckons_67 4 rfl ?_
    refine gf_callSi (st := []) (As := [.int (gf_i a), .int (gf_i s), .ref (gf_ad E k), .int (gf_i n)]) C wk_Mo_135 (ct_Mo_chainOf (gf_xl X) E a s k n N μ (by omega) (by omega) (hk) (by omega) (hF)) rfl ⟨rfl, rfl, rfl, rfl⟩ (Nat.le_of_ble_eq_true rfl) rfl dd_Mo_reckons_69 (fun r69 m69 hR69 hp69 => ?_)
    have hr69 := hp69.1
    refine gf_pm hp69.2 ?_
    refine gf_iret C hQ dd_Mo_reckons_72 (by omega) ?_
    refine ⟨⟨?_, by omega, by omega⟩, rfl⟩
    rw [hsw1, hr69.1]
    rfl
  · refine gf_cv hsw1 ?_
    refine gf_tblI 73 C dd_Mo_reckons_1 (by decide) (by decide) (by decide) rfl (by decide) ?_
    refine gf_iload_n C dd_Mo_reckons_73 1 rfl ?_
    refine gf_iload_n C dd_Mo_reckons_74 2 rfl ?_
    refine gf_aload_n C dd_Mo_reckons_75 3 rfl ?_
    refine gf_iload C dd_Mo_reckons_76 4 rfl ?_
    refine gf_iconst C dd_Mo_reckons_78 ?_
    refine gf_iconst C dd_Mo_reckons_79 ?_
    refine gf_callSi (st := []) (As := [.int (gf_i a), .int (gf_i s), .ref (gf_ad E k), .int (gf_i n), .int (gf_i 0), .int (gf_i 1)]) C wk_Mo_131 (ct_Mo_sumOf (gf_xl X) E a s k n 0 1 N μ (by omega) (by omega) (hk) (by omega) (by omega) (by omega) (hF)) rfl ⟨rfl, rfl, rfl, rfl⟩ (Nat.le_of_ble_eq_true rfl) rfl dd_Mo_reckons_80 (fun r80 m80 hR80 hp80 => ?_)
    have hr80 := hp80.1
    refine gf_pm hp80.2 ?_
    refine gf_bipush C dd_Mo_reckons_83 (by decide +kernel) ?_
    refine gf_irem C dd_Mo_reckons_85 (by omega) ?_
    refine gf_iret C hQ dd_Mo_reckons_86 (by omega) ?_
    refine ⟨⟨?_, by omega, by omega⟩, rfl⟩
    rw [hsw1, hr80.1]
    unfold pf_reck
    rw [pf_rec_4r hn.1]
    rfl
  · refine gf_cv hsw1 ?_
    refine gf_tblI 87 C dd_Mo_reckons_1 (by decide) (by decide) (by decide) rfl (by decide) ?_
    refine gf_iconst C dd_Mo_reckons_87 ?_
    refine gf_iload_n C dd_Mo_reckons_88 1 rfl ?_
    refine gf_iload_n C dd_Mo_reckons_89 2 rfl ?_
    refine gf_aload_n C dd_Mo_reckons_90 3 rfl ?_
    refine gf_iload C dd_Mo_reckons_91 4 rfl ?_
    refine gf_iconst C dd_Mo_reckons_93 ?_
    refine gf_iconst C dd_Mo_reckons_94 ?_
    refine gf_callSi (st := [.int (gf_i 2)]) (As := [.int (gf_i a), .int (gf_i s), .ref (gf_ad E k), .int (gf_i n), .int (gf_i 1), .int (gf_i 0)]) C wk_Mo_131 (ct_Mo_sumOf (gf_xl X) E a s k n 1 0 N μ (by omega) (by omega) (hk) (by omega) (by omega) (by omega) (hF)) rfl ⟨rfl, rfl, rfl, rfl⟩ (Nat.le_of_ble_eq_true rfl) rfl dd_Mo_reckons_95 (fun r95 m95 hR95 hp95 => ?_)
    have hr95 := hp95.1
    refine gf_pm hp95.2 ?_
    refine gf_bipush C dd_Mo_reckons_98 (by decide +kernel) ?_
    refine gf_irem C dd_Mo_reckons_100 (by omega) ?_
    refine gf_imul C dd_Mo_reckons_101 ?_
    refine gf_iload C dd_Mo_reckons_102 4 rfl ?_
    refine gf_iadd C dd_Mo_reckons_104 ?_
    refine gf_bipush C dd_Mo_reckons_105 (by decide +kernel) ?_
    refine gf_irem C dd_Mo_reckons_107 (by omega) ?_
    refine gf_iret C hQ dd_Mo_reckons_108 (by omega) ?_
    refine ⟨⟨?_, by omega, by omega⟩, rfl⟩
    rw [hsw1, hr95.1]
    unfold pf_reck
    rw [pf_rec_5]
    rfl
  · refine gf_tblO 109 C dd_Mo_reckons_1 (by omega) (by omega) (by decide) ?_
    refine gf_iload_n C dd_Mo_reckons_109 1 rfl ?_
    refine gf_iload_n C dd_Mo_reckons_110 2 rfl ?_
    refine gf_aload_n C dd_Mo_reckons_111 3 rfl ?_
    refine gf_iload C dd_Mo_reckons_112 4 rfl ?_
    refine gf_iconst C dd_Mo_reckons_114 ?_
    refine gf_iconst C dd_Mo_reckons_115 ?_
    refine gf_callSi (st := []) (As := [.int (gf_i a), .int (gf_i s), .ref (gf_ad E k), .int (gf_i n), .int (gf_i 0), .int (gf_i 0)]) C wk_Mo_131 (ct_Mo_sumOf (gf_xl X) E a s k n 0 0 N μ (by omega) (by omega) (hk) (by omega) (by omega) (by omega) (hF)) rfl ⟨rfl, rfl, rfl, rfl⟩ (Nat.le_of_ble_eq_true rfl) rfl dd_Mo_reckons_116 (fun r116 m116 hR116 hp116 => ?_)
    have hr116 := hp116.1
    refine gf_pm hp116.2 ?_
    refine gf_bipush C dd_Mo_reckons_119 (by decide +kernel) ?_
    refine gf_irem C dd_Mo_reckons_121 (by omega) ?_
    refine gf_iret C hQ dd_Mo_reckons_122 (by omega) ?_
    refine ⟨⟨?_, by omega, by omega⟩, rfl⟩
    rw [show K = 0 by omega, hr116.1]
    unfold pf_reck
    rw [pf_rec_0]
    rfl

theorem dd_Mo_asKind_0 : decode cc_Mo_asKind 0 = .ok (.iload_n 2, 1) := by decide +kernel
theorem dd_Mo_asKind_1 : decode cc_Mo_asKind 1 = .ok (.aload_n 0, 1) := by decide +kernel
theorem dd_Mo_asKind_2 : decode cc_Mo_asKind 2 = .ok (.getfield 30, 3) := by decide +kernel
theorem dd_Mo_asKind_5 : decode cc_Mo_asKind 5 = .ok (.bipush 10, 2) := by decide +kernel
theorem dd_Mo_asKind_7 : decode cc_Mo_asKind 7 = .ok (.iload_n 1, 1) := by decide +kernel
theorem dd_Mo_asKind_8 : decode cc_Mo_asKind 8 = .ok (.iadd, 1) := by decide +kernel
theorem dd_Mo_asKind_9 : decode cc_Mo_asKind 9 = .ok (.iaload, 1) := by decide +kernel
theorem dd_Mo_asKind_10 : decode cc_Mo_asKind 10 = .ok (.aload_n 0, 1) := by decide +kernel
theorem dd_Mo_asKind_11 : decode cc_Mo_asKind 11 = .ok (.getfield 30, 3) := by decide +kernel
theorem dd_Mo_asKind_14 : decode cc_Mo_asKind 14 = .ok (.bipush 17, 2) := by decide +kernel
theorem dd_Mo_asKind_16 : decode cc_Mo_asKind 16 = .ok (.iload_n 1, 1) := by decide +kernel
theorem dd_Mo_asKind_17 : decode cc_Mo_asKind 17 = .ok (.iadd, 1) := by decide +kernel
theorem dd_Mo_asKind_18 : decode cc_Mo_asKind 18 = .ok (.iaload, 1) := by decide +kernel
theorem dd_Mo_asKind_19 : decode cc_Mo_asKind 19 = .ok (.aload_n 3, 1) := by decide +kernel
theorem dd_Mo_asKind_20 : decode cc_Mo_asKind 20 = .ok (.iload 4, 2) := by decide +kernel
theorem dd_Mo_asKind_22 : decode cc_Mo_asKind 22 = .ok (.invokestatic 139, 3) := by decide +kernel
theorem dd_Mo_asKind_25 : decode cc_Mo_asKind 25 = .ok (.ireturn, 1) := by decide +kernel
set_option maxRecDepth 100000 in
set_option maxHeartbeats 4000000 in
theorem ct_Mo_asKind (l : Launch) (E : gf_E) (i K k n : Int) (N : Nat) (μ : gf_M) (hK : 0 ≤ K ∧ K ≤ 5) (hi : 0 ≤ i ∧ i ≤ 6) (ha : 0 ≤ μ 71 (10 + i) ∧ μ 71 (10 + i) ≤ 9) (hs : 0 ≤ μ 71 (17 + i) ∧ μ 71 (17 + i) ≤ 9) (hk : gf_is 81 k 1 0 N) (hn : 0 ≤ n ∧ n ≤ 9 ∧ n ≤ N) (hF : ∀ j : Int, 0 ≤ j → j < n → 0 ≤ μ k j ∧ μ k j ≤ 9)  : gf_Mi l E yy_Mo_asKind cc_Mo_asKind 5 .int (gf_rm 2 53) 81 gf_ref μ [.ref (gf_ad E 65), .int (gf_i i), .int (gf_i K), .ref (gf_ad E k), .int (gf_i n)] (fun q μ' => (q = pf_reck K (μ 71 (10 + i)) (μ 71 (17 + i)) (μ k) n ∧ 0 ≤ q ∧ q ≤ 10) ∧ μ' = μ) := by
  refine gf_mi (by decide +kernel) (Nat.le_of_ble_eq_true rfl) (by decide) (fun X Q hlx C hQ => ?_)
  subst hlx
  replace C : gf_C X E cc_Mo_asKind 5 "GuardFiguresModel" (gf_rm 2 53) := C
  show gf_G X E Q 5 gf_φ μ 0 [(0, .ref (gf_ad E 65)), (1, .int (gf_i i)), (2, .int (gf_i K)), (3, .ref (gf_ad E k)), (4, .int (gf_i n))] []
  refine gf_iload_n C dd_Mo_asKind_0 2 rfl ?_
  refine gf_aload_n C dd_Mo_asKind_1 0 rfl ?_
  refine gf_getA (r := 71) C gf_cl7 fl_Mo_30 dd_Mo_asKind_2 rfl (show gf_is 81 65 0 7 26 by decide) (by decide) (by decide) ?_
  refine gf_bipush C dd_Mo_asKind_5 (by decide +kernel) ?_
  refine gf_iload_n C dd_Mo_asKind_7 1 rfl ?_
  refine gf_iadd C dd_Mo_asKind_8 ?_
  refine gf_iald C dd_Mo_asKind_9 (show gf_is 81 71 1 0 392 by decide) (by omega) (fun hv9 => ?_)
  refine gf_aload_n C dd_Mo_asKind_10 0 rfl ?_
  refine gf_getA (r := 71) C gf_cl7 fl_Mo_30 dd_Mo_asKind_11 rfl (show gf_is 81 65 0 7 26 by decide) (by decide) (by decide) ?_
  refine gf_bipush C dd_Mo_asKind_14 (by decide +kernel) ?_
  refine gf_iload_n C dd_Mo_asKind_16 1 rfl ?_
  refine gf_iadd C dd_Mo_asKind_17 ?_
  refine gf_iald C dd_Mo_asKind_18 (show gf_is 81 71 1 0 392 by decide) (by omega) (fun hv18 => ?_)
  refine gf_aload_n C dd_Mo_asKind_19 3 rfl ?_
  refine gf_iload C dd_Mo_asKind_20 4 rfl ?_
  refine gf_callSi (st := []) (As := [.int (gf_i K), .int (gf_i (μ 71 (10 + i))), .int (gf_i (μ 71 (17 + i))), .ref (gf_ad E k), .int (gf_i n)]) C wk_Mo_139 (ct_Mo_reckons (gf_xl X) E K (μ 71 (10 + i)) (μ 71 (17 + i)) k n N μ (by omega) (by omega) (by omega) (hk) (by omega) (hF)) rfl ⟨rfl, rfl, rfl, rfl⟩ (Nat.le_of_ble_eq_true rfl) rfl dd_Mo_asKind_22 (fun r22 m22 hR22 hp22 => ?_)
  have hr22 := hp22.1
  refine gf_pm hp22.2 ?_
  refine gf_iret C hQ dd_Mo_asKind_25 (by omega) ?_
  exact ⟨hr22, rfl⟩

theorem dd_Mo_byGuard_0 : decode cc_Mo_byGuard 0 = .ok (.aload_n 0, 1) := by decide +kernel
theorem dd_Mo_byGuard_1 : decode cc_Mo_byGuard 1 = .ok (.iload_n 1, 1) := by decide +kernel
theorem dd_Mo_byGuard_2 : decode cc_Mo_byGuard 2 = .ok (.aload_n 0, 1) := by decide +kernel
theorem dd_Mo_byGuard_3 : decode cc_Mo_byGuard 3 = .ok (.getfield 30, 3) := by decide +kernel
theorem dd_Mo_byGuard_6 : decode cc_Mo_byGuard 6 = .ok (.iconst 3, 1) := by decide +kernel
theorem dd_Mo_byGuard_7 : decode cc_Mo_byGuard 7 = .ok (.iload_n 1, 1) := by decide +kernel
theorem dd_Mo_byGuard_8 : decode cc_Mo_byGuard 8 = .ok (.iadd, 1) := by decide +kernel
theorem dd_Mo_byGuard_9 : decode cc_Mo_byGuard 9 = .ok (.iaload, 1) := by decide +kernel
theorem dd_Mo_byGuard_10 : decode cc_Mo_byGuard 10 = .ok (.aload_n 2, 1) := by decide +kernel
theorem dd_Mo_byGuard_11 : decode cc_Mo_byGuard 11 = .ok (.iload_n 3, 1) := by decide +kernel
theorem dd_Mo_byGuard_12 : decode cc_Mo_byGuard 12 = .ok (.invokevirtual 143, 3) := by decide +kernel
theorem dd_Mo_byGuard_15 : decode cc_Mo_byGuard 15 = .ok (.ireturn, 1) := by decide +kernel
set_option maxRecDepth 100000 in
set_option maxHeartbeats 4000000 in
theorem ct_Mo_byGuard (l : Launch) (E : gf_E) (i k n : Int) (N : Nat) (μ : gf_M) (hg : gm_okg μ i) (hk : gf_is 81 k 1 0 N) (hn : 0 ≤ n ∧ n ≤ 9 ∧ n ≤ N) (hF : ∀ j : Int, 0 ≤ j → j < n → 0 ≤ μ k j ∧ μ k j ≤ 9)  : gf_Mi l E yy_Mo_byGuard cc_Mo_byGuard 4 .int (gf_rm 3 77) 81 gf_ref μ [.ref (gf_ad E 65), .int (gf_i i), .ref (gf_ad E k), .int (gf_i n)] (fun q μ' => (q = gm_rk μ i (μ k) n ∧ 0 ≤ q ∧ q ≤ 10) ∧ μ' = μ) := by
  refine gf_mi (by decide +kernel) (Nat.le_of_ble_eq_true rfl) (by decide) (fun X Q hlx C hQ => ?_)
  subst hlx
  replace C : gf_C X E cc_Mo_byGuard 4 "GuardFiguresModel" (gf_rm 3 77) := C
  show gf_G X E Q 4 gf_φ μ 0 [(0, .ref (gf_ad E 65)), (1, .int (gf_i i)), (2, .ref (gf_ad E k)), (3, .int (gf_i n))] []
  have hg0 := hg.1
  refine gf_aload_n C dd_Mo_byGuard_0 0 rfl ?_
  refine gf_iload_n C dd_Mo_byGuard_1 1 rfl ?_
  refine gf_aload_n C dd_Mo_byGuard_2 0 rfl ?_
  refine gf_getA (r := 71) C gf_cl7 fl_Mo_30 dd_Mo_byGuard_3 rfl (show gf_is 81 65 0 7 26 by decide) (by decide) (by decide) ?_
  refine gf_iconst C dd_Mo_byGuard_6 ?_
  refine gf_iload_n C dd_Mo_byGuard_7 1 rfl ?_
  refine gf_iadd C dd_Mo_byGuard_8 ?_
  refine gf_iald C dd_Mo_byGuard_9 (show gf_is 81 71 1 0 392 by decide) (by omega) (fun hv9 => ?_)
  refine gf_aload_n C dd_Mo_byGuard_10 2 rfl ?_
  refine gf_iload_n C dd_Mo_byGuard_11 3 rfl ?_
  refine gf_callVi (st := []) (As := [.int (gf_i i), .int (gf_i (μ 71 (3 + i))), .ref (gf_ad E k), .int (gf_i n)]) C wk_Mo_143 gf_cl7 (show gf_is 81 65 0 7 26 by decide) (ct_Mo_asKind (gf_xl X) E i (μ 71 (3 + i)) k n N μ (hg.2.1) (by omega) (hg.2.2.1) (hg.2.2.2) (hk) (by omega) (hF)) rfl ⟨rfl, rfl, rfl, rfl⟩ (Nat.le_of_ble_eq_true rfl) rfl dd_Mo_byGuard_12 (fun r12 m12 hR12 hp12 => ?_)
  have hr12 := hp12.1
  refine gf_pm hp12.2 ?_
  refine gf_iret C hQ dd_Mo_byGuard_15 (by omega) ?_
  exact ⟨hr12, rfl⟩

theorem dd_Mo_write_0 : decode cc_Mo_write 0 = .ok (.aload_n 0, 1) := by decide +kernel
theorem dd_Mo_write_1 : decode cc_Mo_write 1 = .ok (.aload_n 0, 1) := by decide +kernel
theorem dd_Mo_write_2 : decode cc_Mo_write 2 = .ok (.getfield 30, 3) := by decide +kernel
theorem dd_Mo_write_5 : decode cc_Mo_write 5 = .ok (.iconst 1, 1) := by decide +kernel
theorem dd_Mo_write_6 : decode cc_Mo_write 6 = .ok (.iaload, 1) := by decide +kernel
theorem dd_Mo_write_7 : decode cc_Mo_write 7 = .ok (.putfield 146, 3) := by decide +kernel
theorem dd_Mo_write_10 : decode cc_Mo_write 10 = .ok (.iconst 0, 1) := by decide +kernel
theorem dd_Mo_write_11 : decode cc_Mo_write 11 = .ok (.istore_n 1, 1) := by decide +kernel
theorem dd_Mo_write_12 : decode cc_Mo_write 12 = .ok (.iload_n 1, 1) := by decide +kernel
theorem dd_Mo_write_13 : decode cc_Mo_write 13 = .ok (.bipush 8, 2) := by decide +kernel
theorem dd_Mo_write_15 : decode cc_Mo_write 15 = .ok (.if_icmp .ge 24, 3) := by decide +kernel
theorem dd_Mo_write_18 : decode cc_Mo_write 18 = .ok (.aload_n 0, 1) := by decide +kernel
theorem dd_Mo_write_19 : decode cc_Mo_write 19 = .ok (.getfield 36, 3) := by decide +kernel
theorem dd_Mo_write_22 : decode cc_Mo_write 22 = .ok (.iload_n 1, 1) := by decide +kernel
theorem dd_Mo_write_23 : decode cc_Mo_write 23 = .ok (.aload_n 0, 1) := by decide +kernel
theorem dd_Mo_write_24 : decode cc_Mo_write 24 = .ok (.getfield 30, 3) := by decide +kernel
theorem dd_Mo_write_27 : decode cc_Mo_write 27 = .ok (.bipush 24, 2) := by decide +kernel
theorem dd_Mo_write_29 : decode cc_Mo_write 29 = .ok (.iload_n 1, 1) := by decide +kernel
theorem dd_Mo_write_30 : decode cc_Mo_write 30 = .ok (.iadd, 1) := by decide +kernel
theorem dd_Mo_write_31 : decode cc_Mo_write 31 = .ok (.iaload, 1) := by decide +kernel
theorem dd_Mo_write_32 : decode cc_Mo_write 32 = .ok (.iastore, 1) := by decide +kernel
theorem dd_Mo_write_33 : decode cc_Mo_write 33 = .ok (.iinc 1 1, 3) := by decide +kernel
theorem dd_Mo_write_36 : decode cc_Mo_write 36 = .ok (.goto (-24), 3) := by decide +kernel
theorem dd_Mo_write_39 : decode cc_Mo_write 39 = .ok (.return_, 1) := by decide +kernel
set_option maxRecDepth 100000 in
set_option maxHeartbeats 4000000 in
theorem ct_Mo_write (l : Launch) (E : gf_E) (μ : gf_M) (hn : 0 ≤ μ 71 1 ∧ μ 71 1 ≤ 8) : gf_Mv l E yy_Mo_write cc_Mo_write 2 (gf_rm 0 0) 81 gf_ref 0 0 81 gf_ref μ [.ref (gf_ad E 65)] (fun μ' => gm_wr μ μ') := by
  refine gf_mv (by decide +kernel) (Nat.le_of_ble_eq_true rfl) (by decide) (fun X Q hlx C hname hQ => ?_)
  subst hlx
  replace C : gf_C X E cc_Mo_write 2 "GuardFiguresModel" (gf_rm 0 0) := C
  show gf_G X E Q 2 gf_φ μ 0 [(0, .ref (gf_ad E 65))] []
  refine gf_aload_n C dd_Mo_write_0 0 rfl ?_
  refine gf_aload_n C dd_Mo_write_1 0 rfl ?_
  refine gf_getA (r := 71) C gf_cl7 fl_Mo_30 dd_Mo_write_2 rfl (show gf_is 81 65 0 7 26 by decide) (by decide) (by decide) ?_
  refine gf_iconst C dd_Mo_write_5 ?_
  refine gf_iald C dd_Mo_write_6 (show gf_is 81 71 1 0 392 by decide) (by omega) (fun hv6 => ?_)
  refine gf_putI (z := 15) C gf_cl7 fl_Mo_146 dd_Mo_write_7 rfl rfl rfl (by decide +kernel) (show gf_is 81 65 0 7 26 by decide) (by omega) ?_
  refine gf_nmM (fun m7 hm7 => ?_)
  refine gf_iconst C dd_Mo_write_10 ?_
  refine gf_istore_n (lv' := [(1, .int (gf_i 0)), (0, .ref (gf_ad E 65))]) C dd_Mo_write_11 (by decide) rfl ?_
  have L12_1 : ∀ (N : Nat) (k : Int) (m : gf_M) , (0 ≤ k ∧ k ≤ 8 ∧ m 65 15 = μ 71 1 ∧ (∀ j : Int, 0 ≤ j → j < k → m 73 j = μ 71 (24 + j)) ∧ ∀ a b : Int, ¬ (a = 65 ∧ b = 15) → a ≠ 73 → m a b = μ a b) → (8 - k).toNat < N → gf_G X E Q 2 gf_φ m 12 [(1, .int (gf_i k)), (0, .ref (gf_ad E 65))] [] := by
    intro N
    induction N with
    | zero => intro k m hinv hN; exact absurd hN (Nat.not_lt_zero _)
    | succ N ih12_1 =>
      intro k m hinv hN
      have hinv0 := hinv
      obtain ⟨hk0, hk1, hk2, hk3, hk4⟩ := hinv
      refine gf_iload_n C dd_Mo_write_12 0 rfl ?_
      refine gf_bipush C dd_Mo_write_13 (by decide +kernel) ?_
      refine gf_icmp_ge 39 C dd_Mo_write_15 (by decide) (by omega) (by omega) (fun h15 => ?_) (fun h15 => ?_)
      · skip
        refine gf_vret C hQ dd_Mo_write_39 ?_
        have ek : k = 8 := by omega
        rw [ek] at hk3
        exact ⟨hk2, hk3, hk4⟩
      · skip
        refine gf_aload_n C dd_Mo_write_18 1 rfl ?_
        refine gf_getA (r := 73) C gf_cl7 fl_Mo_36 dd_Mo_write_19 rfl (show gf_is 81 65 0 7 26 by decide) (by decide) (by decide) ?_
        refine gf_iload_n C dd_Mo_write_22 0 rfl ?_
        refine gf_aload_n C dd_Mo_write_23 1 rfl ?_
        refine gf_getA (r := 71) C gf_cl7 fl_Mo_30 dd_Mo_write_24 rfl (show gf_is 81 65 0 7 26 by decide) (by decide) (by decide) ?_
        refine gf_bipush C dd_Mo_write_27 (by decide +kernel) ?_
        refine gf_iload_n C dd_Mo_write_29 0 rfl ?_
        refine gf_iadd C dd_Mo_write_30 ?_
        refine gf_iald C dd_Mo_write_31 (show gf_is 81 71 1 0 392 by decide) (by omega) (fun hv31 => ?_)
        refine gf_iast C dd_Mo_write_32 (show gf_is 81 73 1 0 8 by decide) (by omega) (by omega) ?_
        refine gf_nmM (fun m32 hm32 => ?_)
        obtain ⟨x33, hx33⟩ : ∃ y : Int, y = k + 1 := ⟨_, rfl⟩
        refine gf_iinc (q := 0) (v := x33) (lv' := [(1, .int (gf_i x33)), (0, .ref (gf_ad E 65))]) C dd_Mo_write_33 rfl hx33 (by decide) rfl ?_
        refine gf_goto 12 C dd_Mo_write_36 (by decide) ?_
        refine gf_lsub [0, 1] rfl ?_
        exact ih12_1 x33 m32 (by
                refine ⟨by omega, by omega, by rw [hm32, gf_up_k (by decide)]; exact hk2, fun j h0 h1 => ?_, fun a b h1 h2 => by rw [hm32, gf_up_k h2]; exact hk4 a b h1 h2⟩
                rw [hm32]
                by_cases e : j = k
                · rw [e, gf_up_s]; exact hk4 71 _ (by omega) (by omega)
                · rw [gf_up_j e]; exact hk3 j h0 (by omega)) (by omega)
  refine gf_lsub [0, 1] rfl ?_
  exact L12_1 _ 0 m7 (⟨by omega, by omega, by rw [hm7]; exact gf_up_s, fun j h0 h1 => by omega, fun a b h1 h2 => by rw [hm7]; exact gf_up_o h1⟩) (Nat.lt_succ_self _)
