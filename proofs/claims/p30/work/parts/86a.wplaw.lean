def wp_L_cell (L : Nat) (xs : Nat → Int32) (p1 : Int32) (K : Int32 → Prop) : Prop :=
    ((nI L) ≤ p1 →
      K ((nI 747796405) * (p1 + (nI 3)))) ∧
    (¬ (nI L) ≤ p1 →
      vp_in p1 L ∧
      K (xs p1.toNatClampNeg))

def wp_L_low (p0 : Int32) (p1 : Int32) (K : Int32 → Prop) : Prop :=
    ¬ p1 = 0 ∧
    K ((p0 &&& (nI 2147483647)) - (p0 &&& (nI 2147483647)) / p1 * p1)

def wp_L_unary (p0 : Int32) (K : Int32 → Prop) : Prop :=
    wp_L_low p0 (nI 5) (fun r_1 =>
    (¬ r_1 = 0 →
      wp_L_low p0 (nI 5) (fun r_2 =>
      (¬ r_2 = (nI 1) →
        wp_L_low p0 (nI 5) (fun r_3 =>
        (¬ r_3 = (nI 2) →
          K (nI 0)) ∧
        (r_3 = (nI 2) →
          K (nI 63)))) ∧
      (r_2 = (nI 1) →
        K (nI 43)))) ∧
    (r_1 = 0 →
      K (nI 42)))

def wp_L_sign (n_a : Nat) (x : Nat → Int32) (p1 : Int32) (p2 : Int32) (K : Int32 → (Nat → Int32) → Prop) : Prop :=
    vp_in p1 n_a ∧
    ∀ x_1 : Nat → Int32, x_1 = upd x p1.toNatClampNeg p2 →
    K (p1 + (nI 1)) x_1

def lp_L_reads_88 (n_a : Nat) (z : Nat → Int32) (w : Nat → Int32) (q11 : Int32) (q12 : Int32) (E135 : (Nat → Int32) → Prop) : Nat → Int32 → (Nat → Int32) → Prop
  | 0, _, _ => False
  | n + 1, v13, x =>
    vp_in (nI 1) n_a ∧
    ((x (nI 1).toNatClampNeg) ≤ v13 →
      E135 x) ∧
    (¬ (x (nI 1).toNatClampNeg) ≤ v13 →
      vp_in ((nI 14) + v13) n_a ∧
      vp_in q11 17 ∧
      (¬ (((w q11.toNatClampNeg) >>> (v13 &&& 31)) &&& (nI 1)) = (nI 1) →
        ∀ t_43 : Int32, t_43 = (x ((nI 14) + v13).toNatClampNeg) ||| (nI 0) →
        vp_in ((nI 14) + v13) n_a ∧
        ∀ x_44 : Nat → Int32, x_44 = upd x ((nI 14) + v13).toNatClampNeg t_43 →
        ∀ v13_45 : Int32, v13_45 = v13 + (nI 1) →
        lp_L_reads_88 n_a z w q11 q12 E135 n v13_45 x_44) ∧
      ((((w q11.toNatClampNeg) >>> (v13 &&& 31)) &&& (nI 1)) = (nI 1) →
        vp_in q12 17 ∧
        ∀ t_46 : Int32, t_46 = (x ((nI 14) + v13).toNatClampNeg) ||| (z q12.toNatClampNeg) →
        vp_in ((nI 14) + v13) n_a ∧
        ∀ x_47 : Nat → Int32, x_47 = upd x ((nI 14) + v13).toNatClampNeg t_46 →
        ∀ v13_48 : Int32, v13_48 = v13 + (nI 1) →
        lp_L_reads_88 n_a z w q11 q12 E135 n v13_48 x_47))
def lp_L_reads_281 (n_a : Nat) (z : Nat → Int32) (w : Nat → Int32) (q7 : Int32) (q10 : Int32) (E339 : (Nat → Int32) → Prop) : Nat → Int32 → (Nat → Int32) → Prop
  | 0, _, _ => False
  | n + 1, v11, x =>
    vp_in (nI 1) n_a ∧
    ((x (nI 1).toNatClampNeg) ≤ v11 →
      E339 x) ∧
    (¬ (x (nI 1).toNatClampNeg) ≤ v11 →
      (q10 = (nI 63) →
        E339 x) ∧
      (¬ q10 = (nI 63) →
        vp_in ((nI 14) + v11) n_a ∧
        vp_in (q7 - (nI 1)) 17 ∧
        (¬ (((w (q7 - (nI 1)).toNatClampNeg) >>> (v11 &&& 31)) &&& (nI 1)) = (nI 1) →
          ∀ t_66 : Int32, t_66 = (x ((nI 14) + v11).toNatClampNeg) ||| (nI 0) →
          vp_in ((nI 14) + v11) n_a ∧
          ∀ x_67 : Nat → Int32, x_67 = upd x ((nI 14) + v11).toNatClampNeg t_66 →
          ∀ v11_68 : Int32, v11_68 = v11 + (nI 1) →
          lp_L_reads_281 n_a z w q7 q10 E339 n v11_68 x_67) ∧
        ((((w (q7 - (nI 1)).toNatClampNeg) >>> (v11 &&& 31)) &&& (nI 1)) = (nI 1) →
          vp_in (q7 - (nI 1)) 17 ∧
          ∀ t_69 : Int32, t_69 = (x ((nI 14) + v11).toNatClampNeg) ||| (z (q7 - (nI 1)).toNatClampNeg) →
          vp_in ((nI 14) + v11) n_a ∧
          ∀ x_70 : Nat → Int32, x_70 = upd x ((nI 14) + v11).toNatClampNeg t_69 →
          ∀ v11_71 : Int32, v11_71 = v11 + (nI 1) →
          lp_L_reads_281 n_a z w q7 q10 E339 n v11_71 x_70)))
def lp_L_reads_36 (n_a : Nat) (n_b : Nat) (y : Nat → Int32) (q2 : Int32) (q3 : Int32) (E400 : (Nat → Int32) → (Nat → Int32) → (Nat → Int32) → (Nat → Int32) → Prop) : Nat → Int32 → Int32 → Int32 → (Nat → Int32) → (Nat → Int32) → (Nat → Int32) → (Nat → Int32) → Prop
  | 0, _, _, _, _, _, _, _ => False
  | n + 1, v7, v8, v9, x, z, w, u =>
    (v9 < 0 →
      E400 x z w u) ∧
    (¬ v9 < 0 →
      vp_in (((nI 16) * q2) + v9) n_b ∧
      ∀ v10_17 : Int32, v10_17 = y (((nI 16) * q2) + v9).toNatClampNeg →
      ∀ J66_18 : Prop,
      (
        (∀ v11_19 : Int32, v11_19 = v7 - (nI 1) →
        ∀ v12_20 : Int32, v12_20 = v7 - (nI 2) →
        (¬ v10_17 = (nI 38) →
          vp_in v12_20 17 ∧
          vp_in v11_19 17 ∧
          ∀ t_21 : Int32, t_21 = (z v12_20.toNatClampNeg) ||| (z v11_19.toNatClampNeg) →
          vp_in v12_20 17 ∧
          ∀ z_22 : Nat → Int32, z_22 = upd z v12_20.toNatClampNeg t_21 →
          vp_in v12_20 17 ∧
          vp_in v11_19 17 ∧
          ∀ t_23 : Int32, t_23 = (w v12_20.toNatClampNeg) ||| (w v11_19.toNatClampNeg) →
          vp_in v12_20 17 ∧
          ∀ w_24 : Nat → Int32, w_24 = upd w v12_20.toNatClampNeg t_23 →
          vp_in v12_20 17 ∧
          vp_in v11_19 17 ∧
          ∀ t_25 : Int32, t_25 = (u v12_20.toNatClampNeg) ||| (u v11_19.toNatClampNeg) →
          vp_in v12_20 17 ∧
          ∀ u_26 : Nat → Int32, u_26 = upd u v12_20.toNatClampNeg t_25 →
          ∀ v7_27 : Int32, v7_27 = v7 + (-1) →
          ∀ v9_28 : Int32, v9_28 = v9 + (-1) →
          lp_L_reads_36 n_a n_b y q2 q3 E400 n v7_27 v8 v9_28 x z_22 w_24 u_26) ∧
        (v10_17 = (nI 38) →
          ∀ E135_30 : (Nat → Int32) → Prop,
          (∀ (x_29 : Nat → Int32), 
            (vp_in v11_19 17 ∧
            vp_in v11_19 17 ∧
            ∀ J162_32 : Int32 → Prop,
            (∀ (s3_31 : Int32), 
              (∀ t_33 : Int32, t_33 = (z v11_19.toNatClampNeg) ||| s3_31 →
              vp_in v12_20 17 ∧
              ∀ z_34 : Nat → Int32, z_34 = upd z v12_20.toNatClampNeg t_33 →
              vp_in v12_20 17 ∧
              vp_in v12_20 17 ∧
              ∀ J191_36 : Int32 → Prop,
              (∀ (s3_35 : Int32), 
                (∀ t_37 : Int32, t_37 = (w v12_20.toNatClampNeg) ||| s3_35 →
                vp_in v12_20 17 ∧
                ∀ w_38 : Nat → Int32, w_38 = upd w v12_20.toNatClampNeg t_37 →
                vp_in v11_19 17 ∧
                vp_in v12_20 17 ∧
                ∀ t_39 : Int32, t_39 = (u v11_19.toNatClampNeg) * (u v12_20.toNatClampNeg) →
                vp_in v12_20 17 ∧
                ∀ u_40 : Nat → Int32, u_40 = upd u v12_20.toNatClampNeg t_39 →
                ∀ v7_41 : Int32, v7_41 = v7 + (-1) →
                ∀ v9_42 : Int32, v9_42 = v9 + (-1) →
                lp_L_reads_36 n_a n_b y q2 q3 E400 n v7_41 v8 v9_42 x_29 z_34 w_38 u_40) →
               J191_36 s3_35) →
              (¬ (u v12_20.toNatClampNeg) = (nI 1) →
                  J191_36 (nI 0)) ∧
                ((u v12_20.toNatClampNeg) = (nI 1) →
                  vp_in v11_19 17 ∧
                  J191_36 (w v11_19.toNatClampNeg))) →
             J162_32 s3_31) →
            (¬ (u v11_19.toNatClampNeg) = (nI 1) →
                J162_32 (nI 0)) ∧
              ((u v11_19.toNatClampNeg) = (nI 1) →
                vp_in v12_20 17 ∧
                J162_32 (z v12_20.toNatClampNeg))) →
           E135_30 x_29) →
          ∃ n : Nat, lp_L_reads_88 n_a z w v11_19 v12_20 E135_30 n q3 x)) →
       J66_18) →
      (v10_17 = (nI 38) →
          J66_18) ∧
        (¬ v10_17 = (nI 38) →
          (¬ v10_17 = (nI 124) →
            ∀ J278_57 : Prop,
            (
              (∀ E339_59 : (Nat → Int32) → Prop,
              (∀ (x_58 : Nat → Int32), 
                (vp_in (v7 - (nI 1)) 17 ∧
                (¬ v10_17 = (nI 43) →
                  ∀ t_60 : Int32, t_60 = (u (v7 - (nI 1)).toNatClampNeg) ||| (nI 1) →
                  vp_in (v7 - (nI 1)) 17 ∧
                  ∀ u_61 : Nat → Int32, u_61 = upd u (v7 - (nI 1)).toNatClampNeg t_60 →
                  ∀ v9_62 : Int32, v9_62 = v9 + (-1) →
                  lp_L_reads_36 n_a n_b y q2 q3 E400 n v7 v8 v9_62 x_58 z w u_61) ∧
                (v10_17 = (nI 43) →
                  ∀ t_63 : Int32, t_63 = (u (v7 - (nI 1)).toNatClampNeg) ||| (nI 0) →
                  vp_in (v7 - (nI 1)) 17 ∧
                  ∀ u_64 : Nat → Int32, u_64 = upd u (v7 - (nI 1)).toNatClampNeg t_63 →
                  ∀ v9_65 : Int32, v9_65 = v9 + (-1) →
                  lp_L_reads_36 n_a n_b y q2 q3 E400 n v7 v8 v9_65 x_58 z w u_64)) →
               E339_59 x_58) →
              ∃ n : Nat, lp_L_reads_281 n_a z w v7 v10_17 E339_59 n q3 x) →
             J278_57) →
            (v10_17 = (nI 42) →
                J278_57) ∧
              (¬ v10_17 = (nI 42) →
                (v10_17 = (nI 43) →
                  J278_57) ∧
                (¬ v10_17 = (nI 43) →
                  (¬ v10_17 = (nI 63) →
                    ∀ v8_80 : Int32, v8_80 = v8 + (-1) →
                    ∀ t_81 : Int32, t_81 = (nI 1) <<< (v8_80 &&& 31) →
                    vp_in v7 17 ∧
                    ∀ z_82 : Nat → Int32, z_82 = upd z v7.toNatClampNeg t_81 →
                    ∀ t_83 : Int32, t_83 = (nI 1) <<< (v8_80 &&& 31) →
                    vp_in v7 17 ∧
                    ∀ w_84 : Nat → Int32, w_84 = upd w v7.toNatClampNeg t_83 →
                    vp_in v7 17 ∧
                    ∀ u_85 : Nat → Int32, u_85 = upd u v7.toNatClampNeg (nI 0) →
                    ∀ v7_86 : Int32, v7_86 = v7 + (nI 1) →
                    ∀ v9_87 : Int32, v9_87 = v9 + (-1) →
                    lp_L_reads_36 n_a n_b y q2 q3 E400 n v7_86 v8_80 v9_87 x z_82 w_84 u_85) ∧
                  (v10_17 = (nI 63) →
                    J278_57)))) ∧
          (v10_17 = (nI 124) →
            J66_18)))
def wp_L_reads (n_a : Nat) (n_b : Nat) (x : Nat → Int32) (y : Nat → Int32) (p2 : Int32) (p3 : Int32) (K : (Nat → Int32) → Prop) : Prop :=
    vp_in (nI 1) n_a ∧
    ∀ v8_4 : Int32, v8_4 = x (nI 1).toNatClampNeg →
    vp_in ((nI 34) + p2) n_a ∧
    ∀ v9_5 : Int32, v9_5 = (x ((nI 34) + p2).toNatClampNeg) - (nI 1) →
    ∀ E400_10 : (Nat → Int32) → (Nat → Int32) → (Nat → Int32) → (Nat → Int32) → Prop,
    (∀ (x_6 : Nat → Int32) (z_7 : Nat → Int32) (w_8 : Nat → Int32) (u_9 : Nat → Int32), 
      (vp_in (nI 0) 17 ∧
      ∀ t_11 : Int32, t_11 = z_7 (nI 0).toNatClampNeg →
      vp_in ((nI 2) + p2) n_a ∧
      ∀ x_12 : Nat → Int32, x_12 = upd x_6 ((nI 2) + p2).toNatClampNeg t_11 →
      vp_in (nI 0) 17 ∧
      ∀ t_13 : Int32, t_13 = w_8 (nI 0).toNatClampNeg →
      vp_in ((nI 6) + p2) n_a ∧
      ∀ x_14 : Nat → Int32, x_14 = upd x_12 ((nI 6) + p2).toNatClampNeg t_13 →
      vp_in (nI 1) n_a ∧
      ∀ t_15 : Int32, t_15 = ((nI 1) <<< ((x_14 (nI 1).toNatClampNeg) &&& 31)) - ((nI 1) <<< (p3 &&& 31)) →
      vp_in ((nI 10) + p2) n_a ∧
      ∀ x_16 : Nat → Int32, x_16 = upd x_14 ((nI 10) + p2).toNatClampNeg t_15 →
      K x_16) →
     E400_10 x_6 z_7 w_8 u_9) →
    ∃ n : Nat, lp_L_reads_36 n_a n_b y p2 p3 E400_10 n (nI 0) v8_4 v9_5 x ((fun _ => 0)) ((fun _ => 0)) ((fun _ => 0))

def lp_L_draws_592 (L : Nat) (xs : Nat → Int32) (n_c : Nat) (E639 : (Nat → Int32) → Prop) : Nat → Int32 → (Nat → Int32) → Prop
  | 0, _, _ => False
  | n + 1, v5, z =>
    vp_in (nI 30) n_c ∧
    ((z (nI 30).toNatClampNeg) ≤ v5 →
      E639 z) ∧
    (¬ (z (nI 30).toNatClampNeg) ≤ v5 →
      wp_L_cell L xs ((nI 8) + (v5 / (nI 6))) (fun r_22 =>
      wp_L_low (r_22 >>> (((nI 5) * (v5 - v5 / (nI 6) * (nI 6))) &&& 31)) (nI 26) (fun r_23 =>
      vp_in ((nI 31) + v5) n_c ∧
      ∀ z_24 : Nat → Int32, z_24 = upd z ((nI 31) + v5).toNatClampNeg r_23 →
      ∀ v5_25 : Int32, v5_25 = v5 + (nI 1) →
      lp_L_draws_592 L xs n_c E639 n v5_25 z_24)))
def lp_L_draws_496 (L : Nat) (xs : Nat → Int32) (n_c : Nat) (E558 : (Nat → Int32) → Prop) : Nat → Int32 → (Nat → Int32) → Prop
  | 0, _, _ => False
  | n + 1, v5, z =>
    ((nI 26) ≤ v5 →
      E558 z) ∧
    (¬ (nI 26) ≤ v5 →
      wp_L_cell L xs (nI 7) (fun r_32 =>
      wp_L_low ((nI 3) * v5) (nI 29) (fun r_33 =>
      ∀ v6_34 : Int32, v6_34 = r_32 >>> (r_33 &&& 31) →
      wp_L_low v6_34 (nI 6) (fun r_35 =>
      ((nI 4) ≤ r_35 →
        wp_L_low v6_34 (nI 6) (fun r_36 =>
        vp_in v5 n_c ∧
        ∀ z_37 : Nat → Int32, z_37 = upd z v5.toNatClampNeg r_36 →
        ∀ v5_38 : Int32, v5_38 = v5 + (nI 1) →
        lp_L_draws_496 L xs n_c E558 n v5_38 z_37)) ∧
      (¬ (nI 4) ≤ r_35 →
        wp_L_low v6_34 (nI 3) (fun r_39 =>
        vp_in v5 n_c ∧
        ∀ z_40 : Nat → Int32, z_40 = upd z v5.toNatClampNeg r_39 →
        ∀ v5_41 : Int32, v5_41 = v5 + (nI 1) →
        lp_L_draws_496 L xs n_c E558 n v5_41 z_40))))))
def lp_L_draws_141 (n_a : Nat) (n_b : Nat) (q5 : Int32) (q6 : Int32) (q7 : Int32) (q8 : Int32) (E449 : Int32 → (Nat → Int32) → (Nat → Int32) → (Nat → Int32) → Prop) : Nat → Int32 → Int32 → (Nat → Int32) → (Nat → Int32) → (Nat → Int32) → Prop
  | 0, _, _, _, _, _ => False
  | n + 1, v10, v12, x, y, w =>
    (q8 ≤ v12 →
      E449 v10 x y w) ∧
    (¬ q8 ≤ v12 →
      ∀ v13_72 : Int32, v13_72 = q7 >>> (((nI 9) * v12) &&& 31) →
      ∀ J280_76 : Int32 → (Nat → Int32) → (Nat → Int32) → Prop,
      (∀ (v10_73 : Int32) (y_74 : Nat → Int32) (w_75 : Nat → Int32), 
        (wp_L_unary v13_72 (fun r_77 =>
        ∀ J317_80 : Int32 → (Nat → Int32) → Prop,
        (∀ (s0_78 : Int32) (y_79 : Nat → Int32), 
          (wp_L_low (v13_72 >>> ((nI 3) &&& 31)) (nI 9) (fun r_81 =>
          ∀ J361_83 : Int32 → Prop,
          (∀ (s0_82 : Int32), 
            (wp_L_low (q6 >>> (((nI 16) + ((nI 2) * v12)) &&& 31)) (nI 7) (fun r_84 =>
            ∀ J387_86 : Int32 → Prop,
            (∀ (s0_85 : Int32), 
              (vp_in (nI 1) n_a ∧
              vp_in ((nI 24) + (x (nI 1).toNatClampNeg)) n_a ∧
              ∀ x_87 : Nat → Int32, x_87 = upd x ((nI 24) + (x (nI 1).toNatClampNeg)).toNatClampNeg s0_85 →
              vp_in (nI 1) n_a ∧
              ∀ t_88 : Int32, t_88 = (x_87 (nI 1).toNatClampNeg) + (nI 1) →
              vp_in (nI 1) n_a ∧
              ∀ x_89 : Nat → Int32, x_89 = upd x_87 (nI 1).toNatClampNeg t_88 →
              ∀ J432_91 : Int32 → Prop,
              (∀ (s2_90 : Int32), 
                (wp_L_sign n_b y_79 (((nI 16) * q5) + s0_78) s2_90 (fun r_93 y_92 =>
                ∀ v10_94 : Int32, v10_94 = r_93 - ((nI 16) * q5) →
                ∀ v12_95 : Int32, v12_95 = v12 + (nI 1) →
                lp_L_draws_141 n_a n_b q5 q6 q7 q8 E449 n v10_94 v12_95 x_89 y_92 w_75)) →
               J432_91 s2_90) →
              (¬ s0_85 = (nI 6) →
                  J432_91 ((nI 48) + s0_85)) ∧
                (s0_85 = (nI 6) →
                  J432_91 (nI 46))) →
             J387_86 s0_85) →
            (¬ r_84 = 0 →
                J387_86 s0_82) ∧
              (r_84 = 0 →
                J387_86 (nI 5)))) →
           J361_83 s0_82) →
          (¬ r_81 = 0 →
              wp_L_low (v13_72 >>> ((nI 7) &&& 31)) (nI 4) (fun r_96 =>
              ∀ J358_98 : Int32 → Prop,
              (∀ (s1_97 : Int32), 
                (wp_L_low (v13_72 >>> ((nI 3) &&& 31)) s1_97 (fun r_99 =>
                J361_83 r_99)) →
               J358_98 s1_97) →
              (¬ r_96 = 0 →
                  J358_98 (nI 3)) ∧
                (r_96 = 0 →
                  J358_98 (nI 6)))) ∧
            (r_81 = 0 →
              J361_83 (nI 6)))) →
         J317_80 s0_78 y_79) →
        (¬ r_77 = 0 →
            wp_L_sign n_b y_74 (((nI 16) * q5) + v10_73) r_77 (fun r_101 y_100 =>
            J317_80 (r_101 - ((nI 16) * q5)) y_100)) ∧
          (r_77 = 0 →
            J317_80 v10_73 y_74))) →
       J280_76 v10_73 y_74 w_75) →
      ((q8 - (nI 1)) ≤ v12 →
          J280_76 v10 y w) ∧
        (¬ (q8 - (nI 1)) ≤ v12 →
          wp_L_low (q6 >>> (((nI 9) + ((nI 2) * v12)) &&& 31)) (nI 3) (fun r_102 =>
          ∀ J195_104 : Int32 → Prop,
          (∀ (s2_103 : Int32), 
            (vp_in v12 4 ∧
            ∀ w_105 : Nat → Int32, w_105 = upd w v12.toNatClampNeg s2_103 →
            wp_L_low (q6 >>> (((nI 5) + v12) &&& 31)) (nI 4) (fun r_106 =>
            ∀ J221_108 : Int32 → Prop,
            (∀ (s0_107 : Int32), 
              (∀ J253_111 : Int32 → (Nat → Int32) → Prop,
              (∀ (s0_109 : Int32) (y_110 : Nat → Int32), 
                (vp_in v12 4 ∧
                wp_L_sign n_b y_110 (((nI 16) * q5) + s0_109) (w_105 v12.toNatClampNeg) (fun r_113 y_112 =>
                ∀ v10_114 : Int32, v10_114 = r_113 - ((nI 16) * q5) →
                J280_76 v10_114 y_112 w_105)) →
               J253_111 s0_109 y_110) →
              (¬ s0_107 = 0 →
                  wp_L_sign n_b y (((nI 16) * q5) + v10) s0_107 (fun r_116 y_115 =>
                  J253_111 (r_116 - ((nI 16) * q5)) y_115)) ∧
                (s0_107 = 0 →
                  J253_111 v10 y)) →
             J221_108 s0_107) →
            (¬ r_106 = 0 →
                J221_108 (nI 0)) ∧
              (r_106 = 0 →
                wp_L_unary (v13_72 >>> ((nI 5) &&& 31)) (fun r_117 =>
                J221_108 r_117)))) →
           J195_104 s2_103) →
          (¬ r_102 = 0 →
              J195_104 (nI 38)) ∧
            (r_102 = 0 →
              J195_104 (nI 124)))))
def lp_L_draws_63 (L : Nat) (xs : Nat → Int32) (n_a : Nat) (n_b : Nat) (n_c : Nat) (q4 : Int32) (E493 : (Nat → Int32) → (Nat → Int32) → (Nat → Int32) → Prop) : Nat → Int32 → (Nat → Int32) → (Nat → Int32) → (Nat → Int32) → Prop
  | 0, _, _, _, _ => False
  | n + 1, v5, x, y, z =>
    vp_in (nI 0) n_a ∧
    ((x (nI 0).toNatClampNeg) ≤ v5 →
      E493 x y z) ∧
    (¬ (x (nI 0).toNatClampNeg) ≤ v5 →
      wp_L_cell L xs ((nI 1) + ((nI 2) * v5)) (fun r_54 =>
      wp_L_cell L xs ((nI 2) + ((nI 2) * v5)) (fun r_55 =>
      ∀ J119_57 : Int32 → Prop,
      (∀ (s2_56 : Int32), 
        (wp_L_low r_54 s2_56 (fun r_58 =>
        ∀ v8_59 : Int32, v8_59 = (nI 1) + r_58 →
        vp_in (nI 1) n_a ∧
        ∀ v9_60 : Int32, v9_60 = x (nI 1).toNatClampNeg →
        ∀ E449_66 : Int32 → (Nat → Int32) → (Nat → Int32) → (Nat → Int32) → Prop,
        (∀ (v10_62 : Int32) (x_63 : Nat → Int32) (y_64 : Nat → Int32) (w_65 : Nat → Int32), 
          (vp_in ((nI 34) + v5) n_a ∧
          ∀ x_67 : Nat → Int32, x_67 = upd x_63 ((nI 34) + v5).toNatClampNeg v10_62 →
          wp_L_reads n_a n_b x_67 y_64 v5 v9_60 (fun x_68 =>
          wp_L_low (q4 >>> (((nI 3) + ((nI 2) * v5)) &&& 31)) (nI 4) (fun r_69 =>
          vp_in ((nI 26) + v5) n_c ∧
          ∀ z_70 : Nat → Int32, z_70 = upd z ((nI 26) + v5).toNatClampNeg r_69 →
          ∀ v5_71 : Int32, v5_71 = v5 + (nI 1) →
          lp_L_draws_63 L xs n_a n_b n_c q4 E493 n v5_71 x_68 y_64 z_70))) →
         E449_66 v10_62 x_63 y_64 w_65) →
        ∃ n : Nat, lp_L_draws_141 n_a n_b v5 r_54 r_55 v8_59 E449_66 n (nI 0) (nI 0) x y ((fun _ => 0)))) →
       J119_57 s2_56) →
      (¬ v5 = (nI 2) →
          (¬ v5 = (nI 1) →
            J119_57 (nI 3)) ∧
          (v5 = (nI 1) →
            J119_57 (nI 2))) ∧
        (v5 = (nI 2) →
          J119_57 (nI 1)))))
def lp_L_draws_31 (n_c : Nat) (E49 : (Nat → Int32) → Prop) : Nat → Int32 → (Nat → Int32) → Prop
  | 0, _, _ => False
  | n + 1, v5, z =>
    ((nI 61) ≤ v5 →
      E49 z) ∧
    (¬ (nI 61) ≤ v5 →
      vp_in v5 n_c ∧
      ∀ z_244 : Nat → Int32, z_244 = upd z v5.toNatClampNeg (nI 0) →
      ∀ v5_245 : Int32, v5_245 = v5 + (nI 1) →
      lp_L_draws_31 n_c E49 n v5_245 z_244)
def lp_L_draws_10 (n_a : Nat) (E28 : (Nat → Int32) → Prop) : Nat → Int32 → (Nat → Int32) → Prop
  | 0, _, _ => False
  | n + 1, v5, x =>
    ((nI 38) ≤ v5 →
      E28 x) ∧
    (¬ (nI 38) ≤ v5 →
      vp_in v5 n_a ∧
      ∀ x_250 : Nat → Int32, x_250 = upd x v5.toNatClampNeg (nI 0) →
      ∀ v5_251 : Int32, v5_251 = v5 + (nI 1) →
      lp_L_draws_10 n_a E28 n v5_251 x_250)
def wp_L_draws (L : Nat) (xs : Nat → Int32) (n_a : Nat) (n_b : Nat) (n_c : Nat) (x : Nat → Int32) (y : Nat → Int32) (z : Nat → Int32) (K : (Nat → Int32) → (Nat → Int32) → (Nat → Int32) → Prop) : Prop :=
    wp_L_cell L xs (nI 0) (fun r_1 =>
    ∀ E28_3 : (Nat → Int32) → Prop,
    (∀ (x_2 : Nat → Int32), 
      (∀ E49_5 : (Nat → Int32) → Prop,
      (∀ (z_4 : Nat → Int32), 
        (wp_L_low r_1 (nI 3) (fun r_6 =>
        ∀ t_7 : Int32, t_7 = (nI 1) + r_6 →
        vp_in (nI 0) n_a ∧
        ∀ x_8 : Nat → Int32, x_8 = upd x_2 (nI 0).toNatClampNeg t_7 →
        ∀ E493_12 : (Nat → Int32) → (Nat → Int32) → (Nat → Int32) → Prop,
        (∀ (x_9 : Nat → Int32) (y_10 : Nat → Int32) (z_11 : Nat → Int32), 
          (∀ E558_14 : (Nat → Int32) → Prop,
          (∀ (z_13 : Nat → Int32), 
            (wp_L_low (r_1 >>> ((nI 14) &&& 31)) (nI 5) (fun r_15 =>
            ∀ J585_17 : Int32 → Prop,
            (∀ (s3_16 : Int32), 
              (wp_L_low (r_1 >>> ((nI 9) &&& 31)) s3_16 (fun r_18 =>
              vp_in (nI 30) n_c ∧
              ∀ z_19 : Nat → Int32, z_19 = upd z_13 (nI 30).toNatClampNeg r_18 →
              ∀ E639_21 : (Nat → Int32) → Prop,
              (∀ (z_20 : Nat → Int32), 
                (K x_9 y_10 z_20) →
               E639_21 z_20) →
              ∃ n : Nat, lp_L_draws_592 L xs n_c E639_21 n (nI 0) z_19)) →
             J585_17 s3_16) →
            (¬ r_15 = 0 →
                J585_17 (nI 13)) ∧
              (r_15 = 0 →
                J585_17 (nI 31)))) →
           E558_14 z_13) →
          ∃ n : Nat, lp_L_draws_496 L xs n_c E558_14 n (nI 0) z_11) →
         E493_12 x_9 y_10 z_11) →
        ∃ n : Nat, n ≤ 4 ∧ lp_L_draws_63 L xs n_a n_b n_c r_1 E493_12 n (nI 0) x_8 y z_4)) →
       E49_5 z_4) →
      ∃ n : Nat, lp_L_draws_31 n_c E49_5 n (nI 0) z) →
     E28_3 x_2) →
    ∃ n : Nat, lp_L_draws_10 n_a E28_3 n (nI 0) x)

def lp_L_lays_219 (n_d : Nat) (w : Nat → Int32) (E250 : Int32 → (Nat → Int32) → Prop) : Nat → Int32 → Int32 → (Nat → Int32) → Prop
  | 0, _, _, _ => False
  | n + 1, v5, x_text_length, x_text_signs =>
    vp_in (nI 30) n_d ∧
    ((w (nI 30).toNatClampNeg) ≤ v5 →
      E250 x_text_length x_text_signs) ∧
    (¬ (w (nI 30).toNatClampNeg) ≤ v5 →
      vp_in ((nI 31) + v5) n_d ∧
      wp_X9_write x_text_length x_text_signs ((nI 97) + (w ((nI 31) + v5).toNatClampNeg)) (fun r_48 x_text_length_46 x_text_signs_47 =>
      ∀ v5_49 : Int32, v5_49 = v5 + (nI 1) →
      lp_L_lays_219 n_d w E250 n v5_49 x_text_length_46 x_text_signs_47))
def lp_L_lays_160 (n_b : Nat) (n_c : Nat) (y : Nat → Int32) (z : Nat → Int32) (q5 : Int32) (E194 : Int32 → (Nat → Int32) → Prop) : Nat → Int32 → Int32 → (Nat → Int32) → Prop
  | 0, _, _, _ => False
  | n + 1, v6, x_text_length, x_text_signs =>
    vp_in ((nI 34) + q5) n_b ∧
    ((y ((nI 34) + q5).toNatClampNeg) ≤ v6 →
      E194 x_text_length x_text_signs) ∧
    (¬ (y ((nI 34) + q5).toNatClampNeg) ≤ v6 →
      vp_in (((nI 16) * q5) + v6) n_c ∧
      wp_X9_write x_text_length x_text_signs (z (((nI 16) * q5) + v6).toNatClampNeg) (fun r_75 x_text_length_73 x_text_signs_74 =>
      ∀ v6_76 : Int32, v6_76 = v6 + (nI 1) →
      lp_L_lays_160 n_b n_c y z q5 E194 n v6_76 x_text_length_73 x_text_signs_74))
def lp_L_lays_117 (n_b : Nat) (n_c : Nat) (n_d : Nat) (y : Nat → Int32) (z : Nat → Int32) (w : Nat → Int32) (E208 : Int32 → (Nat → Int32) → Prop) : Nat → Int32 → Int32 → (Nat → Int32) → Prop
  | 0, _, _, _ => False
  | n + 1, v5, x_text_length, x_text_signs =>
    vp_in (nI 0) n_b ∧
    ((y (nI 0).toNatClampNeg) ≤ v5 →
      E208 x_text_length x_text_signs) ∧
    (¬ (y (nI 0).toNatClampNeg) ≤ v5 →
      wp_X9_write x_text_length x_text_signs (nI 114) (fun r_59 x_text_length_57 x_text_signs_58 =>
      vp_in ((nI 26) + v5) n_d ∧
      wp_X9_write x_text_length_57 x_text_signs_58 ((nI 48) + (w ((nI 26) + v5).toNatClampNeg)) (fun r_62 x_text_length_60 x_text_signs_61 =>
      wp_X9_write x_text_length_60 x_text_signs_61 (nI 44) (fun r_65 x_text_length_63 x_text_signs_64 =>
      ∀ E194_68 : Int32 → (Nat → Int32) → Prop,
      (∀ (x_text_length_66 : Int32) (x_text_signs_67 : Nat → Int32), 
        (wp_X9_write x_text_length_66 x_text_signs_67 (nI 59) (fun r_71 x_text_length_69 x_text_signs_70 =>
        ∀ v5_72 : Int32, v5_72 = v5 + (nI 1) →
        lp_L_lays_117 n_b n_c n_d y z w E208 n v5_72 x_text_length_69 x_text_signs_70)) →
       E194_68 x_text_length_66 x_text_signs_67) →
      ∃ n : Nat, lp_L_lays_160 n_b n_c y z v5 E194_68 n (nI 0) x_text_length_63 x_text_signs_64))))
def lp_L_lays_22 (n_d : Nat) (w : Nat → Int32) (q5 : Int32) (E90 : Int32 → Int32 → Int32 → (Nat → Int32) → Prop) : Nat → Int32 → Int32 → Int32 → Int32 → (Nat → Int32) → Prop
  | 0, _, _, _, _, _ => False
  | n + 1, v4, v6, v7, x_text_length, x_text_signs =>
    ((nI 26) ≤ v7 →
      E90 v4 v6 x_text_length x_text_signs) ∧
    (¬ (nI 26) ≤ v7 →
      vp_in v7 n_d ∧
      (¬ (w v7.toNatClampNeg) = q5 →
        ∀ v7_120 : Int32, v7_120 = v7 + (nI 1) →
        lp_L_lays_22 n_d w q5 E90 n v4 v6 v7_120 x_text_length x_text_signs) ∧
      ((w v7.toNatClampNeg) = q5 →
        ∀ J70_123 : Int32 → (Nat → Int32) → Prop,
        (∀ (x_text_length_121 : Int32) (x_text_signs_122 : Nat → Int32), 
          (wp_X9_write x_text_length_121 x_text_signs_122 ((nI 97) + v7) (fun r_126 x_text_length_124 x_text_signs_125 =>
          ∀ v7_127 : Int32, v7_127 = v7 + (nI 1) →
          lp_L_lays_22 n_d w q5 E90 n r_126 (nI 1) v7_127 x_text_length_124 x_text_signs_125)) →
         J70_123 x_text_length_121 x_text_signs_122) →
        (¬ v6 = 0 →
            J70_123 x_text_length x_text_signs) ∧
          (v6 = 0 →
            wp_X9_write x_text_length x_text_signs (nI 99) (fun r_130 x_text_length_128 x_text_signs_129 =>
            wp_X9_write x_text_length_128 x_text_signs_129 ((nI 48) + q5) (fun r_133 x_text_length_131 x_text_signs_132 =>
            wp_X9_write x_text_length_131 x_text_signs_132 (nI 44) (fun r_136 x_text_length_134 x_text_signs_135 =>
            J70_123 x_text_length_134 x_text_signs_135))))))
def lp_L_lays_9 (n_d : Nat) (w : Nat → Int32) (E114 : Int32 → (Nat → Int32) → Prop) : Nat → Int32 → Int32 → Int32 → (Nat → Int32) → Prop
  | 0, _, _, _, _ => False
  | n + 1, v4, v5, x_text_length, x_text_signs =>
    ((nI 6) ≤ v5 →
      E114 x_text_length x_text_signs) ∧
    (¬ (nI 6) ≤ v5 →
      ∀ E90_114 : Int32 → Int32 → Int32 → (Nat → Int32) → Prop,
      (∀ (v4_110 : Int32) (v6_111 : Int32) (x_text_length_112 : Int32) (x_text_signs_113 : Nat → Int32), 
        ((v6_111 = 0 →
          ∀ v5_115 : Int32, v5_115 = v5 + (nI 1) →
          lp_L_lays_9 n_d w E114 n v4_110 v5_115 x_text_length_112 x_text_signs_113) ∧
        (¬ v6_111 = 0 →
          wp_X9_write x_text_length_112 x_text_signs_113 (nI 59) (fun r_118 x_text_length_116 x_text_signs_117 =>
          ∀ v5_119 : Int32, v5_119 = v5 + (nI 1) →
          lp_L_lays_9 n_d w E114 n r_118 v5_119 x_text_length_116 x_text_signs_117))) →
       E90_114 v4_110 v6_111 x_text_length_112 x_text_signs_113) →
      ∃ n : Nat, lp_L_lays_22 n_d w v5 E90_114 n v4 (nI 0) (nI 0) x_text_length x_text_signs)
def wp_L_lays (n_b : Nat) (n_c : Nat) (n_d : Nat) (x_keptNumber : Int32) (x_text_length : Int32) (x_text_rulesSeen : Int32) (x_text_placesSeen : Int32) (x_text_signs : Nat → Int32) (x_rules_number : Int32) (x_rules_placeNumber : Int32) (x_rules_places : Nat → Int32) (x_rules_firsts : Nat → Int32) (x_rules_wholes : Nat → Int32) (x_rules_taken : Nat → Int32) (x_rules_behinds : Nat → Int32) (x_rules_parts_height : Int32) (x_rules_parts_firsts : Nat → Int32) (x_rules_parts_lasts : Nat → Int32) (x_rules_parts_lacking : Nat → Int32) (x_now_length : Int32) (x_now_classes : Nat → Int32) (x_now_kinds : Nat → Int32) (x_now_line : Nat → Int32) (x_acts_number : Int32) (x_steps_firsts : Int32) (x_steps_loose : Int32) (x_steps_onward : Nat → Int32) (x_steps_takers : Nat → Int32) (x_pieces_length : Int32) (x_pieces_bounds : Int32) (x_pieces_stands : Nat → Int32) (x_ways_areFound : Int32) (y : Nat → Int32) (z : Nat → Int32) (w : Nat → Int32) (K : Int32 → Int32 → Int32 → Int32 → Int32 → (Nat → Int32) → Int32 → Int32 → (Nat → Int32) → (Nat → Int32) → (Nat → Int32) → (Nat → Int32) → (Nat → Int32) → Int32 → (Nat → Int32) → (Nat → Int32) → (Nat → Int32) → Int32 → (Nat → Int32) → (Nat → Int32) → (Nat → Int32) → Int32 → Int32 → Int32 → (Nat → Int32) → (Nat → Int32) → Int32 → Int32 → (Nat → Int32) → Int32 → Prop) : Prop :=
    wp_X9_wipe x_text_length (fun r_2 x_text_length_1 =>
    ∀ E114_5 : Int32 → (Nat → Int32) → Prop,
    (∀ (x_text_length_3 : Int32) (x_text_signs_4 : Nat → Int32), 
      (∀ E208_8 : Int32 → (Nat → Int32) → Prop,
      (∀ (x_text_length_6 : Int32) (x_text_signs_7 : Nat → Int32), 
        (wp_X9_write x_text_length_6 x_text_signs_7 (nI 115) (fun r_11 x_text_length_9 x_text_signs_10 =>
        ∀ E250_14 : Int32 → (Nat → Int32) → Prop,
        (∀ (x_text_length_12 : Int32) (x_text_signs_13 : Nat → Int32), 
          (wp_X9_write x_text_length_12 x_text_signs_13 (nI 59) (fun r_17 x_text_length_15 x_text_signs_16 =>
          wp_X9_lay x_keptNumber x_text_length_15 x_text_rulesSeen x_text_placesSeen x_text_signs_16 x_rules_number x_rules_placeNumber x_rules_places x_rules_firsts x_rules_wholes x_rules_taken x_rules_behinds x_rules_parts_height x_rules_parts_firsts x_rules_parts_lasts x_rules_parts_lacking x_now_length x_now_classes x_now_kinds x_now_line x_acts_number x_steps_firsts x_steps_loose x_steps_onward x_steps_takers x_pieces_length x_pieces_bounds x_pieces_stands x_ways_areFound (fun r_45 x_keptNumber_18 x_text_rulesSeen_19 x_text_placesSeen_20 x_rules_number_21 x_rules_placeNumber_22 x_rules_places_23 x_rules_firsts_24 x_rules_wholes_25 x_rules_taken_26 x_rules_behinds_27 x_rules_parts_height_28 x_rules_parts_firsts_29 x_rules_parts_lasts_30 x_rules_parts_lacking_31 x_now_length_32 x_now_classes_33 x_now_kinds_34 x_now_line_35 x_acts_number_36 x_steps_firsts_37 x_steps_loose_38 x_steps_onward_39 x_steps_takers_40 x_pieces_length_41 x_pieces_bounds_42 x_pieces_stands_43 x_ways_areFound_44 =>
          K r_45 x_keptNumber_18 x_text_length_15 x_text_rulesSeen_19 x_text_placesSeen_20 x_text_signs_16 x_rules_number_21 x_rules_placeNumber_22 x_rules_places_23 x_rules_firsts_24 x_rules_wholes_25 x_rules_taken_26 x_rules_behinds_27 x_rules_parts_height_28 x_rules_parts_firsts_29 x_rules_parts_lasts_30 x_rules_parts_lacking_31 x_now_length_32 x_now_classes_33 x_now_kinds_34 x_now_line_35 x_acts_number_36 x_steps_firsts_37 x_steps_loose_38 x_steps_onward_39 x_steps_takers_40 x_pieces_length_41 x_pieces_bounds_42 x_pieces_stands_43 x_ways_areFound_44))) →
         E250_14 x_text_length_12 x_text_signs_13) →
        ∃ n : Nat, lp_L_lays_219 n_d w E250_14 n (nI 0) x_text_length_9 x_text_signs_10)) →
       E208_8 x_text_length_6 x_text_signs_7) →
      ∃ n : Nat, lp_L_lays_117 n_b n_c n_d y z w E208_8 n (nI 0) x_text_length_3 x_text_signs_4) →
     E114_5 x_text_length_3 x_text_signs_4) →
    ∃ n : Nat, lp_L_lays_9 n_d w E114_5 n r_2 (nI 1) x_text_length_1 x_text_signs)

def lp_L_into_2 (n_a : Nat) (n_b : Nat) (x : Nat → Int32) (E20 : (Nat → Int32) → Prop) : Nat → Int32 → (Nat → Int32) → Prop
  | 0, _, _ => False
  | n + 1, v2, y =>
    ((nI 61) ≤ v2 →
      E20 y) ∧
    (¬ (nI 61) ≤ v2 →
      vp_in v2 n_a ∧
      ∀ t_3 : Int32, t_3 = x v2.toNatClampNeg →
      vp_in v2 n_b ∧
      ∀ y_4 : Nat → Int32, y_4 = upd y v2.toNatClampNeg t_3 →
      ∀ v2_5 : Int32, v2_5 = v2 + (nI 1) →
      lp_L_into_2 n_a n_b x E20 n v2_5 y_4)
def wp_L_into (n_a : Nat) (n_b : Nat) (x : Nat → Int32) (y : Nat → Int32) (K : (Nat → Int32) → Prop) : Prop :=
    ∀ E20_2 : (Nat → Int32) → Prop,
    (∀ (y_1 : Nat → Int32), 
      (K y_1) →
     E20_2 y_1) →
    ∃ n : Nat, lp_L_into_2 n_a n_b x E20_2 n (nI 0) y

def lp_L_taking_5 (n_a : Nat) (x : Nat → Int32) (q1 : Int32) (q2 : Int32) (E63 : Int32 → Prop) : Nat → Int32 → Int32 → Prop
  | 0, _, _ => False
  | n + 1, v3, v4 =>
    vp_in (nI 1) n_a ∧
    ((x (nI 1).toNatClampNeg) ≤ v4 →
      E63 v3) ∧
    (¬ (x (nI 1).toNatClampNeg) ≤ v4 →
      (¬ ((q1 >>> (v4 &&& 31)) &&& (nI 1)) = (nI 1) →
        ∀ v3_3 : Int32, v3_3 = v3 ||| (nI 0) →
        ∀ v4_4 : Int32, v4_4 = v4 + (nI 1) →
        lp_L_taking_5 n_a x q1 q2 E63 n v3_3 v4_4) ∧
      (((q1 >>> (v4 &&& 31)) &&& (nI 1)) = (nI 1) →
        vp_in ((nI 24) + v4) n_a ∧
        ((x ((nI 24) + v4).toNatClampNeg) = (nI 6) →
          ∀ v3_5 : Int32, v3_5 = v3 ||| ((nI 1) <<< (v4 &&& 31)) →
          ∀ v4_6 : Int32, v4_6 = v4 + (nI 1) →
          lp_L_taking_5 n_a x q1 q2 E63 n v3_5 v4_6) ∧
        (¬ (x ((nI 24) + v4).toNatClampNeg) = (nI 6) →
          vp_in ((nI 24) + v4) n_a ∧
          (¬ (x ((nI 24) + v4).toNatClampNeg) = q2 →
            ∀ v3_7 : Int32, v3_7 = v3 ||| (nI 0) →
            ∀ v4_8 : Int32, v4_8 = v4 + (nI 1) →
            lp_L_taking_5 n_a x q1 q2 E63 n v3_7 v4_8) ∧
          ((x ((nI 24) + v4).toNatClampNeg) = q2 →
            ∀ v3_9 : Int32, v3_9 = v3 ||| ((nI 1) <<< (v4 &&& 31)) →
            ∀ v4_10 : Int32, v4_10 = v4 + (nI 1) →
            lp_L_taking_5 n_a x q1 q2 E63 n v3_9 v4_10))))
def wp_L_taking (n_a : Nat) (x : Nat → Int32) (p1 : Int32) (p2 : Int32) (K : Int32 → Prop) : Prop :=
    ∀ E63_2 : Int32 → Prop,
    (∀ (v3_1 : Int32), 
      (K v3_1) →
     E63_2 v3_1) →
    ∃ n : Nat, lp_L_taking_5 n_a x p1 p2 E63_2 n (nI 0) (nI 0)

def lp_L_goes_27 (n_a : Nat) (x : Nat → Int32) (q5 : Int32) (E48 : Int32 → Prop) : Nat → Int32 → Prop
  | 0, _ => False
  | n + 1, v6 =>
    vp_in ((nI 10) + v6) n_a ∧
    (¬ (((x ((nI 10) + v6).toNatClampNeg) >>> (q5 &&& 31)) &&& (nI 1)) = 0 →
      E48 v6) ∧
    ((((x ((nI 10) + v6).toNatClampNeg) >>> (q5 &&& 31)) &&& (nI 1)) = 0 →
      ∀ v6_23 : Int32, v6_23 = v6 + (nI 1) →
      lp_L_goes_27 n_a x q5 E48 n v6_23)
def lp_L_goes_6 (n_a : Nat) (n_b : Nat) (x : Nat → Int32) (y : Nat → Int32) (q2 : Int32) (q3 : Int32) (E154 : Int32 → Prop) : Nat → Int32 → Int32 → Prop
  | 0, _, _ => False
  | n + 1, v4, v5 =>
    vp_in (nI 1) n_a ∧
    ((x (nI 1).toNatClampNeg) ≤ v5 →
      E154 v4) ∧
    (¬ (x (nI 1).toNatClampNeg) ≤ v5 →
      (¬ ((q2 >>> (v5 &&& 31)) &&& (nI 1)) = (nI 1) →
        ∀ v5_3 : Int32, v5_3 = v5 + (nI 1) →
        lp_L_goes_6 n_a n_b x y q2 q3 E154 n v4 v5_3) ∧
      (((q2 >>> (v5 &&& 31)) &&& (nI 1)) = (nI 1) →
        ∀ E48_5 : Int32 → Prop,
        (∀ (v6_4 : Int32), 
          (vp_in ((nI 26) + v6_4) n_b ∧
          ∀ v7_6 : Int32, v7_6 = y ((nI 26) + v6_4).toNatClampNeg →
          ∀ J90_8 : Int32 → Prop,
          (∀ (s0_7 : Int32), 
            (∀ J115_10 : Int32 → Prop,
            (∀ (s1_9 : Int32), 
              (∀ v4_11 : Int32, v4_11 = v4 ||| s1_9 →
              (¬ q3 = (nI 5) →
                ∀ v4_12 : Int32, v4_12 = v4_11 ||| (nI 0) →
                ∀ v5_13 : Int32, v5_13 = v5 + (nI 1) →
                lp_L_goes_6 n_a n_b x y q2 q3 E154 n v4_12 v5_13) ∧
              (q3 = (nI 5) →
                (v7_6 = (nI 1) →
                  ∀ v4_14 : Int32, v4_14 = v4_11 ||| ((nI 1) <<< (v5 &&& 31)) →
                  ∀ v5_15 : Int32, v5_15 = v5 + (nI 1) →
                  lp_L_goes_6 n_a n_b x y q2 q3 E154 n v4_14 v5_15) ∧
                (¬ v7_6 = (nI 1) →
                  (¬ v7_6 = (nI 3) →
                    ∀ v4_16 : Int32, v4_16 = v4_11 ||| (nI 0) →
                    ∀ v5_17 : Int32, v5_17 = v5 + (nI 1) →
                    lp_L_goes_6 n_a n_b x y q2 q3 E154 n v4_16 v5_17) ∧
                  (v7_6 = (nI 3) →
                    ∀ v4_18 : Int32, v4_18 = v4_11 ||| ((nI 1) <<< (v5 &&& 31)) →
                    ∀ v5_19 : Int32, v5_19 = v5 + (nI 1) →
                    lp_L_goes_6 n_a n_b x y q2 q3 E154 n v4_18 v5_19)))) →
             J115_10 s1_9) →
            (s0_7 = 0 →
                vp_in ((nI 14) + v5) n_a ∧
                wp_L_taking n_a x (x ((nI 14) + v5).toNatClampNeg) q3 (fun r_20 =>
                J115_10 r_20)) ∧
              (¬ s0_7 = 0 →
                J115_10 (nI 0))) →
           J90_8 s0_7) →
          ∀ J89_21 : Prop,
            (
              (J90_8 (nI 0)) →
             J89_21) →
            ∀ J69_22 : Prop,
              (
                (vp_in ((nI 6) + v6_4) n_a ∧
                (¬ (((x ((nI 6) + v6_4).toNatClampNeg) >>> (v5 &&& 31)) &&& (nI 1)) = (nI 1) →
                  J89_21) ∧
                ((((x ((nI 6) + v6_4).toNatClampNeg) >>> (v5 &&& 31)) &&& (nI 1)) = (nI 1) →
                  J90_8 (nI 1))) →
               J69_22) →
              (v7_6 = (nI 2) →
                  J69_22) ∧
                (¬ v7_6 = (nI 2) →
                  (¬ v7_6 = (nI 3) →
                    J89_21) ∧
                  (v7_6 = (nI 3) →
                    J69_22))) →
         E48_5 v6_4) →
        ∃ n : Nat, lp_L_goes_27 n_a x v5 E48_5 n (nI 0)))
def wp_L_goes (n_a : Nat) (n_b : Nat) (x : Nat → Int32) (y : Nat → Int32) (p2 : Int32) (p3 : Int32) (K : Int32 → Prop) : Prop :=
    ∀ E154_2 : Int32 → Prop,
    (∀ (v4_1 : Int32), 
      (K v4_1) →
     E154_2 v4_1) →
    ∃ n : Nat, lp_L_goes_6 n_a n_b x y p2 p3 E154_2 n (nI 0) (nI 0)

def lp_L_begun_5 (n_a : Nat) (x : Nat → Int32) (q2 : Int32) (E42 : Int32 → Prop) : Nat → Int32 → Int32 → Prop
  | 0, _, _ => False
  | n + 1, v3, v4 =>
    vp_in (nI 0) n_a ∧
    ((x (nI 0).toNatClampNeg) ≤ v4 →
      E42 v3) ∧
    (¬ (x (nI 0).toNatClampNeg) ≤ v4 →
      (¬ ((q2 >>> (v4 &&& 31)) &&& (nI 1)) = (nI 1) →
        vp_in ((nI 2) + v4) n_a ∧
        ∀ v3_4 : Int32, v3_4 = v3 ||| (x ((nI 2) + v4).toNatClampNeg) →
        ∀ v4_5 : Int32, v4_5 = v4 + (nI 1) →
        lp_L_begun_5 n_a x q2 E42 n v3_4 v4_5) ∧
      (((q2 >>> (v4 &&& 31)) &&& (nI 1)) = (nI 1) →
        ∀ v3_6 : Int32, v3_6 = v3 ||| (nI 0) →
        ∀ v4_7 : Int32, v4_7 = v4 + (nI 1) →
        lp_L_begun_5 n_a x q2 E42 n v3_6 v4_7))
def wp_L_begun (n_a : Nat) (x : Nat → Int32) (p1 : Int32) (p2 : Int32) (K : Int32 → Prop) : Prop :=
    ∀ E42_2 : Int32 → Prop,
    (∀ (v3_1 : Int32), 
      (wp_L_taking n_a x v3_1 p1 (fun r_3 =>
      K r_3)) →
     E42_2 v3_1) →
    ∃ n : Nat, lp_L_begun_5 n_a x p2 E42_2 n (nI 0) (nI 0)

def lp_L_walk_9 (n_a : Nat) (n_b : Nat) (n_c : Nat) (x : Nat → Int32) (y : Nat → Int32) (q2 : Int32) (E114 : Int32 → (Nat → Int32) → Prop) : Nat → Int32 → Int32 → Int32 → (Nat → Int32) → Prop
  | 0, _, _, _, _ => False
  | n + 1, v4, v5, v6, z =>
    vp_in (nI 30) n_b ∧
    ((y (nI 30).toNatClampNeg) ≤ v6 →
      E114 v5 z) ∧
    (¬ (y (nI 30).toNatClampNeg) ≤ v6 →
      vp_in ((nI 31) + v6) n_b ∧
      vp_in (y ((nI 31) + v6).toNatClampNeg) n_b ∧
      ∀ v7_5 : Int32, v7_5 = y (y ((nI 31) + v6).toNatClampNeg).toNatClampNeg →
      ∀ J47_7 : Int32 → Prop,
      (∀ (s0_6 : Int32), 
        (∀ J65_9 : Int32 → Prop,
        (∀ (s2_8 : Int32), 
          (vp_in ((nI 32) + v6) n_c ∧
          ∀ z_10 : Nat → Int32, z_10 = upd z ((nI 32) + v6).toNatClampNeg s2_8 →
          ∀ J78_12 : Int32 → Prop,
          (∀ (s1_11 : Int32), 
            (∀ v5_13 : Int32, v5_13 = v5 + s1_11 →
            (¬ s0_6 = 0 →
              vp_in ((nI 1) + v6) n_c ∧
              ∀ z_14 : Nat → Int32, z_14 = upd z_10 ((nI 1) + v6).toNatClampNeg s0_6 →
              ∀ v6_15 : Int32, v6_15 = v6 + (nI 1) →
              lp_L_walk_9 n_a n_b n_c x y q2 E114 n s0_6 v5_13 v6_15 z_14) ∧
            (s0_6 = 0 →
              wp_L_begun n_a x v7_5 q2 (fun r_16 =>
              vp_in ((nI 1) + v6) n_c ∧
              ∀ z_17 : Nat → Int32, z_17 = upd z_10 ((nI 1) + v6).toNatClampNeg r_16 →
              ∀ v6_18 : Int32, v6_18 = v6 + (nI 1) →
              lp_L_walk_9 n_a n_b n_c x y q2 E114 n r_16 v5_13 v6_18 z_17))) →
           J78_12 s1_11) →
          (¬ s0_6 = 0 →
              J78_12 (nI 0)) ∧
            (s0_6 = 0 →
              J78_12 (nI 1))) →
         J65_9 s2_8) →
        (¬ s0_6 = 0 →
            J65_9 (nI 0)) ∧
          (s0_6 = 0 →
            J65_9 (nI 1))) →
       J47_7 s0_6) →
      (v6 ≤ 0 →
          J47_7 (nI 0)) ∧
        (¬ v6 ≤ 0 →
          wp_L_goes n_a n_b x y v4 v7_5 (fun r_19 =>
          J47_7 r_19)))
def wp_L_walk (n_a : Nat) (n_b : Nat) (n_c : Nat) (x : Nat → Int32) (y : Nat → Int32) (z : Nat → Int32) (p2 : Int32) (K : Int32 → (Nat → Int32) → Prop) : Prop :=
    ∀ E114_3 : Int32 → (Nat → Int32) → Prop,
    (∀ (v5_1 : Int32) (z_2 : Nat → Int32), 
      (vp_in (nI 30) n_b ∧
      vp_in ((nI 32) + (y (nI 30).toNatClampNeg)) n_c ∧
      ∀ z_4 : Nat → Int32, z_4 = upd z_2 ((nI 32) + (y (nI 30).toNatClampNeg)).toNatClampNeg (nI 1) →
      K v5_1 z_4) →
     E114_3 v5_1 z_2) →
    ∃ n : Nat, lp_L_walk_9 n_a n_b n_c x y p2 E114_3 n (nI 0) (nI 0) (nI 0) z

def lp_L_same_134 (n_c : Nat) (x_now_length : Int32) (x_now_line : Nat → Int32) (x_pieces_length : Int32) (x_pieces_bounds : Int32) (x_pieces_stands : Nat → Int32) (z : Nat → Int32) (w : Nat → Int32) (E212 : Prop) (E220 : Prop) : Nat → Int32 → Prop
  | 0, _ => False
  | n + 1, v5 =>
    vp_in (nI 30) n_c ∧
    ((z (nI 30).toNatClampNeg) < v5 →
      E220) ∧
    (¬ (z (nI 30).toNatClampNeg) < v5 →
      wp_X9_letter x_now_length x_now_line v5 (fun r_15 =>
      vp_in (nI 30) n_c ∧
      ∀ J170_17 : Int32 → Prop,
      (∀ (s1_16 : Int32), 
        ((¬ r_15 = s1_16 →
          E212) ∧
        (r_15 = s1_16 →
          wp_X9_isBoundary x_now_length x_pieces_bounds v5 (fun r_18 =>
          vp_in ((nI 32) + v5) 64 ∧
          (¬ r_18 = (w ((nI 32) + v5).toNatClampNeg) →
            E212) ∧
          (r_18 = (w ((nI 32) + v5).toNatClampNeg) →
            wp_X9_stand x_now_length x_pieces_length x_pieces_stands v5 (fun r_19 =>
            ∀ J209_21 : Int32 → Prop,
            (∀ (s1_20 : Int32), 
              ((r_19 = s1_20 →
                ∀ v5_22 : Int32, v5_22 = v5 + (nI 1) →
                lp_L_same_134 n_c x_now_length x_now_line x_pieces_length x_pieces_bounds x_pieces_stands z w E212 E220 n v5_22) ∧
              (¬ r_19 = s1_20 →
                E212)) →
             J209_21 s1_20) →
            (¬ v5 = 0 →
                vp_in v5 64 ∧
                J209_21 (w v5.toNatClampNeg)) ∧
              (v5 = 0 →
                J209_21 (-4))))))) →
       J170_17 s1_16) →
      ((z (nI 30).toNatClampNeg) ≤ v5 →
          J170_17 (-4)) ∧
        (¬ (z (nI 30).toNatClampNeg) ≤ v5 →
          vp_in ((nI 31) + v5) n_c ∧
          J170_17 (z ((nI 31) + v5).toNatClampNeg))))
def lp_L_same_48 (n_b : Nat) (n_c : Nat) (x_rules_number : Int32) (x_rules_places : Nat → Int32) (x_rules_firsts : Nat → Int32) (x_rules_wholes : Nat → Int32) (x_now_kinds : Nat → Int32) (y : Nat → Int32) (z : Nat → Int32) (E123 : Prop) (E131 : Prop) : Nat → Int32 → Prop
  | 0, _ => False
  | n + 1, v5 =>
    vp_in (nI 0) n_b ∧
    ((y (nI 0).toNatClampNeg) ≤ v5 →
      E131) ∧
    (¬ (y (nI 0).toNatClampNeg) ≤ v5 →
      wp_X9_rule x_rules_number x_rules_places x_rules_firsts x_rules_wholes x_now_kinds v5 (nI 0) (fun r_32 =>
      vp_in ((nI 26) + v5) n_c ∧
      (¬ r_32 = (z ((nI 26) + v5).toNatClampNeg) →
        E123) ∧
      (r_32 = (z ((nI 26) + v5).toNatClampNeg) →
        wp_X9_rule x_rules_number x_rules_places x_rules_firsts x_rules_wholes x_now_kinds v5 (nI 1) (fun r_33 =>
        vp_in ((nI 10) + v5) n_b ∧
        (¬ r_33 = (y ((nI 10) + v5).toNatClampNeg) →
          E123) ∧
        (r_33 = (y ((nI 10) + v5).toNatClampNeg) →
          wp_X9_rule x_rules_number x_rules_places x_rules_firsts x_rules_wholes x_now_kinds v5 (nI 2) (fun r_34 =>
          vp_in ((nI 2) + v5) n_b ∧
          (¬ r_34 = (y ((nI 2) + v5).toNatClampNeg) →
            E123) ∧
          (r_34 = (y ((nI 2) + v5).toNatClampNeg) →
            wp_X9_rule x_rules_number x_rules_places x_rules_firsts x_rules_wholes x_now_kinds v5 (nI 3) (fun r_35 =>
            vp_in ((nI 6) + v5) n_b ∧
            (r_35 = (y ((nI 6) + v5).toNatClampNeg) →
              ∀ v5_36 : Int32, v5_36 = v5 + (nI 1) →
              lp_L_same_48 n_b n_c x_rules_number x_rules_places x_rules_firsts x_rules_wholes x_now_kinds y z E123 E131 n v5_36) ∧
            (¬ r_35 = (y ((nI 6) + v5).toNatClampNeg) →
              E123)))))))))
def lp_L_same_17 (n_c : Nat) (x_now_classes : Nat → Int32) (z : Nat → Int32) (E37 : Prop) (E45 : Prop) : Nat → Int32 → Prop
  | 0, _ => False
  | n + 1, v5 =>
    ((nI 26) ≤ v5 →
      E45) ∧
    (¬ (nI 26) ≤ v5 →
      wp_X9_kind x_now_classes v5 (fun r_43 =>
      vp_in v5 n_c ∧
      (r_43 = (z v5.toNatClampNeg) →
        ∀ v5_44 : Int32, v5_44 = v5 + (nI 1) →
        lp_L_same_17 n_c x_now_classes z E37 E45 n v5_44) ∧
      (¬ r_43 = (z v5.toNatClampNeg) →
        E37)))
def wp_L_same (n_b : Nat) (n_c : Nat) (x_keptNumber : Int32) (x_text_length : Int32) (x_rules_number : Int32) (x_rules_placeNumber : Int32) (x_rules_places : Nat → Int32) (x_rules_firsts : Nat → Int32) (x_rules_wholes : Nat → Int32) (x_now_length : Int32) (x_now_classes : Nat → Int32) (x_now_kinds : Nat → Int32) (x_now_line : Nat → Int32) (x_acts_number : Int32) (x_pieces_length : Int32) (x_pieces_bounds : Int32) (x_pieces_stands : Nat → Int32) (y : Nat → Int32) (z : Nat → Int32) (K : Int32 → Prop) : Prop :=
    wp_L_walk n_b n_c 64 y z ((fun _ => 0)) (nI 0) (fun r_3 w_2 =>
    ∀ E37_4 : Prop,
    (
      (K (nI 0)) →
     E37_4) →
    ∀ E45_5 : Prop,
      (
        (∀ E123_6 : Prop,
        (
          (K (nI 0)) →
         E123_6) →
        ∀ E131_7 : Prop,
          (
            (∀ E212_8 : Prop,
            (
              (K (nI 0)) →
             E212_8) →
            ∀ E220_9 : Prop,
              (
                (vp_in (nI 30) n_c ∧
                wp_X9_letter x_now_length x_now_line ((z (nI 30).toNatClampNeg) + (nI 1)) (fun r_10 =>
                (¬ r_10 = (-1) →
                  K (nI 0)) ∧
                (r_10 = (-1) →
                  wp_X9_count x_keptNumber x_text_length x_rules_number x_rules_placeNumber x_now_length x_acts_number x_pieces_bounds (nI 0) (fun r_11 =>
                  vp_in (nI 0) n_b ∧
                  (¬ r_11 = (y (nI 0).toNatClampNeg) →
                    K (nI 0)) ∧
                  (r_11 = (y (nI 0).toNatClampNeg) →
                    wp_X9_count x_keptNumber x_text_length x_rules_number x_rules_placeNumber x_now_length x_acts_number x_pieces_bounds (nI 1) (fun r_12 =>
                    vp_in (nI 1) n_b ∧
                    (¬ r_12 = (y (nI 1).toNatClampNeg) →
                      K (nI 0)) ∧
                    (r_12 = (y (nI 1).toNatClampNeg) →
                      wp_X9_count x_keptNumber x_text_length x_rules_number x_rules_placeNumber x_now_length x_acts_number x_pieces_bounds (nI 2) (fun r_13 =>
                      vp_in (nI 30) n_c ∧
                      (¬ r_13 = (z (nI 30).toNatClampNeg) →
                        K (nI 0)) ∧
                      (r_13 = (z (nI 30).toNatClampNeg) →
                        wp_X9_count x_keptNumber x_text_length x_rules_number x_rules_placeNumber x_now_length x_acts_number x_pieces_bounds (nI 3) (fun r_14 =>
                        (¬ r_14 = r_3 →
                          K (nI 0)) ∧
                        (r_14 = r_3 →
                          K (nI 1)))))))))))) →
               E220_9) →
              ∃ n : Nat, lp_L_same_134 n_c x_now_length x_now_line x_pieces_length x_pieces_bounds x_pieces_stands z w_2 E212_8 E220_9 n (nI 0)) →
           E131_7) →
          ∃ n : Nat, lp_L_same_48 n_b n_c x_rules_number x_rules_places x_rules_firsts x_rules_wholes x_now_kinds y z E123_6 E131_7 n (nI 0)) →
       E45_5) →
      ∃ n : Nat, lp_L_same_17 n_c x_now_classes z E37_4 E45_5 n (nI 0))
