set_option maxRecDepth 40000 in
set_option maxHeartbeats 4000000 in
theorem law_loop {p : Program} {l : Launch} {e : Env} {s : State} {m : MethodId} {below : List Frame} {meth : Method} {c : Code} {D : va_G} {dA : Nat → ClassId} {b L : Nat} {xs : Nat → Int32} (C : GC p s m #[Value.ref b] meth c code 4 "OneLampLaw" ret D dA (fun q => s.heap.size ≤ q)) (hX : va_X b L xs s s.heap) (hbl : b < s.heap.size) (hL : L ≤ 384) {ad : Nat → Nat} : ∀ (n t : Nat) (v3 : Int32) (c0 : Bool) (c1 : Int32) (c2 : Int32) (c3 : Int32) (c4 : Int32) (c5 : Nat → Int64) (c6 : Nat → Int64) (c7 : Nat → Int32) (c8 : Nat → Int32) (c9 : Int32) (c10 : Int32) (c11 : Int32) (c12 : Int32) (c13 : Nat → Int64) (c14 : Nat → Int64) (c15 : Nat → Int32) (c16 : Nat → Int32) (c17 : Int32) (c18 : Int32) (c19 : Int32) (c20 : Int32) (c21 : Int32) (c22 : Nat → Int32) (c23 : Nat → Int32) (c24 : Nat → Int64) (c25 : Nat → Int64) (c26 : Int32) (c27 : Int32) (c28 : Int32) (c29 : Nat → Int32) (c30 : Nat → Int32) (c31 : Int32) (c32 : Int32) (c33 : Nat → Int32) (c34 : Nat → Int32) (c35 : Nat → Int32) (c36 : Nat → Int32) (c37 : Nat → Int32) (c38 : Int32) (c39 : Int32) (c40 : Int32) (c41 : Int32) (c42 : Int32) (c43 : Int32) (c44 : Int32) (c45 : Nat → Int64) (c46 : Nat → Int64) (c47 : Nat → Int32) (c48 : Nat → Int32) (c49 : Nat → Int32) (c50 : Nat → Int32) (c51 : Int32) (c52 : Int32) (c53 : Int32) (c54 : Nat → Int32) (c55 : Nat → Int32) (c56 : Int32) (c57 : Int32) (c58 : Int32) (c59 : Int32) (c60 : Nat → Int64) (c61 : Int32) (c62 : Int32) (c63 : Int32) (c64 : Int32) (c65 : Nat → Int64) (c66 : Int32) (c67 : Int32) (c68 : Int32) (c69 : Int32) (c70 : Nat → Int64) (c71 : Int32) (c72 : Int32) (c73 : Int32) (c74 : Int32) (c75 : Nat → Int64) (c76 : Int32) (c77 : Int32) (c78 : Int32) (c79 : Int32) (c80 : Nat → Int64) (c81 : Int32) (c82 : Int32) (c83 : Int32) (c84 : Int32) (c85 : Nat → Int64) (c86 : Int32) (c87 : Int32) (c88 : Int32) (c89 : Int32) (c90 : Int32) (c91 : Int32) (c92 : Int32) (c93 : Bool) (c94 : Int32) (c95 : Int32) (c96 : Int32) (c97 : Int32) (c98 : Int32) (c99 : Int32) (c100 : Int32) (c101 : Bool) (c102 : Int32) (c103 : Int32) (c104 : Int32) (c105 : Bool) (c106 : Int32) (c107 : Int32) (c108 : Int32) (c109 : Int32) (c110 : Int32) (c111 : Int32) (c112 : Nat → Int32) (c113 : Nat → Int32) (c114 : Nat → Int32) (c115 : Nat → Int32) (c116 : Nat → Int32) (c117 : Nat → Int32) (c118 : Nat → Int32) (c119 : Nat → Int32) (c120 : Nat → Int32) (c121 : Nat → Int32) (c122 : Nat → Int32) (c123 : Nat → Int32) (c124 : Nat → Int32) (c125 : Nat → Int32) (c126 : Nat → Int32) (c127 : Nat → Int32) (c128 : Nat → Int32) (c129 : Nat → Int32) (c130 : Nat → Int32) (c131 : Nat → Int32) (c132 : Nat → Int32) (c133 : Nat → Int32) (c134 : Nat → Int32) (c135 : Nat → Int32) (c136 : Nat → Int32) (c137 : Nat → Int32) (c138 : Nat → Int32) (c139 : Nat → Int32) (c140 : Nat → Int32) (c141 : Nat → Int32) (c142 : Nat → Int64) (c143 : Nat → Int64), v3 = nI (6 * t) → t ≤ 64 → 65 ≤ n + t → R_wall t c1 c2 c3 c4 c5 c6 c7 c8 c87 c88 c89 c90 c112 c113 c116 c117 c93 → R_image t c0 c9 c10 c11 c12 c13 c14 c15 c16 c105 c106 c107 c108 c109 c134 c135 c136 c137 c93 → R_set c17 c18 c91 c92 → R_lw c19 c24 c25 c22 c20 c101 c123 c124 c125 c126 c127 → R_tape c29 c26 c122 c96 → R_costs c33 c34 c35 c36 c31 c32 c115 c119 c120 c121 c94 c95 → R_acts c54 c51 c55 c52 c138 c110 c139 c111 → R_shelf 0 c51 c56 c57 c58 c59 c60 c140 c141 c142 → R_shelf 1 c51 c61 c62 c63 c64 c65 c140 c141 c142 → R_shelf 2 c51 c66 c67 c68 c69 c70 c140 c141 c142 → R_shelf 3 c51 c71 c72 c73 c74 c75 c140 c141 c142 → R_shelf 4 c51 c76 c77 c78 c79 c80 c140 c141 c142 → R_shelf 5 c51 c81 c82 c83 c84 c85 c140 c141 c142 → GG p l e room_1 s m #[Value.ref b] below meth c 4 D (fun q => s.heap.size ≤ q) 91 9770 (lw_Z below #[Value.ref b] s) 18 [(0, .ref b), (1, .ref (ad 0)), (2, .ref (ad 58)), (3, .int v3)] [] (lawW dA ad c0 c1 c2 c3 c4 c5 c6 c7 c8 c9 c10 c11 c12 c13 c14 c15 c16 c17 c18 c19 c20 c21 c22 c23 c24 c25 c26 c27 c28 c29 c30 c31 c32 c33 c34 c35 c36 c37 c38 c39 c40 c41 c42 c43 c44 c45 c46 c47 c48 c49 c50 c51 c52 c53 c54 c55 c56 c57 c58 c59 c60 c61 c62 c63 c64 c65 c66 c67 c68 c69 c70 c71 c72 c73 c74 c75 c76 c77 c78 c79 c80 c81 c82 c83 c84 c85 c86 c87 c88 c89 c90 c91 c92 c93 c94 c95 c96 c97 c98 c99 c100 c101 c102 c103 c104 c105 c106 c107 c108 c109 c110 c111 c112 c113 c114 c115 c116 c117 c118 c119 c120 c121 c122 c123 c124 c125 c126 c127 c128 c129 c130 c131 c132 c133 c134 c135 c136 c137 c138 c139 c140 c141 c142 c143) := by
  intro n
  induction n with
  | zero => intro t v3 c0 c1 c2 c3 c4 c5 c6 c7 c8 c9 c10 c11 c12 c13 c14 c15 c16 c17 c18 c19 c20 c21 c22 c23 c24 c25 c26 c27 c28 c29 c30 c31 c32 c33 c34 c35 c36 c37 c38 c39 c40 c41 c42 c43 c44 c45 c46 c47 c48 c49 c50 c51 c52 c53 c54 c55 c56 c57 c58 c59 c60 c61 c62 c63 c64 c65 c66 c67 c68 c69 c70 c71 c72 c73 c74 c75 c76 c77 c78 c79 c80 c81 c82 c83 c84 c85 c86 c87 c88 c89 c90 c91 c92 c93 c94 c95 c96 c97 c98 c99 c100 c101 c102 c103 c104 c105 c106 c107 c108 c109 c110 c111 c112 c113 c114 c115 c116 c117 c118 c119 c120 c121 c122 c123 c124 c125 c126 c127 c128 c129 c130 c131 c132 c133 c134 c135 c136 c137 c138 c139 c140 c141 c142 c143 h3 ht hn; omega
  | succ n ih =>
    intro t v3 c0 c1 c2 c3 c4 c5 c6 c7 c8 c9 c10 c11 c12 c13 c14 c15 c16 c17 c18 c19 c20 c21 c22 c23 c24 c25 c26 c27 c28 c29 c30 c31 c32 c33 c34 c35 c36 c37 c38 c39 c40 c41 c42 c43 c44 c45 c46 c47 c48 c49 c50 c51 c52 c53 c54 c55 c56 c57 c58 c59 c60 c61 c62 c63 c64 c65 c66 c67 c68 c69 c70 c71 c72 c73 c74 c75 c76 c77 c78 c79 c80 c81 c82 c83 c84 c85 c86 c87 c88 c89 c90 c91 c92 c93 c94 c95 c96 c97 c98 c99 c100 c101 c102 c103 c104 c105 c106 c107 c108 c109 c110 c111 c112 c113 c114 c115 c116 c117 c118 c119 c120 c121 c122 c123 c124 c125 c126 c127 c128 c129 c130 c131 c132 c133 c134 c135 c136 c137 c138 c139 c140 c141 c142 c143 h3 ht hn hW hI hU hG hT hP hA hS0 hS1 hS2 hS3 hS4 hS5
    refine g_iload_n (pc' := 19) C 3 d_law_18 rfl rfl ?_
    refine g_aload_n (pc' := 20) C 0 d_law_19 rfl rfl ?_
    refine g_slen (pc' := 21) C hX hbl d_law_20 rfl ?_
    refine g_bipush (pc' := 23) (v := 6) C d_law_21 rfl rfl ?_
    refine g_isub (pc' := 24) C d_law_23 rfl ?_
    refine g_icmp_gt (pc' := 27) (tgt := 1271) C d_law_24 rfl rfl (fun h => ?_) (fun h => ?_)
    · refine g_iconst (pc' := 1272) (v := 1) C d_law_1271 rfl rfl ?_
      exact g_lawend C (by decide) (by decide) d_law_1272
    have hle := law_more h3 hL ht h
    have ht2 : t < 64 := by omega
    have hix := law_ix h3 hL hle
    have hi0 : ¬ (v3 < 0 ∨ L ≤ Int32.toNatClampNeg v3) := by
      rw [h3]
      rintro (h | h)
      · exact nI_pos (by omega) h
      · rw [nI_clamp (by omega)] at h; omega
    have K : ∀ (c0 : Bool) (c1 : Int32) (c2 : Int32) (c3 : Int32) (c4 : Int32) (c5 : Nat → Int64) (c6 : Nat → Int64) (c7 : Nat → Int32) (c8 : Nat → Int32) (c9 : Int32) (c10 : Int32) (c11 : Int32) (c12 : Int32) (c13 : Nat → Int64) (c14 : Nat → Int64) (c15 : Nat → Int32) (c16 : Nat → Int32) (c17 : Int32) (c18 : Int32) (c19 : Int32) (c20 : Int32) (c21 : Int32) (c22 : Nat → Int32) (c23 : Nat → Int32) (c24 : Nat → Int64) (c25 : Nat → Int64) (c26 : Int32) (c27 : Int32) (c28 : Int32) (c29 : Nat → Int32) (c30 : Nat → Int32) (c31 : Int32) (c32 : Int32) (c33 : Nat → Int32) (c34 : Nat → Int32) (c35 : Nat → Int32) (c36 : Nat → Int32) (c37 : Nat → Int32) (c38 : Int32) (c39 : Int32) (c40 : Int32) (c41 : Int32) (c42 : Int32) (c43 : Int32) (c44 : Int32) (c45 : Nat → Int64) (c46 : Nat → Int64) (c47 : Nat → Int32) (c48 : Nat → Int32) (c49 : Nat → Int32) (c50 : Nat → Int32) (c51 : Int32) (c52 : Int32) (c53 : Int32) (c54 : Nat → Int32) (c55 : Nat → Int32) (c56 : Int32) (c57 : Int32) (c58 : Int32) (c59 : Int32) (c60 : Nat → Int64) (c61 : Int32) (c62 : Int32) (c63 : Int32) (c64 : Int32) (c65 : Nat → Int64) (c66 : Int32) (c67 : Int32) (c68 : Int32) (c69 : Int32) (c70 : Nat → Int64) (c71 : Int32) (c72 : Int32) (c73 : Int32) (c74 : Int32) (c75 : Nat → Int64) (c76 : Int32) (c77 : Int32) (c78 : Int32) (c79 : Int32) (c80 : Nat → Int64) (c81 : Int32) (c82 : Int32) (c83 : Int32) (c84 : Int32) (c85 : Nat → Int64) (c86 : Int32) (c87 : Int32) (c88 : Int32) (c89 : Int32) (c90 : Int32) (c91 : Int32) (c92 : Int32) (c93 : Bool) (c94 : Int32) (c95 : Int32) (c96 : Int32) (c97 : Int32) (c98 : Int32) (c99 : Int32) (c100 : Int32) (c101 : Bool) (c102 : Int32) (c103 : Int32) (c104 : Int32) (c105 : Bool) (c106 : Int32) (c107 : Int32) (c108 : Int32) (c109 : Int32) (c110 : Int32) (c111 : Int32) (c112 : Nat → Int32) (c113 : Nat → Int32) (c114 : Nat → Int32) (c115 : Nat → Int32) (c116 : Nat → Int32) (c117 : Nat → Int32) (c118 : Nat → Int32) (c119 : Nat → Int32) (c120 : Nat → Int32) (c121 : Nat → Int32) (c122 : Nat → Int32) (c123 : Nat → Int32) (c124 : Nat → Int32) (c125 : Nat → Int32) (c126 : Nat → Int32) (c127 : Nat → Int32) (c128 : Nat → Int32) (c129 : Nat → Int32) (c130 : Nat → Int32) (c131 : Nat → Int32) (c132 : Nat → Int32) (c133 : Nat → Int32) (c134 : Nat → Int32) (c135 : Nat → Int32) (c136 : Nat → Int32) (c137 : Nat → Int32) (c138 : Nat → Int32) (c139 : Nat → Int32) (c140 : Nat → Int32) (c141 : Nat → Int32) (c142 : Nat → Int64) (c143 : Nat → Int64), R_wall (t + 1) c1 c2 c3 c4 c5 c6 c7 c8 c87 c88 c89 c90 c112 c113 c116 c117 c93 → R_image (t + 1) c0 c9 c10 c11 c12 c13 c14 c15 c16 c105 c106 c107 c108 c109 c134 c135 c136 c137 c93 → R_set c17 c18 c91 c92 → R_lw c19 c24 c25 c22 c20 c101 c123 c124 c125 c126 c127 → R_tape c29 c26 c122 c96 → R_costs c33 c34 c35 c36 c31 c32 c115 c119 c120 c121 c94 c95 → R_acts c54 c51 c55 c52 c138 c110 c139 c111 → R_shelf 0 c51 c56 c57 c58 c59 c60 c140 c141 c142 → R_shelf 1 c51 c61 c62 c63 c64 c65 c140 c141 c142 → R_shelf 2 c51 c66 c67 c68 c69 c70 c140 c141 c142 → R_shelf 3 c51 c71 c72 c73 c74 c75 c140 c141 c142 → R_shelf 4 c51 c76 c77 c78 c79 c80 c140 c141 c142 → R_shelf 5 c51 c81 c82 c83 c84 c85 c140 c141 c142 → GG p l e room_1 s m #[Value.ref b] below meth c 4 D (fun q => s.heap.size ≤ q) 91 9770 (lw_Z below #[Value.ref b] s) 1265 [(0, .ref b), (1, .ref (ad 0)), (2, .ref (ad 58)), (3, .int v3)] [] (lawW dA ad c0 c1 c2 c3 c4 c5 c6 c7 c8 c9 c10 c11 c12 c13 c14 c15 c16 c17 c18 c19 c20 c21 c22 c23 c24 c25 c26 c27 c28 c29 c30 c31 c32 c33 c34 c35 c36 c37 c38 c39 c40 c41 c42 c43 c44 c45 c46 c47 c48 c49 c50 c51 c52 c53 c54 c55 c56 c57 c58 c59 c60 c61 c62 c63 c64 c65 c66 c67 c68 c69 c70 c71 c72 c73 c74 c75 c76 c77 c78 c79 c80 c81 c82 c83 c84 c85 c86 c87 c88 c89 c90 c91 c92 c93 c94 c95 c96 c97 c98 c99 c100 c101 c102 c103 c104 c105 c106 c107 c108 c109 c110 c111 c112 c113 c114 c115 c116 c117 c118 c119 c120 c121 c122 c123 c124 c125 c126 c127 c128 c129 c130 c131 c132 c133 c134 c135 c136 c137 c138 c139 c140 c141 c142 c143) := by
      intro c0 c1 c2 c3 c4 c5 c6 c7 c8 c9 c10 c11 c12 c13 c14 c15 c16 c17 c18 c19 c20 c21 c22 c23 c24 c25 c26 c27 c28 c29 c30 c31 c32 c33 c34 c35 c36 c37 c38 c39 c40 c41 c42 c43 c44 c45 c46 c47 c48 c49 c50 c51 c52 c53 c54 c55 c56 c57 c58 c59 c60 c61 c62 c63 c64 c65 c66 c67 c68 c69 c70 c71 c72 c73 c74 c75 c76 c77 c78 c79 c80 c81 c82 c83 c84 c85 c86 c87 c88 c89 c90 c91 c92 c93 c94 c95 c96 c97 c98 c99 c100 c101 c102 c103 c104 c105 c106 c107 c108 c109 c110 c111 c112 c113 c114 c115 c116 c117 c118 c119 c120 c121 c122 c123 c124 c125 c126 c127 c128 c129 c130 c131 c132 c133 c134 c135 c136 c137 c138 c139 c140 c141 c142 c143 hW hI hU hG hT hP hA hS0 hS1 hS2 hS3 hS4 hS5
      refine g_iinc (pc' := 1268) (j := 3) (v := v3 + 6) (lv' := [(3, .int (v3 + 6)), (0, .ref b), (1, .ref (ad 0)), (2, .ref (ad 58))]) C d_law_1265 rfl rfl rfl (by decide) rfl ?_
      refine g_goto (tgt := 18) C d_law_1268 rfl ?_
      refine g_lv (lv' := [(0, .ref b), (1, .ref (ad 0)), (2, .ref (ad 58)), (3, .int (v3 + 6))]) [1, 2, 3, 0] rfl ?_
      exact ih (t + 1) (v3 + 6) c0 c1 c2 c3 c4 c5 c6 c7 c8 c9 c10 c11 c12 c13 c14 c15 c16 c17 c18 c19 c20 c21 c22 c23 c24 c25 c26 c27 c28 c29 c30 c31 c32 c33 c34 c35 c36 c37 c38 c39 c40 c41 c42 c43 c44 c45 c46 c47 c48 c49 c50 c51 c52 c53 c54 c55 c56 c57 c58 c59 c60 c61 c62 c63 c64 c65 c66 c67 c68 c69 c70 c71 c72 c73 c74 c75 c76 c77 c78 c79 c80 c81 c82 c83 c84 c85 c86 c87 c88 c89 c90 c91 c92 c93 c94 c95 c96 c97 c98 c99 c100 c101 c102 c103 c104 c105 c106 c107 c108 c109 c110 c111 c112 c113 c114 c115 c116 c117 c118 c119 c120 c121 c122 c123 c124 c125 c126 c127 c128 c129 c130 c131 c132 c133 c134 c135 c136 c137 c138 c139 c140 c141 c142 c143 (by rw [h3]; exact nI_add (6 * t) 6) (by omega) (by omega) hW hI hU hG hT hP hA hS0 hS1 hS2 hS3 hS4 hS5
    refine g_aload_n (pc' := 28) C 0 d_law_27 rfl rfl ?_
    refine g_iload_n (pc' := 29) C 3 d_law_28 rfl rfl ?_
    refine g_sld (pc' := 30) C hX hbl d_law_29 rfl hi0 ?_
    refine g_bipush (pc' := 32) (v := 63) C d_law_30 rfl rfl ?_
    refine g_iand (pc' := 33) C d_law_32 rfl ?_
    by_cases q0 : (xs (Int32.toNatClampNeg v3) &&& 63) = 0
    · have e : (xs (Int32.toNatClampNeg v3) &&& 63).toInt = 0 := by rw [q0]; rfl
      refine g_tableIn (off := 155) (tgt := 188) C d_law_33 (by rw [e]; decide) (by rw [e]; decide) (by rw [e]; rfl) rfl ?_
      exact law_c0 C hX hbl hL ht2 hix hW hI hU hG hT hP hA hS0 hS1 hS2 hS3 hS4 hS5 K
    by_cases q1 : (xs (Int32.toNatClampNeg v3) &&& 63) = 1
    · have e : (xs (Int32.toNatClampNeg v3) &&& 63).toInt = 1 := by rw [q1]; rfl
      refine g_tableIn (off := 178) (tgt := 211) C d_law_33 (by rw [e]; decide) (by rw [e]; decide) (by rw [e]; rfl) rfl ?_
      exact law_c1 C hX hbl hL ht2 hix hW hI hU hG hT hP hA hS0 hS1 hS2 hS3 hS4 hS5 K
    by_cases q2 : (xs (Int32.toNatClampNeg v3) &&& 63) = 2
    · have e : (xs (Int32.toNatClampNeg v3) &&& 63).toInt = 2 := by rw [q2]; rfl
      refine g_tableIn (off := 201) (tgt := 234) C d_law_33 (by rw [e]; decide) (by rw [e]; decide) (by rw [e]; rfl) rfl ?_
      exact law_c2 C hX hbl hL ht2 hix hW hI hU hG hT hP hA hS0 hS1 hS2 hS3 hS4 hS5 K
    by_cases q3 : (xs (Int32.toNatClampNeg v3) &&& 63) = 3
    · have e : (xs (Int32.toNatClampNeg v3) &&& 63).toInt = 3 := by rw [q3]; rfl
      refine g_tableIn (off := 224) (tgt := 257) C d_law_33 (by rw [e]; decide) (by rw [e]; decide) (by rw [e]; rfl) rfl ?_
      exact law_c3 C hX hbl hL ht2 hix hW hI hU hG hT hP hA hS0 hS1 hS2 hS3 hS4 hS5 K
    by_cases q4 : (xs (Int32.toNatClampNeg v3) &&& 63) = 4
    · have e : (xs (Int32.toNatClampNeg v3) &&& 63).toInt = 4 := by rw [q4]; rfl
      refine g_tableIn (off := 267) (tgt := 300) C d_law_33 (by rw [e]; decide) (by rw [e]; decide) (by rw [e]; rfl) rfl ?_
      exact law_c4 C hX hbl hL ht2 hix hW hI hU hG hT hP hA hS0 hS1 hS2 hS3 hS4 hS5 K
    by_cases q5 : (xs (Int32.toNatClampNeg v3) &&& 63) = 5
    · have e : (xs (Int32.toNatClampNeg v3) &&& 63).toInt = 5 := by rw [q5]; rfl
      refine g_tableIn (off := 290) (tgt := 323) C d_law_33 (by rw [e]; decide) (by rw [e]; decide) (by rw [e]; rfl) rfl ?_
      exact law_c5 C hX hbl hL ht2 hix hW hI hU hG hT hP hA hS0 hS1 hS2 hS3 hS4 hS5 K
    by_cases q6 : (xs (Int32.toNatClampNeg v3) &&& 63) = 6
    · have e : (xs (Int32.toNatClampNeg v3) &&& 63).toInt = 6 := by rw [q6]; rfl
      refine g_tableIn (off := 303) (tgt := 336) C d_law_33 (by rw [e]; decide) (by rw [e]; decide) (by rw [e]; rfl) rfl ?_
      exact law_c6 C hX hbl hL ht2 hix hW hI hU hG hT hP hA hS0 hS1 hS2 hS3 hS4 hS5 K
    by_cases q7 : (xs (Int32.toNatClampNeg v3) &&& 63) = 7
    · have e : (xs (Int32.toNatClampNeg v3) &&& 63).toInt = 7 := by rw [q7]; rfl
      refine g_tableIn (off := 336) (tgt := 369) C d_law_33 (by rw [e]; decide) (by rw [e]; decide) (by rw [e]; rfl) rfl ?_
      exact law_c7 C hX hbl hL ht2 hix hW hI hU hG hT hP hA hS0 hS1 hS2 hS3 hS4 hS5 K
    by_cases q8 : (xs (Int32.toNatClampNeg v3) &&& 63) = 8
    · have e : (xs (Int32.toNatClampNeg v3) &&& 63).toInt = 8 := by rw [q8]; rfl
      refine g_tableIn (off := 369) (tgt := 402) C d_law_33 (by rw [e]; decide) (by rw [e]; decide) (by rw [e]; rfl) rfl ?_
      exact law_c8 C hX hbl hL ht2 hix hW hI hU hG hT hP hA hS0 hS1 hS2 hS3 hS4 hS5 K
    by_cases q9 : (xs (Int32.toNatClampNeg v3) &&& 63) = 9
    · have e : (xs (Int32.toNatClampNeg v3) &&& 63).toInt = 9 := by rw [q9]; rfl
      refine g_tableIn (off := 392) (tgt := 425) C d_law_33 (by rw [e]; decide) (by rw [e]; decide) (by rw [e]; rfl) rfl ?_
      exact law_c9 C hX hbl hL ht2 hix hW hI hU hG hT hP hA hS0 hS1 hS2 hS3 hS4 hS5 K
    by_cases q10 : (xs (Int32.toNatClampNeg v3) &&& 63) = 10
    · have e : (xs (Int32.toNatClampNeg v3) &&& 63).toInt = 10 := by rw [q10]; rfl
      refine g_tableIn (off := 425) (tgt := 458) C d_law_33 (by rw [e]; decide) (by rw [e]; decide) (by rw [e]; rfl) rfl ?_
      exact law_c10 C hX hbl hL ht2 hix hW hI hU hG hT hP hA hS0 hS1 hS2 hS3 hS4 hS5 K
    by_cases q11 : (xs (Int32.toNatClampNeg v3) &&& 63) = 11
    · have e : (xs (Int32.toNatClampNeg v3) &&& 63).toInt = 11 := by rw [q11]; rfl
      refine g_tableIn (off := 458) (tgt := 491) C d_law_33 (by rw [e]; decide) (by rw [e]; decide) (by rw [e]; rfl) rfl ?_
      exact law_c11 C hX hbl hL ht2 hix hW hI hU hG hT hP hA hS0 hS1 hS2 hS3 hS4 hS5 K
    by_cases q12 : (xs (Int32.toNatClampNeg v3) &&& 63) = 12
    · have e : (xs (Int32.toNatClampNeg v3) &&& 63).toInt = 12 := by rw [q12]; rfl
      refine g_tableIn (off := 471) (tgt := 504) C d_law_33 (by rw [e]; decide) (by rw [e]; decide) (by rw [e]; rfl) rfl ?_
      exact law_c12 C hX hbl hL ht2 hix hW hI hU hG hT hP hA hS0 hS1 hS2 hS3 hS4 hS5 K
    by_cases q13 : (xs (Int32.toNatClampNeg v3) &&& 63) = 13
    · have e : (xs (Int32.toNatClampNeg v3) &&& 63).toInt = 13 := by rw [q13]; rfl
      refine g_tableIn (off := 494) (tgt := 527) C d_law_33 (by rw [e]; decide) (by rw [e]; decide) (by rw [e]; rfl) rfl ?_
      exact law_c13 C hX hbl hL ht2 hix hW hI hU hG hT hP hA hS0 hS1 hS2 hS3 hS4 hS5 K
    by_cases q14 : (xs (Int32.toNatClampNeg v3) &&& 63) = 14
    · have e : (xs (Int32.toNatClampNeg v3) &&& 63).toInt = 14 := by rw [q14]; rfl
      refine g_tableIn (off := 517) (tgt := 550) C d_law_33 (by rw [e]; decide) (by rw [e]; decide) (by rw [e]; rfl) rfl ?_
      exact law_c14 C hX hbl hL ht2 hix hW hI hU hG hT hP hA hS0 hS1 hS2 hS3 hS4 hS5 K
    by_cases q15 : (xs (Int32.toNatClampNeg v3) &&& 63) = 15
    · have e : (xs (Int32.toNatClampNeg v3) &&& 63).toInt = 15 := by rw [q15]; rfl
      refine g_tableIn (off := 540) (tgt := 573) C d_law_33 (by rw [e]; decide) (by rw [e]; decide) (by rw [e]; rfl) rfl ?_
      exact law_c15 C hX hbl hL ht2 hix hW hI hU hG hT hP hA hS0 hS1 hS2 hS3 hS4 hS5 K
    by_cases q16 : (xs (Int32.toNatClampNeg v3) &&& 63) = 16
    · have e : (xs (Int32.toNatClampNeg v3) &&& 63).toInt = 16 := by rw [q16]; rfl
      refine g_tableIn (off := 563) (tgt := 596) C d_law_33 (by rw [e]; decide) (by rw [e]; decide) (by rw [e]; rfl) rfl ?_
      exact law_c16 C hX hbl hL ht2 hix hW hI hU hG hT hP hA hS0 hS1 hS2 hS3 hS4 hS5 K
    by_cases q17 : (xs (Int32.toNatClampNeg v3) &&& 63) = 17
    · have e : (xs (Int32.toNatClampNeg v3) &&& 63).toInt = 17 := by rw [q17]; rfl
      refine g_tableIn (off := 596) (tgt := 629) C d_law_33 (by rw [e]; decide) (by rw [e]; decide) (by rw [e]; rfl) rfl ?_
      exact law_c17 C hX hbl hL ht2 hix hW hI hU hG hT hP hA hS0 hS1 hS2 hS3 hS4 hS5 K
    by_cases q18 : (xs (Int32.toNatClampNeg v3) &&& 63) = 18
    · have e : (xs (Int32.toNatClampNeg v3) &&& 63).toInt = 18 := by rw [q18]; rfl
      refine g_tableIn (off := 619) (tgt := 652) C d_law_33 (by rw [e]; decide) (by rw [e]; decide) (by rw [e]; rfl) rfl ?_
      exact law_c18 C hX hbl hL ht2 hix hW hI hU hG hT hP hA hS0 hS1 hS2 hS3 hS4 hS5 K
    by_cases q19 : (xs (Int32.toNatClampNeg v3) &&& 63) = 19
    · have e : (xs (Int32.toNatClampNeg v3) &&& 63).toInt = 19 := by rw [q19]; rfl
      refine g_tableIn (off := 683) (tgt := 716) C d_law_33 (by rw [e]; decide) (by rw [e]; decide) (by rw [e]; rfl) rfl ?_
      exact law_c19 C hX hbl hL ht2 hix hW hI hU hG hT hP hA hS0 hS1 hS2 hS3 hS4 hS5 K
    by_cases q20 : (xs (Int32.toNatClampNeg v3) &&& 63) = 20
    · have e : (xs (Int32.toNatClampNeg v3) &&& 63).toInt = 20 := by rw [q20]; rfl
      refine g_tableIn (off := 746) (tgt := 779) C d_law_33 (by rw [e]; decide) (by rw [e]; decide) (by rw [e]; rfl) rfl ?_
      exact law_c20 C hX hbl hL ht2 hix hW hI hU hG hT hP hA hS0 hS1 hS2 hS3 hS4 hS5 K
    by_cases q21 : (xs (Int32.toNatClampNeg v3) &&& 63) = 21
    · have e : (xs (Int32.toNatClampNeg v3) &&& 63).toInt = 21 := by rw [q21]; rfl
      refine g_tableIn (off := 789) (tgt := 822) C d_law_33 (by rw [e]; decide) (by rw [e]; decide) (by rw [e]; rfl) rfl ?_
      exact law_c21 C hX hbl hL ht2 hix hW hI hU hG hT hP hA hS0 hS1 hS2 hS3 hS4 hS5 K
    by_cases q22 : (xs (Int32.toNatClampNeg v3) &&& 63) = 22
    · have e : (xs (Int32.toNatClampNeg v3) &&& 63).toInt = 22 := by rw [q22]; rfl
      refine g_tableIn (off := 802) (tgt := 835) C d_law_33 (by rw [e]; decide) (by rw [e]; decide) (by rw [e]; rfl) rfl ?_
      exact law_c22 C hX hbl hL ht2 hix hW hI hU hG hT hP hA hS0 hS1 hS2 hS3 hS4 hS5 K
    by_cases q23 : (xs (Int32.toNatClampNeg v3) &&& 63) = 23
    · have e : (xs (Int32.toNatClampNeg v3) &&& 63).toInt = 23 := by rw [q23]; rfl
      refine g_tableIn (off := 815) (tgt := 848) C d_law_33 (by rw [e]; decide) (by rw [e]; decide) (by rw [e]; rfl) rfl ?_
      exact law_c23 C hX hbl hL ht2 hix hW hI hU hG hT hP hA hS0 hS1 hS2 hS3 hS4 hS5 K
    by_cases q24 : (xs (Int32.toNatClampNeg v3) &&& 63) = 24
    · have e : (xs (Int32.toNatClampNeg v3) &&& 63).toInt = 24 := by rw [q24]; rfl
      refine g_tableIn (off := 828) (tgt := 861) C d_law_33 (by rw [e]; decide) (by rw [e]; decide) (by rw [e]; rfl) rfl ?_
      exact law_c24 C hX hbl hL ht2 hix hW hI hU hG hT hP hA hS0 hS1 hS2 hS3 hS4 hS5 K
    by_cases q25 : (xs (Int32.toNatClampNeg v3) &&& 63) = 25
    · have e : (xs (Int32.toNatClampNeg v3) &&& 63).toInt = 25 := by rw [q25]; rfl
      refine g_tableIn (off := 841) (tgt := 874) C d_law_33 (by rw [e]; decide) (by rw [e]; decide) (by rw [e]; rfl) rfl ?_
      exact law_c25 C hX hbl hL ht2 hix hW hI hU hG hT hP hA hS0 hS1 hS2 hS3 hS4 hS5 K
    by_cases q26 : (xs (Int32.toNatClampNeg v3) &&& 63) = 26
    · have e : (xs (Int32.toNatClampNeg v3) &&& 63).toInt = 26 := by rw [q26]; rfl
      refine g_tableIn (off := 864) (tgt := 897) C d_law_33 (by rw [e]; decide) (by rw [e]; decide) (by rw [e]; rfl) rfl ?_
      exact law_c26 C hX hbl hL ht2 hix hW hI hU hG hT hP hA hS0 hS1 hS2 hS3 hS4 hS5 K
    by_cases q27 : (xs (Int32.toNatClampNeg v3) &&& 63) = 27
    · have e : (xs (Int32.toNatClampNeg v3) &&& 63).toInt = 27 := by rw [q27]; rfl
      refine g_tableIn (off := 907) (tgt := 940) C d_law_33 (by rw [e]; decide) (by rw [e]; decide) (by rw [e]; rfl) rfl ?_
      exact law_c27 C hX hbl hL ht2 hix hW hI hU hG hT hP hA hS0 hS1 hS2 hS3 hS4 hS5 K
    by_cases q28 : (xs (Int32.toNatClampNeg v3) &&& 63) = 28
    · have e : (xs (Int32.toNatClampNeg v3) &&& 63).toInt = 28 := by rw [q28]; rfl
      refine g_tableIn (off := 930) (tgt := 963) C d_law_33 (by rw [e]; decide) (by rw [e]; decide) (by rw [e]; rfl) rfl ?_
      exact law_c28 C hX hbl hL ht2 hix hW hI hU hG hT hP hA hS0 hS1 hS2 hS3 hS4 hS5 K
    by_cases q29 : (xs (Int32.toNatClampNeg v3) &&& 63) = 29
    · have e : (xs (Int32.toNatClampNeg v3) &&& 63).toInt = 29 := by rw [q29]; rfl
      refine g_tableIn (off := 963) (tgt := 996) C d_law_33 (by rw [e]; decide) (by rw [e]; decide) (by rw [e]; rfl) rfl ?_
      exact law_c29 C hX hbl hL ht2 hix hW hI hU hG hT hP hA hS0 hS1 hS2 hS3 hS4 hS5 K
    by_cases q30 : (xs (Int32.toNatClampNeg v3) &&& 63) = 30
    · have e : (xs (Int32.toNatClampNeg v3) &&& 63).toInt = 30 := by rw [q30]; rfl
      refine g_tableIn (off := 1006) (tgt := 1039) C d_law_33 (by rw [e]; decide) (by rw [e]; decide) (by rw [e]; rfl) rfl ?_
      exact law_c30 C hX hbl hL ht2 hix hW hI hU hG hT hP hA hS0 hS1 hS2 hS3 hS4 hS5 K
    by_cases q31 : (xs (Int32.toNatClampNeg v3) &&& 63) = 31
    · have e : (xs (Int32.toNatClampNeg v3) &&& 63).toInt = 31 := by rw [q31]; rfl
      refine g_tableIn (off := 1079) (tgt := 1112) C d_law_33 (by rw [e]; decide) (by rw [e]; decide) (by rw [e]; rfl) rfl ?_
      exact law_c31 C hX hbl hL ht2 hix hW hI hU hG hT hP hA hS0 hS1 hS2 hS3 hS4 hS5 K
    by_cases q32 : (xs (Int32.toNatClampNeg v3) &&& 63) = 32
    · have e : (xs (Int32.toNatClampNeg v3) &&& 63).toInt = 32 := by rw [q32]; rfl
      refine g_tableIn (off := 1113) (tgt := 1146) C d_law_33 (by rw [e]; decide) (by rw [e]; decide) (by rw [e]; rfl) rfl ?_
      exact law_c32 C hX hbl hL ht2 hix hW hI hU hG hT hP hA hS0 hS1 hS2 hS3 hS4 hS5 K
    by_cases q33 : (xs (Int32.toNatClampNeg v3) &&& 63) = 33
    · have e : (xs (Int32.toNatClampNeg v3) &&& 63).toInt = 33 := by rw [q33]; rfl
      refine g_tableIn (off := 1176) (tgt := 1209) C d_law_33 (by rw [e]; decide) (by rw [e]; decide) (by rw [e]; rfl) rfl ?_
      exact law_c33 C hX hbl hL ht2 hix hW hI hU hG hT hP hA hS0 hS1 hS2 hS3 hS4 hS5 K
    by_cases q34 : (xs (Int32.toNatClampNeg v3) &&& 63) = 34
    · have e : (xs (Int32.toNatClampNeg v3) &&& 63).toInt = 34 := by rw [q34]; rfl
      refine g_tableIn (off := 1209) (tgt := 1242) C d_law_33 (by rw [e]; decide) (by rw [e]; decide) (by rw [e]; rfl) rfl ?_
      exact law_c34 C hX hbl hL ht2 hix hW hI hU hG hT hP hA hS0 hS1 hS2 hS3 hS4 hS5 K
    refine g_tableOut (tgt := 1265) C d_law_33 (by have e0 := lv_neT q0 (show (0 : Int32).toInt = 0 from rfl); have e1 := lv_neT q1 (show (1 : Int32).toInt = 1 from rfl); have e2 := lv_neT q2 (show (2 : Int32).toInt = 2 from rfl); have e3 := lv_neT q3 (show (3 : Int32).toInt = 3 from rfl); have e4 := lv_neT q4 (show (4 : Int32).toInt = 4 from rfl); have e5 := lv_neT q5 (show (5 : Int32).toInt = 5 from rfl); have e6 := lv_neT q6 (show (6 : Int32).toInt = 6 from rfl); have e7 := lv_neT q7 (show (7 : Int32).toInt = 7 from rfl); have e8 := lv_neT q8 (show (8 : Int32).toInt = 8 from rfl); have e9 := lv_neT q9 (show (9 : Int32).toInt = 9 from rfl); have e10 := lv_neT q10 (show (10 : Int32).toInt = 10 from rfl); have e11 := lv_neT q11 (show (11 : Int32).toInt = 11 from rfl); have e12 := lv_neT q12 (show (12 : Int32).toInt = 12 from rfl); have e13 := lv_neT q13 (show (13 : Int32).toInt = 13 from rfl); have e14 := lv_neT q14 (show (14 : Int32).toInt = 14 from rfl); have e15 := lv_neT q15 (show (15 : Int32).toInt = 15 from rfl); have e16 := lv_neT q16 (show (16 : Int32).toInt = 16 from rfl); have e17 := lv_neT q17 (show (17 : Int32).toInt = 17 from rfl); have e18 := lv_neT q18 (show (18 : Int32).toInt = 18 from rfl); have e19 := lv_neT q19 (show (19 : Int32).toInt = 19 from rfl); have e20 := lv_neT q20 (show (20 : Int32).toInt = 20 from rfl); have e21 := lv_neT q21 (show (21 : Int32).toInt = 21 from rfl); have e22 := lv_neT q22 (show (22 : Int32).toInt = 22 from rfl); have e23 := lv_neT q23 (show (23 : Int32).toInt = 23 from rfl); have e24 := lv_neT q24 (show (24 : Int32).toInt = 24 from rfl); have e25 := lv_neT q25 (show (25 : Int32).toInt = 25 from rfl); have e26 := lv_neT q26 (show (26 : Int32).toInt = 26 from rfl); have e27 := lv_neT q27 (show (27 : Int32).toInt = 27 from rfl); have e28 := lv_neT q28 (show (28 : Int32).toInt = 28 from rfl); have e29 := lv_neT q29 (show (29 : Int32).toInt = 29 from rfl); have e30 := lv_neT q30 (show (30 : Int32).toInt = 30 from rfl); have e31 := lv_neT q31 (show (31 : Int32).toInt = 31 from rfl); have e32 := lv_neT q32 (show (32 : Int32).toInt = 32 from rfl); have e33 := lv_neT q33 (show (33 : Int32).toInt = 33 from rfl); have e34 := lv_neT q34 (show (34 : Int32).toInt = 34 from rfl); omega) rfl ?_
    exact K c0 c1 c2 c3 c4 c5 c6 c7 c8 c9 c10 c11 c12 c13 c14 c15 c16 c17 c18 c19 c20 c21 c22 c23 c24 c25 c26 c27 c28 c29 c30 c31 c32 c33 c34 c35 c36 c37 c38 c39 c40 c41 c42 c43 c44 c45 c46 c47 c48 c49 c50 c51 c52 c53 c54 c55 c56 c57 c58 c59 c60 c61 c62 c63 c64 c65 c66 c67 c68 c69 c70 c71 c72 c73 c74 c75 c76 c77 c78 c79 c80 c81 c82 c83 c84 c85 c86 c87 c88 c89 c90 c91 c92 c93 c94 c95 c96 c97 c98 c99 c100 c101 c102 c103 c104 c105 c106 c107 c108 c109 c110 c111 c112 c113 c114 c115 c116 c117 c118 c119 c120 c121 c122 c123 c124 c125 c126 c127 c128 c129 c130 c131 c132 c133 c134 c135 c136 c137 c138 c139 c140 c141 c142 c143 (R_wall_mono hW) (R_image_mono hI (fun h => h)) hU hG hT hP hA hS0 hS1 hS2 hS3 hS4 hS5
