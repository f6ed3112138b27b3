/-! Constants and fields, by program. -/
theorem xk_im1 : Int32.ofInt (-1) = (-1) := rfl
theorem xk_i0 : Int32.ofInt 0 = 0 := rfl
theorem xk_i1 : Int32.ofInt 1 = 1 := rfl
theorem xk_i2 : Int32.ofInt 2 = 2 := rfl
theorem xk_i3 : Int32.ofInt 3 = 3 := rfl
theorem xk_i4 : Int32.ofInt 4 = 4 := rfl
theorem xk_i5 : Int32.ofInt 5 = 5 := rfl
theorem xk_bm12 : (Int8.ofInt (-12)).toInt32 = (-12) := rfl
theorem xk_bm11 : (Int8.ofInt (-11)).toInt32 = (-11) := rfl
theorem xk_bm10 : (Int8.ofInt (-10)).toInt32 = (-10) := rfl
theorem xk_bm9 : (Int8.ofInt (-9)).toInt32 = (-9) := rfl
theorem xk_bm8 : (Int8.ofInt (-8)).toInt32 = (-8) := rfl
theorem xk_bm7 : (Int8.ofInt (-7)).toInt32 = (-7) := rfl
theorem xk_bm6 : (Int8.ofInt (-6)).toInt32 = (-6) := rfl
theorem xk_bm5 : (Int8.ofInt (-5)).toInt32 = (-5) := rfl
theorem xk_bm2 : (Int8.ofInt (-2)).toInt32 = (-2) := rfl
theorem xk_b6 : (Int8.ofInt 6).toInt32 = 6 := rfl
theorem xk_b7 : (Int8.ofInt 7).toInt32 = 7 := rfl
theorem xk_b8 : (Int8.ofInt 8).toInt32 = 8 := rfl
theorem xk_b9 : (Int8.ofInt 9).toInt32 = 9 := rfl
theorem xk_b10 : (Int8.ofInt 10).toInt32 = 10 := rfl
theorem xk_b11 : (Int8.ofInt 11).toInt32 = 11 := rfl
theorem xk_b12 : (Int8.ofInt 12).toInt32 = 12 := rfl
theorem xk_b13 : (Int8.ofInt 13).toInt32 = 13 := rfl
theorem xk_b14 : (Int8.ofInt 14).toInt32 = 14 := rfl
theorem xk_b15 : (Int8.ofInt 15).toInt32 = 15 := rfl
theorem xk_b16 : (Int8.ofInt 16).toInt32 = 16 := rfl
theorem xk_b17 : (Int8.ofInt 17).toInt32 = 17 := rfl
theorem xk_b18 : (Int8.ofInt 18).toInt32 = 18 := rfl
theorem xk_b19 : (Int8.ofInt 19).toInt32 = 19 := rfl
theorem xk_b20 : (Int8.ofInt 20).toInt32 = 20 := rfl
theorem xk_b21 : (Int8.ofInt 21).toInt32 = 21 := rfl
theorem xk_b22 : (Int8.ofInt 22).toInt32 = 22 := rfl
theorem xk_b23 : (Int8.ofInt 23).toInt32 = 23 := rfl
theorem xk_b24 : (Int8.ofInt 24).toInt32 = 24 := rfl
theorem xk_b25 : (Int8.ofInt 25).toInt32 = 25 := rfl
theorem xk_b26 : (Int8.ofInt 26).toInt32 = 26 := rfl
theorem xk_b27 : (Int8.ofInt 27).toInt32 = 27 := rfl
theorem xk_b28 : (Int8.ofInt 28).toInt32 = 28 := rfl
theorem xk_b29 : (Int8.ofInt 29).toInt32 = 29 := rfl
theorem xk_b30 : (Int8.ofInt 30).toInt32 = 30 := rfl
theorem xk_b31 : (Int8.ofInt 31).toInt32 = 31 := rfl
theorem xk_b32 : (Int8.ofInt 32).toInt32 = 32 := rfl
theorem xk_b33 : (Int8.ofInt 33).toInt32 = 33 := rfl
theorem xk_b34 : (Int8.ofInt 34).toInt32 = 34 := rfl
theorem xk_b35 : (Int8.ofInt 35).toInt32 = 35 := rfl
theorem xk_b36 : (Int8.ofInt 36).toInt32 = 36 := rfl
theorem xk_b37 : (Int8.ofInt 37).toInt32 = 37 := rfl
theorem xk_b40 : (Int8.ofInt 40).toInt32 = 40 := rfl
theorem xk_b41 : (Int8.ofInt 41).toInt32 = 41 := rfl
theorem xk_b42 : (Int8.ofInt 42).toInt32 = 42 := rfl
theorem xk_b43 : (Int8.ofInt 43).toInt32 = 43 := rfl
theorem xk_b44 : (Int8.ofInt 44).toInt32 = 44 := rfl
theorem xk_b45 : (Int8.ofInt 45).toInt32 = 45 := rfl
theorem xk_b48 : (Int8.ofInt 48).toInt32 = 48 := rfl
theorem xk_b56 : (Int8.ofInt 56).toInt32 = 56 := rfl
theorem xk_b57 : (Int8.ofInt 57).toInt32 = 57 := rfl
theorem xk_b59 : (Int8.ofInt 59).toInt32 = 59 := rfl
theorem xk_b60 : (Int8.ofInt 60).toInt32 = 60 := rfl
theorem xk_b61 : (Int8.ofInt 61).toInt32 = 61 := rfl
theorem xk_b63 : (Int8.ofInt 63).toInt32 = 63 := rfl
theorem xk_b92 : (Int8.ofInt 92).toInt32 = 92 := rfl
theorem xk_b96 : (Int8.ofInt 96).toInt32 = 96 := rfl
theorem xk_b97 : (Int8.ofInt 97).toInt32 = 97 := rfl
theorem xk_b99 : (Int8.ofInt 99).toInt32 = 99 := rfl
theorem xk_b100 : (Int8.ofInt 100).toInt32 = 100 := rfl
theorem xk_b101 : (Int8.ofInt 101).toInt32 = 101 := rfl
theorem xk_b120 : (Int8.ofInt 120).toInt32 = 120 := rfl
theorem xk_b121 : (Int8.ofInt 121).toInt32 = 121 := rfl
theorem xk_b122 : (Int8.ofInt 122).toInt32 = 122 := rfl
theorem xk_b123 : (Int8.ofInt 123).toInt32 = 123 := rfl
theorem xk_b124 : (Int8.ofInt 124).toInt32 = 124 := rfl
theorem xk_b125 : (Int8.ofInt 125).toInt32 = 125 := rfl
theorem xk_b126 : (Int8.ofInt 126).toInt32 = 126 := rfl
theorem xk_s128 : (Int16.ofInt 128).toInt32 = 128 := rfl
theorem xk_s146 : (Int16.ofInt 146).toInt32 = 146 := rfl
theorem xk_s176 : (Int16.ofInt 176).toInt32 = 176 := rfl
theorem xk_s200 : (Int16.ofInt 200).toInt32 = 200 := rfl
theorem xk_s212 : (Int16.ofInt 212).toInt32 = 212 := rfl
theorem xk_s240 : (Int16.ofInt 240).toInt32 = 240 := rfl
theorem xk_s241 : (Int16.ofInt 241).toInt32 = 241 := rfl
theorem xk_s243 : (Int16.ofInt 243).toInt32 = 243 := rfl
theorem xk_s255 : (Int16.ofInt 255).toInt32 = 255 := rfl
theorem xk_s729 : (Int16.ofInt 729).toInt32 = 729 := rfl
theorem xk_s999 : (Int16.ofInt 999).toInt32 = 999 := rfl
theorem xk_s1000 : (Int16.ofInt 1000).toInt32 = 1000 := rfl
theorem xk_s1002 : (Int16.ofInt 1002).toInt32 = 1002 := rfl
theorem xk_s1100 : (Int16.ofInt 1100).toInt32 = 1100 := rfl
theorem xk_s1176 : (Int16.ofInt 1176).toInt32 = 1176 := rfl
theorem xk_s1177 : (Int16.ofInt 1177).toInt32 = 1177 := rfl
theorem xk_s1183 : (Int16.ofInt 1183).toInt32 = 1183 := rfl
theorem xk_s1195 : (Int16.ofInt 1195).toInt32 = 1195 := rfl
theorem xk_s1232 : (Int16.ofInt 1232).toInt32 = 1232 := rfl
theorem xk_s1251 : (Int16.ofInt 1251).toInt32 = 1251 := rfl
theorem xk_s1288 : (Int16.ofInt 1288).toInt32 = 1288 := rfl
theorem xk_s1446 : (Int16.ofInt 1446).toInt32 = 1446 := rfl
theorem xk_s2200 : (Int16.ofInt 2200).toInt32 = 2200 := rfl
theorem xk_s4096 : (Int16.ofInt 4096).toInt32 = 4096 := rfl
theorem xk_s9999 : (Int16.ofInt 9999).toInt32 = 9999 := rfl
theorem xk_im8 : Int32.ofInt (-8) = (-8) := rfl
theorem xk_i7 : Int32.ofInt 7 = 7 := rfl
theorem xk_l0 : Int64.ofNat ((0 : Fin 2) : Nat) = 0 := rfl
theorem xk_l1 : Int64.ofNat ((1 : Fin 2) : Nat) = 1 := rfl
theorem xk_c252645135 : Int32.ofInt 252645135 = 252645135 := rfl
theorem xk_c858993459 : Int32.ofInt 858993459 = 858993459 := rfl
theorem xk_c1431655765 : Int32.ofInt 1431655765 = 1431655765 := rfl
theorem xk_c2147483647 : Int32.ofInt 2147483647 = 2147483647 := rfl
theorem xk_d6 : Int64.ofInt 6 = 6 := rfl
theorem xk_d10 : Int64.ofInt 10 = 10 := rfl
theorem xk_d32 : Int64.ofInt 32 = 32 := rfl
theorem xk_d37 : Int64.ofInt 37 = 37 := rfl
theorem xk_d48 : Int64.ofInt 48 = 48 := rfl
theorem xk_d347 : Int64.ofInt 347 = 347 := rfl
theorem xk_d573 : Int64.ofInt 573 = 573 := rfl
theorem xk_d1891 : Int64.ofInt 1891 = 1891 := rfl
theorem xk_d6258 : Int64.ofInt 6258 = 6258 := rfl
theorem xk_d12345 : Int64.ofInt 12345 = 12345 := rfl
theorem xk_d19741 : Int64.ofInt 19741 = 19741 := rfl
theorem xk_d56296 : Int64.ofInt 56296 = 56296 := rfl
theorem xk_d65536 : Int64.ofInt 65536 = 65536 := rfl
theorem xk_d103383 : Int64.ofInt 103383 = 103383 := rfl
theorem xk_d153785 : Int64.ofInt 153785 = 153785 := rfl
theorem xk_d570026 : Int64.ofInt 570026 = 570026 := rfl
theorem xk_d629152 : Int64.ofInt 629152 = 629152 := rfl
theorem xk_d679553 : Int64.ofInt 679553 = 679553 := rfl
theorem xk_d679843 : Int64.ofInt 679843 = 679843 := rfl
theorem xk_d730246 : Int64.ofInt 730246 = 730246 := rfl
theorem xk_d919322 : Int64.ofInt 919322 = 919322 := rfl
theorem xk_d932857 : Int64.ofInt 932857 = 932857 := rfl
theorem xk_d974850 : Int64.ofInt 974850 = 974850 := rfl
theorem xk_d1000000 : Int64.ofInt 1000000 = 1000000 := rfl
theorem xk_d1178051 : Int64.ofInt 1178051 = 1178051 := rfl
theorem xk_d4003715 : Int64.ofInt 4003715 = 4003715 := rfl
theorem xk_d6243123 : Int64.ofInt 6243123 = 6243123 := rfl
theorem xk_d6395136 : Int64.ofInt 6395136 = 6395136 := rfl
theorem xk_d8421248 : Int64.ofInt 8421248 = 8421248 := rfl
theorem xk_d10492707 : Int64.ofInt 10492707 = 10492707 := rfl
theorem xk_d11873910 : Int64.ofInt 11873910 = 11873910 := rfl
theorem xk_d22567355 : Int64.ofInt 22567355 = 22567355 := rfl
theorem xk_d23280049 : Int64.ofInt 23280049 = 23280049 := rfl
theorem xk_d27011078 : Int64.ofInt 27011078 = 27011078 := rfl
theorem xk_d28930245 : Int64.ofInt 28930245 = 28930245 := rfl
theorem xk_d30596128 : Int64.ofInt 30596128 = 30596128 := rfl
theorem xk_d36629575 : Int64.ofInt 36629575 = 36629575 := rfl
theorem xk_d37549136 : Int64.ofInt 37549136 = 37549136 := rfl
theorem xk_d236456608 : Int64.ofInt 236456608 = 236456608 := rfl
theorem xk_d381368328 : Int64.ofInt 381368328 = 381368328 := rfl
theorem xk_d450264416 : Int64.ofInt 450264416 = 450264416 := rfl
theorem xk_d1103515245 : Int64.ofInt 1103515245 = 1103515245 := rfl
theorem xk_d1288277118 : Int64.ofInt 1288277118 = 1288277118 := rfl
theorem xk_d1355082062 : Int64.ofInt 1355082062 = 1355082062 := rfl
theorem xk_d1396960994 : Int64.ofInt 1396960994 = 1396960994 := rfl
theorem xk_d2147483648 : Int64.ofInt 2147483648 = 2147483648 := rfl
theorem xk_d4294967295 : Int64.ofInt 4294967295 = 4294967295 := rfl
theorem xk_d34005868481 : Int64.ofInt 34005868481 = 34005868481 := rfl
theorem xv_0_0 (σ : dm_St) (q : Nat) : dm_fv σ q 0 0 = dm_R σ q 0 := rfl
theorem xt_0_0 : dm_fk (dm_ty 0 0) = 2 := rfl
theorem xv_0_1 (σ : dm_St) (q : Nat) : dm_fv σ q 0 1 = .int (dm_I σ q 1) := rfl
theorem xt_0_1 : dm_fk (dm_ty 0 1) = 0 := rfl
theorem xb_0_1 (v : Int32) : dm_fits (dm_ty 0 1) v = true := rfl
theorem xv_0_2 (σ : dm_St) (q : Nat) : dm_fv σ q 0 2 = dm_R σ q 2 := rfl
theorem xt_0_2 : dm_fk (dm_ty 0 2) = 2 := rfl
theorem xv_0_3 (σ : dm_St) (q : Nat) : dm_fv σ q 0 3 = .int (dm_I σ q 3) := rfl
theorem xt_0_3 : dm_fk (dm_ty 0 3) = 0 := rfl
theorem xb_0_3 (v : Int32) : dm_fits (dm_ty 0 3) v = true := rfl
theorem xv_0_4 (σ : dm_St) (q : Nat) : dm_fv σ q 0 4 = dm_R σ q 4 := rfl
theorem xt_0_4 : dm_fk (dm_ty 0 4) = 2 := rfl
theorem xv_0_5 (σ : dm_St) (q : Nat) : dm_fv σ q 0 5 = dm_R σ q 5 := rfl
theorem xt_0_5 : dm_fk (dm_ty 0 5) = 2 := rfl
theorem xv_0_6 (σ : dm_St) (q : Nat) : dm_fv σ q 0 6 = dm_R σ q 6 := rfl
theorem xt_0_6 : dm_fk (dm_ty 0 6) = 2 := rfl
theorem xv_0_7 (σ : dm_St) (q : Nat) : dm_fv σ q 0 7 = dm_R σ q 7 := rfl
theorem xt_0_7 : dm_fk (dm_ty 0 7) = 2 := rfl
theorem xv_1_0 (σ : dm_St) (q : Nat) : dm_fv σ q 1 0 = .int (dm_I σ q 0) := rfl
theorem xt_1_0 : dm_fk (dm_ty 1 0) = 0 := rfl
theorem xb_1_0 (v : Int32) : dm_fits (dm_ty 1 0) v = (v == 0 || v == 1) := rfl
theorem xv_1_1 (σ : dm_St) (q : Nat) : dm_fv σ q 1 1 = dm_R σ q 1 := rfl
theorem xt_1_1 : dm_fk (dm_ty 1 1) = 2 := rfl
theorem xv_1_2 (σ : dm_St) (q : Nat) : dm_fv σ q 1 2 = dm_R σ q 2 := rfl
theorem xt_1_2 : dm_fk (dm_ty 1 2) = 2 := rfl
theorem xv_1_3 (σ : dm_St) (q : Nat) : dm_fv σ q 1 3 = dm_R σ q 3 := rfl
theorem xt_1_3 : dm_fk (dm_ty 1 3) = 2 := rfl
theorem xv_1_4 (σ : dm_St) (q : Nat) : dm_fv σ q 1 4 = .int (dm_I σ q 4) := rfl
theorem xt_1_4 : dm_fk (dm_ty 1 4) = 0 := rfl
theorem xb_1_4 (v : Int32) : dm_fits (dm_ty 1 4) v = true := rfl
theorem xv_1_5 (σ : dm_St) (q : Nat) : dm_fv σ q 1 5 = .int (dm_I σ q 5) := rfl
theorem xt_1_5 : dm_fk (dm_ty 1 5) = 0 := rfl
theorem xb_1_5 (v : Int32) : dm_fits (dm_ty 1 5) v = (v == 0 || v == 1) := rfl
theorem xv_2_0 (σ : dm_St) (q : Nat) : dm_fv σ q 2 0 = dm_R σ q 0 := rfl
theorem xt_2_0 : dm_fk (dm_ty 2 0) = 2 := rfl
theorem xv_2_1 (σ : dm_St) (q : Nat) : dm_fv σ q 2 1 = dm_R σ q 1 := rfl
theorem xt_2_1 : dm_fk (dm_ty 2 1) = 2 := rfl
theorem xv_2_2 (σ : dm_St) (q : Nat) : dm_fv σ q 2 2 = dm_R σ q 2 := rfl
theorem xt_2_2 : dm_fk (dm_ty 2 2) = 2 := rfl
theorem xv_2_3 (σ : dm_St) (q : Nat) : dm_fv σ q 2 3 = dm_R σ q 3 := rfl
theorem xt_2_3 : dm_fk (dm_ty 2 3) = 2 := rfl
theorem xv_2_4 (σ : dm_St) (q : Nat) : dm_fv σ q 2 4 = dm_R σ q 4 := rfl
theorem xt_2_4 : dm_fk (dm_ty 2 4) = 2 := rfl
theorem xv_2_5 (σ : dm_St) (q : Nat) : dm_fv σ q 2 5 = .int (dm_I σ q 5) := rfl
theorem xt_2_5 : dm_fk (dm_ty 2 5) = 0 := rfl
theorem xb_2_5 (v : Int32) : dm_fits (dm_ty 2 5) v = true := rfl
theorem xv_2_6 (σ : dm_St) (q : Nat) : dm_fv σ q 2 6 = .int (dm_I σ q 6) := rfl
theorem xt_2_6 : dm_fk (dm_ty 2 6) = 0 := rfl
theorem xb_2_6 (v : Int32) : dm_fits (dm_ty 2 6) v = true := rfl
theorem xv_2_7 (σ : dm_St) (q : Nat) : dm_fv σ q 2 7 = .int (dm_I σ q 7) := rfl
theorem xt_2_7 : dm_fk (dm_ty 2 7) = 0 := rfl
theorem xb_2_7 (v : Int32) : dm_fits (dm_ty 2 7) v = true := rfl
theorem xv_2_8 (σ : dm_St) (q : Nat) : dm_fv σ q 2 8 = .int (dm_I σ q 8) := rfl
theorem xt_2_8 : dm_fk (dm_ty 2 8) = 0 := rfl
theorem xb_2_8 (v : Int32) : dm_fits (dm_ty 2 8) v = (v == 0 || v == 1) := rfl
theorem xv_2_9 (σ : dm_St) (q : Nat) : dm_fv σ q 2 9 = .int (dm_I σ q 9) := rfl
theorem xt_2_9 : dm_fk (dm_ty 2 9) = 0 := rfl
theorem xb_2_9 (v : Int32) : dm_fits (dm_ty 2 9) v = (v == 0 || v == 1) := rfl
theorem xv_3_0 (σ : dm_St) (q : Nat) : dm_fv σ q 3 0 = dm_R σ q 0 := rfl
theorem xt_3_0 : dm_fk (dm_ty 3 0) = 2 := rfl
theorem xv_4_0 (σ : dm_St) (q : Nat) : dm_fv σ q 4 0 = dm_R σ q 0 := rfl
theorem xt_4_0 : dm_fk (dm_ty 4 0) = 2 := rfl
theorem xv_4_1 (σ : dm_St) (q : Nat) : dm_fv σ q 4 1 = dm_R σ q 1 := rfl
theorem xt_4_1 : dm_fk (dm_ty 4 1) = 2 := rfl
theorem xv_4_2 (σ : dm_St) (q : Nat) : dm_fv σ q 4 2 = dm_R σ q 2 := rfl
theorem xt_4_2 : dm_fk (dm_ty 4 2) = 2 := rfl
theorem xv_4_3 (σ : dm_St) (q : Nat) : dm_fv σ q 4 3 = .int (dm_I σ q 3) := rfl
theorem xt_4_3 : dm_fk (dm_ty 4 3) = 0 := rfl
theorem xb_4_3 (v : Int32) : dm_fits (dm_ty 4 3) v = true := rfl
theorem xv_5_0 (σ : dm_St) (q : Nat) : dm_fv σ q 5 0 = dm_R σ q 0 := rfl
theorem xt_5_0 : dm_fk (dm_ty 5 0) = 2 := rfl
theorem xv_5_1 (σ : dm_St) (q : Nat) : dm_fv σ q 5 1 = .int (dm_I σ q 1) := rfl
theorem xt_5_1 : dm_fk (dm_ty 5 1) = 0 := rfl
theorem xb_5_1 (v : Int32) : dm_fits (dm_ty 5 1) v = true := rfl
theorem xv_5_2 (σ : dm_St) (q : Nat) : dm_fv σ q 5 2 = .int (dm_I σ q 2) := rfl
theorem xt_5_2 : dm_fk (dm_ty 5 2) = 0 := rfl
theorem xb_5_2 (v : Int32) : dm_fits (dm_ty 5 2) v = true := rfl
theorem xv_5_3 (σ : dm_St) (q : Nat) : dm_fv σ q 5 3 = dm_R σ q 3 := rfl
theorem xt_5_3 : dm_fk (dm_ty 5 3) = 2 := rfl
theorem xv_5_4 (σ : dm_St) (q : Nat) : dm_fv σ q 5 4 = dm_R σ q 4 := rfl
theorem xt_5_4 : dm_fk (dm_ty 5 4) = 2 := rfl
theorem xv_5_5 (σ : dm_St) (q : Nat) : dm_fv σ q 5 5 = dm_R σ q 5 := rfl
theorem xt_5_5 : dm_fk (dm_ty 5 5) = 2 := rfl
theorem xv_5_6 (σ : dm_St) (q : Nat) : dm_fv σ q 5 6 = dm_R σ q 6 := rfl
theorem xt_5_6 : dm_fk (dm_ty 5 6) = 2 := rfl
theorem xv_5_7 (σ : dm_St) (q : Nat) : dm_fv σ q 5 7 = dm_R σ q 7 := rfl
theorem xt_5_7 : dm_fk (dm_ty 5 7) = 2 := rfl
theorem xv_6_0 (σ : dm_St) (q : Nat) : dm_fv σ q 6 0 = dm_R σ q 0 := rfl
theorem xt_6_0 : dm_fk (dm_ty 6 0) = 2 := rfl
theorem xv_6_1 (σ : dm_St) (q : Nat) : dm_fv σ q 6 1 = dm_R σ q 1 := rfl
theorem xt_6_1 : dm_fk (dm_ty 6 1) = 2 := rfl
theorem xv_6_2 (σ : dm_St) (q : Nat) : dm_fv σ q 6 2 = .int (dm_I σ q 2) := rfl
theorem xt_6_2 : dm_fk (dm_ty 6 2) = 0 := rfl
theorem xb_6_2 (v : Int32) : dm_fits (dm_ty 6 2) v = true := rfl
theorem xv_7_0 (σ : dm_St) (q : Nat) : dm_fv σ q 7 0 = .int (dm_I σ q 0) := rfl
theorem xt_7_0 : dm_fk (dm_ty 7 0) = 0 := rfl
theorem xb_7_0 (v : Int32) : dm_fits (dm_ty 7 0) v = true := rfl
theorem xv_7_1 (σ : dm_St) (q : Nat) : dm_fv σ q 7 1 = .int (dm_I σ q 1) := rfl
theorem xt_7_1 : dm_fk (dm_ty 7 1) = 0 := rfl
theorem xb_7_1 (v : Int32) : dm_fits (dm_ty 7 1) v = true := rfl
theorem xv_7_2 (σ : dm_St) (q : Nat) : dm_fv σ q 7 2 = .int (dm_I σ q 2) := rfl
theorem xt_7_2 : dm_fk (dm_ty 7 2) = 0 := rfl
theorem xb_7_2 (v : Int32) : dm_fits (dm_ty 7 2) v = true := rfl
theorem xv_7_3 (σ : dm_St) (q : Nat) : dm_fv σ q 7 3 = dm_R σ q 3 := rfl
theorem xt_7_3 : dm_fk (dm_ty 7 3) = 2 := rfl
theorem xv_7_4 (σ : dm_St) (q : Nat) : dm_fv σ q 7 4 = dm_R σ q 4 := rfl
theorem xt_7_4 : dm_fk (dm_ty 7 4) = 2 := rfl
theorem xv_7_5 (σ : dm_St) (q : Nat) : dm_fv σ q 7 5 = dm_R σ q 5 := rfl
theorem xt_7_5 : dm_fk (dm_ty 7 5) = 2 := rfl
theorem xv_7_6 (σ : dm_St) (q : Nat) : dm_fv σ q 7 6 = dm_R σ q 6 := rfl
theorem xt_7_6 : dm_fk (dm_ty 7 6) = 2 := rfl
theorem xv_7_7 (σ : dm_St) (q : Nat) : dm_fv σ q 7 7 = dm_R σ q 7 := rfl
theorem xt_7_7 : dm_fk (dm_ty 7 7) = 2 := rfl
theorem xv_7_8 (σ : dm_St) (q : Nat) : dm_fv σ q 7 8 = dm_R σ q 8 := rfl
theorem xt_7_8 : dm_fk (dm_ty 7 8) = 2 := rfl
theorem xv_7_9 (σ : dm_St) (q : Nat) : dm_fv σ q 7 9 = dm_R σ q 9 := rfl
theorem xt_7_9 : dm_fk (dm_ty 7 9) = 2 := rfl
theorem xv_8_0 (σ : dm_St) (q : Nat) : dm_fv σ q 8 0 = dm_R σ q 0 := rfl
theorem xt_8_0 : dm_fk (dm_ty 8 0) = 2 := rfl
theorem xv_8_1 (σ : dm_St) (q : Nat) : dm_fv σ q 8 1 = dm_R σ q 1 := rfl
theorem xt_8_1 : dm_fk (dm_ty 8 1) = 2 := rfl
theorem xv_8_2 (σ : dm_St) (q : Nat) : dm_fv σ q 8 2 = .int (dm_I σ q 2) := rfl
theorem xt_8_2 : dm_fk (dm_ty 8 2) = 0 := rfl
theorem xb_8_2 (v : Int32) : dm_fits (dm_ty 8 2) v = true := rfl
theorem xv_9_0 (σ : dm_St) (q : Nat) : dm_fv σ q 9 0 = dm_R σ q 0 := rfl
theorem xt_9_0 : dm_fk (dm_ty 9 0) = 2 := rfl
theorem xv_9_1 (σ : dm_St) (q : Nat) : dm_fv σ q 9 1 = .int (dm_I σ q 1) := rfl
theorem xt_9_1 : dm_fk (dm_ty 9 1) = 0 := rfl
theorem xb_9_1 (v : Int32) : dm_fits (dm_ty 9 1) v = true := rfl
theorem xv_9_2 (σ : dm_St) (q : Nat) : dm_fv σ q 9 2 = .int (dm_I σ q 2) := rfl
theorem xt_9_2 : dm_fk (dm_ty 9 2) = 0 := rfl
theorem xb_9_2 (v : Int32) : dm_fits (dm_ty 9 2) v = true := rfl
theorem xv_9_3 (σ : dm_St) (q : Nat) : dm_fv σ q 9 3 = .int (dm_I σ q 3) := rfl
theorem xt_9_3 : dm_fk (dm_ty 9 3) = 0 := rfl
theorem xb_9_3 (v : Int32) : dm_fits (dm_ty 9 3) v = true := rfl
theorem xv_9_4 (σ : dm_St) (q : Nat) : dm_fv σ q 9 4 = .int (dm_I σ q 4) := rfl
theorem xt_9_4 : dm_fk (dm_ty 9 4) = 0 := rfl
theorem xb_9_4 (v : Int32) : dm_fits (dm_ty 9 4) v = true := rfl
theorem xv_9_5 (σ : dm_St) (q : Nat) : dm_fv σ q 9 5 = .int (dm_I σ q 5) := rfl
theorem xt_9_5 : dm_fk (dm_ty 9 5) = 0 := rfl
theorem xb_9_5 (v : Int32) : dm_fits (dm_ty 9 5) v = true := rfl
theorem xv_9_6 (σ : dm_St) (q : Nat) : dm_fv σ q 9 6 = .int (dm_I σ q 6) := rfl
theorem xt_9_6 : dm_fk (dm_ty 9 6) = 0 := rfl
theorem xb_9_6 (v : Int32) : dm_fits (dm_ty 9 6) v = (decide (0 ≤ v) && decide (v < 65536)) := rfl
theorem xv_9_7 (σ : dm_St) (q : Nat) : dm_fv σ q 9 7 = .long (dm_L σ q 7) := rfl
theorem xt_9_7 : dm_fk (dm_ty 9 7) = 1 := rfl
theorem xv_9_8 (σ : dm_St) (q : Nat) : dm_fv σ q 9 8 = dm_R σ q 8 := rfl
theorem xt_9_8 : dm_fk (dm_ty 9 8) = 2 := rfl
theorem xv_9_9 (σ : dm_St) (q : Nat) : dm_fv σ q 9 9 = .int (dm_I σ q 9) := rfl
theorem xt_9_9 : dm_fk (dm_ty 9 9) = 0 := rfl
theorem xb_9_9 (v : Int32) : dm_fits (dm_ty 9 9) v = true := rfl
theorem xv_10_0 (σ : dm_St) (q : Nat) : dm_fv σ q 10 0 = dm_R σ q 0 := rfl
theorem xt_10_0 : dm_fk (dm_ty 10 0) = 2 := rfl
theorem xv_10_1 (σ : dm_St) (q : Nat) : dm_fv σ q 10 1 = dm_R σ q 1 := rfl
theorem xt_10_1 : dm_fk (dm_ty 10 1) = 2 := rfl
theorem xv_10_2 (σ : dm_St) (q : Nat) : dm_fv σ q 10 2 = dm_R σ q 2 := rfl
theorem xt_10_2 : dm_fk (dm_ty 10 2) = 2 := rfl
theorem xv_10_3 (σ : dm_St) (q : Nat) : dm_fv σ q 10 3 = dm_R σ q 3 := rfl
theorem xt_10_3 : dm_fk (dm_ty 10 3) = 2 := rfl
theorem xv_10_4 (σ : dm_St) (q : Nat) : dm_fv σ q 10 4 = dm_R σ q 4 := rfl
theorem xt_10_4 : dm_fk (dm_ty 10 4) = 2 := rfl
theorem xv_10_5 (σ : dm_St) (q : Nat) : dm_fv σ q 10 5 = dm_R σ q 5 := rfl
theorem xt_10_5 : dm_fk (dm_ty 10 5) = 2 := rfl
theorem xv_10_6 (σ : dm_St) (q : Nat) : dm_fv σ q 10 6 = dm_R σ q 6 := rfl
theorem xt_10_6 : dm_fk (dm_ty 10 6) = 2 := rfl
theorem xv_10_7 (σ : dm_St) (q : Nat) : dm_fv σ q 10 7 = dm_R σ q 7 := rfl
theorem xt_10_7 : dm_fk (dm_ty 10 7) = 2 := rfl
theorem xv_10_8 (σ : dm_St) (q : Nat) : dm_fv σ q 10 8 = .int (dm_I σ q 8) := rfl
theorem xt_10_8 : dm_fk (dm_ty 10 8) = 0 := rfl
theorem xb_10_8 (v : Int32) : dm_fits (dm_ty 10 8) v = true := rfl
theorem xv_10_9 (σ : dm_St) (q : Nat) : dm_fv σ q 10 9 = .int (dm_I σ q 9) := rfl
theorem xt_10_9 : dm_fk (dm_ty 10 9) = 0 := rfl
theorem xb_10_9 (v : Int32) : dm_fits (dm_ty 10 9) v = true := rfl
theorem xv_10_10 (σ : dm_St) (q : Nat) : dm_fv σ q 10 10 = dm_R σ q 10 := rfl
theorem xt_10_10 : dm_fk (dm_ty 10 10) = 2 := rfl
theorem xv_10_11 (σ : dm_St) (q : Nat) : dm_fv σ q 10 11 = dm_R σ q 11 := rfl
theorem xt_10_11 : dm_fk (dm_ty 10 11) = 2 := rfl
theorem xv_10_12 (σ : dm_St) (q : Nat) : dm_fv σ q 10 12 = .int (dm_I σ q 12) := rfl
theorem xt_10_12 : dm_fk (dm_ty 10 12) = 0 := rfl
theorem xb_10_12 (v : Int32) : dm_fits (dm_ty 10 12) v = true := rfl
theorem xv_10_13 (σ : dm_St) (q : Nat) : dm_fv σ q 10 13 = dm_R σ q 13 := rfl
theorem xt_10_13 : dm_fk (dm_ty 10 13) = 2 := rfl
theorem xv_10_14 (σ : dm_St) (q : Nat) : dm_fv σ q 10 14 = dm_R σ q 14 := rfl
theorem xt_10_14 : dm_fk (dm_ty 10 14) = 2 := rfl
theorem xv_10_15 (σ : dm_St) (q : Nat) : dm_fv σ q 10 15 = dm_R σ q 15 := rfl
theorem xt_10_15 : dm_fk (dm_ty 10 15) = 2 := rfl
theorem xv_10_16 (σ : dm_St) (q : Nat) : dm_fv σ q 10 16 = dm_R σ q 16 := rfl
theorem xt_10_16 : dm_fk (dm_ty 10 16) = 2 := rfl
theorem xv_11_0 (σ : dm_St) (q : Nat) : dm_fv σ q 11 0 = .int (dm_I σ q 0) := rfl
theorem xt_11_0 : dm_fk (dm_ty 11 0) = 0 := rfl
theorem xb_11_0 (v : Int32) : dm_fits (dm_ty 11 0) v = true := rfl
theorem xv_11_1 (σ : dm_St) (q : Nat) : dm_fv σ q 11 1 = dm_R σ q 1 := rfl
theorem xt_11_1 : dm_fk (dm_ty 11 1) = 2 := rfl
theorem xv_11_2 (σ : dm_St) (q : Nat) : dm_fv σ q 11 2 = .int (dm_I σ q 2) := rfl
theorem xt_11_2 : dm_fk (dm_ty 11 2) = 0 := rfl
theorem xb_11_2 (v : Int32) : dm_fits (dm_ty 11 2) v = true := rfl
theorem xv_11_3 (σ : dm_St) (q : Nat) : dm_fv σ q 11 3 = .int (dm_I σ q 3) := rfl
theorem xt_11_3 : dm_fk (dm_ty 11 3) = 0 := rfl
theorem xb_11_3 (v : Int32) : dm_fits (dm_ty 11 3) v = true := rfl
theorem xv_11_4 (σ : dm_St) (q : Nat) : dm_fv σ q 11 4 = dm_R σ q 4 := rfl
theorem xt_11_4 : dm_fk (dm_ty 11 4) = 2 := rfl
theorem xv_11_5 (σ : dm_St) (q : Nat) : dm_fv σ q 11 5 = dm_R σ q 5 := rfl
theorem xt_11_5 : dm_fk (dm_ty 11 5) = 2 := rfl
theorem xv_11_6 (σ : dm_St) (q : Nat) : dm_fv σ q 11 6 = dm_R σ q 6 := rfl
theorem xt_11_6 : dm_fk (dm_ty 11 6) = 2 := rfl
theorem xv_11_7 (σ : dm_St) (q : Nat) : dm_fv σ q 11 7 = .int (dm_I σ q 7) := rfl
theorem xt_11_7 : dm_fk (dm_ty 11 7) = 0 := rfl
theorem xb_11_7 (v : Int32) : dm_fits (dm_ty 11 7) v = true := rfl
theorem xv_11_8 (σ : dm_St) (q : Nat) : dm_fv σ q 11 8 = .int (dm_I σ q 8) := rfl
theorem xt_11_8 : dm_fk (dm_ty 11 8) = 0 := rfl
theorem xb_11_8 (v : Int32) : dm_fits (dm_ty 11 8) v = true := rfl
theorem xv_11_9 (σ : dm_St) (q : Nat) : dm_fv σ q 11 9 = dm_R σ q 9 := rfl
theorem xt_11_9 : dm_fk (dm_ty 11 9) = 2 := rfl
theorem xv_11_10 (σ : dm_St) (q : Nat) : dm_fv σ q 11 10 = dm_R σ q 10 := rfl
theorem xt_11_10 : dm_fk (dm_ty 11 10) = 2 := rfl
theorem xv_11_11 (σ : dm_St) (q : Nat) : dm_fv σ q 11 11 = dm_R σ q 11 := rfl
theorem xt_11_11 : dm_fk (dm_ty 11 11) = 2 := rfl
theorem xv_11_12 (σ : dm_St) (q : Nat) : dm_fv σ q 11 12 = dm_R σ q 12 := rfl
theorem xt_11_12 : dm_fk (dm_ty 11 12) = 2 := rfl
theorem xv_11_13 (σ : dm_St) (q : Nat) : dm_fv σ q 11 13 = .int (dm_I σ q 13) := rfl
theorem xt_11_13 : dm_fk (dm_ty 11 13) = 0 := rfl
theorem xb_11_13 (v : Int32) : dm_fits (dm_ty 11 13) v = true := rfl
theorem xv_11_14 (σ : dm_St) (q : Nat) : dm_fv σ q 11 14 = dm_R σ q 14 := rfl
theorem xt_11_14 : dm_fk (dm_ty 11 14) = 2 := rfl
theorem xv_11_15 (σ : dm_St) (q : Nat) : dm_fv σ q 11 15 = dm_R σ q 15 := rfl
theorem xt_11_15 : dm_fk (dm_ty 11 15) = 2 := rfl
theorem xv_11_16 (σ : dm_St) (q : Nat) : dm_fv σ q 11 16 = dm_R σ q 16 := rfl
theorem xt_11_16 : dm_fk (dm_ty 11 16) = 2 := rfl
theorem xv_11_17 (σ : dm_St) (q : Nat) : dm_fv σ q 11 17 = dm_R σ q 17 := rfl
theorem xt_11_17 : dm_fk (dm_ty 11 17) = 2 := rfl
theorem xv_11_18 (σ : dm_St) (q : Nat) : dm_fv σ q 11 18 = .int (dm_I σ q 18) := rfl
theorem xt_11_18 : dm_fk (dm_ty 11 18) = 0 := rfl
theorem xb_11_18 (v : Int32) : dm_fits (dm_ty 11 18) v = true := rfl
theorem xv_11_19 (σ : dm_St) (q : Nat) : dm_fv σ q 11 19 = .int (dm_I σ q 19) := rfl
theorem xt_11_19 : dm_fk (dm_ty 11 19) = 0 := rfl
theorem xb_11_19 (v : Int32) : dm_fits (dm_ty 11 19) v = true := rfl
theorem xv_11_20 (σ : dm_St) (q : Nat) : dm_fv σ q 11 20 = .int (dm_I σ q 20) := rfl
theorem xt_11_20 : dm_fk (dm_ty 11 20) = 0 := rfl
theorem xb_11_20 (v : Int32) : dm_fits (dm_ty 11 20) v = true := rfl
theorem xv_11_21 (σ : dm_St) (q : Nat) : dm_fv σ q 11 21 = .int (dm_I σ q 21) := rfl
theorem xt_11_21 : dm_fk (dm_ty 11 21) = 0 := rfl
theorem xb_11_21 (v : Int32) : dm_fits (dm_ty 11 21) v = true := rfl
theorem xv_11_22 (σ : dm_St) (q : Nat) : dm_fv σ q 11 22 = dm_R σ q 22 := rfl
theorem xt_11_22 : dm_fk (dm_ty 11 22) = 2 := rfl
theorem xv_11_23 (σ : dm_St) (q : Nat) : dm_fv σ q 11 23 = dm_R σ q 23 := rfl
theorem xt_11_23 : dm_fk (dm_ty 11 23) = 2 := rfl
theorem xv_11_24 (σ : dm_St) (q : Nat) : dm_fv σ q 11 24 = dm_R σ q 24 := rfl
theorem xt_11_24 : dm_fk (dm_ty 11 24) = 2 := rfl
theorem xv_11_25 (σ : dm_St) (q : Nat) : dm_fv σ q 11 25 = dm_R σ q 25 := rfl
theorem xt_11_25 : dm_fk (dm_ty 11 25) = 2 := rfl
theorem xv_11_26 (σ : dm_St) (q : Nat) : dm_fv σ q 11 26 = .int (dm_I σ q 26) := rfl
theorem xt_11_26 : dm_fk (dm_ty 11 26) = 0 := rfl
theorem xb_11_26 (v : Int32) : dm_fits (dm_ty 11 26) v = true := rfl
theorem xv_11_27 (σ : dm_St) (q : Nat) : dm_fv σ q 11 27 = dm_R σ q 27 := rfl
theorem xt_11_27 : dm_fk (dm_ty 11 27) = 2 := rfl
theorem xv_11_28 (σ : dm_St) (q : Nat) : dm_fv σ q 11 28 = .int (dm_I σ q 28) := rfl
theorem xt_11_28 : dm_fk (dm_ty 11 28) = 0 := rfl
theorem xb_11_28 (v : Int32) : dm_fits (dm_ty 11 28) v = true := rfl
theorem xv_11_29 (σ : dm_St) (q : Nat) : dm_fv σ q 11 29 = dm_R σ q 29 := rfl
theorem xt_11_29 : dm_fk (dm_ty 11 29) = 2 := rfl
theorem xv_11_30 (σ : dm_St) (q : Nat) : dm_fv σ q 11 30 = dm_R σ q 30 := rfl
theorem xt_11_30 : dm_fk (dm_ty 11 30) = 2 := rfl
theorem xv_11_31 (σ : dm_St) (q : Nat) : dm_fv σ q 11 31 = .int (dm_I σ q 31) := rfl
theorem xt_11_31 : dm_fk (dm_ty 11 31) = 0 := rfl
theorem xb_11_31 (v : Int32) : dm_fits (dm_ty 11 31) v = true := rfl
theorem xv_11_32 (σ : dm_St) (q : Nat) : dm_fv σ q 11 32 = dm_R σ q 32 := rfl
theorem xt_11_32 : dm_fk (dm_ty 11 32) = 2 := rfl
theorem xv_11_33 (σ : dm_St) (q : Nat) : dm_fv σ q 11 33 = dm_R σ q 33 := rfl
theorem xt_11_33 : dm_fk (dm_ty 11 33) = 2 := rfl
theorem xv_11_34 (σ : dm_St) (q : Nat) : dm_fv σ q 11 34 = dm_R σ q 34 := rfl
theorem xt_11_34 : dm_fk (dm_ty 11 34) = 2 := rfl
theorem xv_11_35 (σ : dm_St) (q : Nat) : dm_fv σ q 11 35 = dm_R σ q 35 := rfl
theorem xt_11_35 : dm_fk (dm_ty 11 35) = 2 := rfl
theorem xv_11_36 (σ : dm_St) (q : Nat) : dm_fv σ q 11 36 = dm_R σ q 36 := rfl
theorem xt_11_36 : dm_fk (dm_ty 11 36) = 2 := rfl
theorem xv_11_37 (σ : dm_St) (q : Nat) : dm_fv σ q 11 37 = .int (dm_I σ q 37) := rfl
theorem xt_11_37 : dm_fk (dm_ty 11 37) = 0 := rfl
theorem xb_11_37 (v : Int32) : dm_fits (dm_ty 11 37) v = true := rfl
theorem xv_11_38 (σ : dm_St) (q : Nat) : dm_fv σ q 11 38 = .int (dm_I σ q 38) := rfl
theorem xt_11_38 : dm_fk (dm_ty 11 38) = 0 := rfl
theorem xb_11_38 (v : Int32) : dm_fits (dm_ty 11 38) v = true := rfl
theorem xv_11_39 (σ : dm_St) (q : Nat) : dm_fv σ q 11 39 = .long (dm_L σ q 39) := rfl
theorem xt_11_39 : dm_fk (dm_ty 11 39) = 1 := rfl
section XM
variable {S : dm_Sc} {d : Nat} {ret : Option FieldType} {code k : List dm_Op} {ls : dm_Lv} {st : List Value} {σ : dm_St} {Q : Option Value → dm_St → Prop}
theorem xwm_some : xwm S d ret code k Q (some (ls, st, σ)) ↔ xw S d ret code k ls st σ Q := Iff.rfl
theorem xwm_none : xwm S d ret code k Q none ↔ False := Iff.rfl
theorem xwm_ite {c : Prop} [Decidable c] {a : dm_Mv} : xwm S d ret code k Q (if c then some a else none) ↔ c ∧ xwm S d ret code k Q (some a) := by
  by_cases h : c <;> simp [h, xwm]
/-- both ways of a choice go on at one place -/
theorem xj_top {c : Prop} [Decidable c] {a b : Int32} : (if c then xw S d ret code k ls (.int a :: st) σ Q else xw S d ret code k ls (.int b :: st) σ Q) ↔ xw S d ret code k ls (.int (if c then a else b) :: st) σ Q := by
  by_cases h : c <;> simp [h]
theorem xj_loc {c : Prop} [Decidable c] {i : Nat} {a b : Int32} : (if c then xw S d ret code k ((i, .int a) :: ls) st σ Q else xw S d ret code k ((i, .int b) :: ls) st σ Q) ↔ xw S d ret code k ((i, .int (if c then a else b)) :: ls) st σ Q := by
  by_cases h : c <;> simp [h]
theorem xfI (v : Int32) : dm_fits .int v = true := rfl
theorem xfB0 : dm_fits .boolean 0 = true := rfl
theorem xfB1 : dm_fits .boolean 1 = true := rfl
theorem xfBi {c : Prop} [Decidable c] {a b : Int32} : dm_fits .boolean (if c then a else b) = if c then dm_fits .boolean a else dm_fits .boolean b := by
  by_cases h : c <;> simp [h]
theorem xf00 : ((0 : Int32) == 0) = true := rfl
theorem xf10 : ((1 : Int32) == 0) = false := rfl
theorem xf11 : ((1 : Int32) == 1) = true := rfl
theorem xwt0 : dm_wait [] = true := rfl
theorem xwt1 (x : Int32) : dm_wait [.int x] = true := rfl
theorem xwtR (x : Nat) : dm_wait [.ref x] = true := rfl
theorem xcase {c : Prop} [Decidable c] {A B : Prop} : (if c then A else B) ↔ (c → A) ∧ (¬ c → B) := by
  by_cases h : c <;> simp [h]
theorem xin {i : Int32} {n : Nat} : dm_in i n = true ↔ 0 ≤ i.toInt ∧ i.toInt < n := dm_in_iff.trans vp_in_iff
end XM
