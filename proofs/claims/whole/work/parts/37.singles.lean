/-! Single places: shapes and references, by program. -/
theorem ls_0 {σ : dm_St} (L : Lay σ) : (dm_sh σ)[0]? = some (.inl 10) := ly_s L (by decide +kernel)
theorem ls_1 {σ : dm_St} (L : Lay σ) : (dm_sh σ)[1]? = some (.inl 9) := ly_s L (by decide +kernel)
theorem ls_2 {σ : dm_St} (L : Lay σ) : (dm_sh σ)[2]? = some (.inr (2, 1000)) := ly_s L (by decide +kernel)
theorem ls_3 {σ : dm_St} (L : Lay σ) : (dm_sh σ)[3]? = some (.inl 2) := ly_s L (by decide +kernel)
theorem ls_34 {σ : dm_St} (L : Lay σ) : (dm_sh σ)[34]? = some (.inl 2) := ly_s L (by decide +kernel)
theorem ls_65 {σ : dm_St} (L : Lay σ) : (dm_sh σ)[65]? = some (.inl 4) := ly_s L (by decide +kernel)
theorem ls_69 {σ : dm_St} (L : Lay σ) : (dm_sh σ)[69]? = some (.inl 4) := ly_s L (by decide +kernel)
theorem ls_73 {σ : dm_St} (L : Lay σ) : (dm_sh σ)[73]? = some (.inl 7) := ly_s L (by decide +kernel)
theorem ls_80 {σ : dm_St} (L : Lay σ) : (dm_sh σ)[80]? = some (.inl 7) := ly_s L (by decide +kernel)
theorem ls_87 {σ : dm_St} (L : Lay σ) : (dm_sh σ)[87]? = some (.inr (5, 16)) := ly_s L (by decide +kernel)
theorem ls_88 {σ : dm_St} (L : Lay σ) : (dm_sh σ)[88]? = some (.inr (5, 4)) := ly_s L (by decide +kernel)
theorem ls_89 {σ : dm_St} (L : Lay σ) : (dm_sh σ)[89]? = some (.inr (4, 4)) := ly_s L (by decide +kernel)
theorem ls_90 {σ : dm_St} (L : Lay σ) : (dm_sh σ)[90]? = some (.inl 6) := ly_s L (by decide +kernel)
theorem ls_91 {σ : dm_St} (L : Lay σ) : (dm_sh σ)[91]? = some (.inr (0, 6)) := ly_s L (by decide +kernel)
theorem ls_92 {σ : dm_St} (L : Lay σ) : (dm_sh σ)[92]? = some (.inr (0, 6)) := ly_s L (by decide +kernel)
theorem ls_93 {σ : dm_St} (L : Lay σ) : (dm_sh σ)[93]? = some (.inl 5) := ly_s L (by decide +kernel)
theorem ls_94 {σ : dm_St} (L : Lay σ) : (dm_sh σ)[94]? = some (.inr (0, 6)) := ly_s L (by decide +kernel)
theorem ls_95 {σ : dm_St} (L : Lay σ) : (dm_sh σ)[95]? = some (.inr (0, 6)) := ly_s L (by decide +kernel)
theorem ls_96 {σ : dm_St} (L : Lay σ) : (dm_sh σ)[96]? = some (.inr (0, 7)) := ly_s L (by decide +kernel)
theorem ls_97 {σ : dm_St} (L : Lay σ) : (dm_sh σ)[97]? = some (.inr (0, 7)) := ly_s L (by decide +kernel)
theorem ls_98 {σ : dm_St} (L : Lay σ) : (dm_sh σ)[98]? = some (.inr (0, 7)) := ly_s L (by decide +kernel)
theorem ls_99 {σ : dm_St} (L : Lay σ) : (dm_sh σ)[99]? = some (.inl 3) := ly_s L (by decide +kernel)
theorem ls_100 {σ : dm_St} (L : Lay σ) : (dm_sh σ)[100]? = some (.inr (0, 6)) := ly_s L (by decide +kernel)
theorem ls_101 {σ : dm_St} (L : Lay σ) : (dm_sh σ)[101]? = some (.inl 0) := ly_s L (by decide +kernel)
theorem ls_102 {σ : dm_St} (L : Lay σ) : (dm_sh σ)[102]? = some (.inr (0, 6)) := ly_s L (by decide +kernel)
theorem ls_103 {σ : dm_St} (L : Lay σ) : (dm_sh σ)[103]? = some (.inr (0, 6)) := ly_s L (by decide +kernel)
theorem ls_104 {σ : dm_St} (L : Lay σ) : (dm_sh σ)[104]? = some (.inr (0, 6)) := ly_s L (by decide +kernel)
theorem ls_105 {σ : dm_St} (L : Lay σ) : (dm_sh σ)[105]? = some (.inr (6, 6)) := ly_s L (by decide +kernel)
theorem ls_106 {σ : dm_St} (L : Lay σ) : (dm_sh σ)[106]? = some (.inr (0, 241)) := ly_s L (by decide +kernel)
theorem ls_107 {σ : dm_St} (L : Lay σ) : (dm_sh σ)[107]? = some (.inr (0, 241)) := ly_s L (by decide +kernel)
theorem ls_108 {σ : dm_St} (L : Lay σ) : (dm_sh σ)[108]? = some (.inr (0, 241)) := ly_s L (by decide +kernel)
theorem ls_109 {σ : dm_St} (L : Lay σ) : (dm_sh σ)[109]? = some (.inr (0, 241)) := ly_s L (by decide +kernel)
theorem ls_110 {σ : dm_St} (L : Lay σ) : (dm_sh σ)[110]? = some (.inr (0, 241)) := ly_s L (by decide +kernel)
theorem ls_111 {σ : dm_St} (L : Lay σ) : (dm_sh σ)[111]? = some (.inr (0, 241)) := ly_s L (by decide +kernel)
theorem ls_264 {σ : dm_St} (L : Lay σ) : (dm_sh σ)[264]? = some (.inl 11) := ly_s L (by decide +kernel)
theorem ls_265 {σ : dm_St} (L : Lay σ) : (dm_sh σ)[265]? = some (.inr (0, 1000)) := ly_s L (by decide +kernel)
theorem ls_266 {σ : dm_St} (L : Lay σ) : (dm_sh σ)[266]? = some (.inr (0, 1002)) := ly_s L (by decide +kernel)
theorem ls_267 {σ : dm_St} (L : Lay σ) : (dm_sh σ)[267]? = some (.inr (0, 1002)) := ly_s L (by decide +kernel)
theorem ls_268 {σ : dm_St} (L : Lay σ) : (dm_sh σ)[268]? = some (.inr (1, 1002)) := ly_s L (by decide +kernel)
theorem ls_269 {σ : dm_St} (L : Lay σ) : (dm_sh σ)[269]? = some (.inr (1, 37)) := ly_s L (by decide +kernel)
theorem ls_270 {σ : dm_St} (L : Lay σ) : (dm_sh σ)[270]? = some (.inr (0, 240)) := ly_s L (by decide +kernel)
theorem ls_271 {σ : dm_St} (L : Lay σ) : (dm_sh σ)[271]? = some (.inr (0, 2200)) := ly_s L (by decide +kernel)
theorem ls_272 {σ : dm_St} (L : Lay σ) : (dm_sh σ)[272]? = some (.inr (0, 2200)) := ly_s L (by decide +kernel)
theorem ls_273 {σ : dm_St} (L : Lay σ) : (dm_sh σ)[273]? = some (.inr (1, 18)) := ly_s L (by decide +kernel)
theorem ls_274 {σ : dm_St} (L : Lay σ) : (dm_sh σ)[274]? = some (.inr (1, 18)) := ly_s L (by decide +kernel)
theorem ls_275 {σ : dm_St} (L : Lay σ) : (dm_sh σ)[275]? = some (.inr (0, 18)) := ly_s L (by decide +kernel)
theorem ls_276 {σ : dm_St} (L : Lay σ) : (dm_sh σ)[276]? = some (.inr (0, 18)) := ly_s L (by decide +kernel)
theorem ls_277 {σ : dm_St} (L : Lay σ) : (dm_sh σ)[277]? = some (.inr (0, 200)) := ly_s L (by decide +kernel)
theorem ls_278 {σ : dm_St} (L : Lay σ) : (dm_sh σ)[278]? = some (.inr (0, 5)) := ly_s L (by decide +kernel)
theorem ls_279 {σ : dm_St} (L : Lay σ) : (dm_sh σ)[279]? = some (.inr (0, 1100)) := ly_s L (by decide +kernel)
theorem ls_280 {σ : dm_St} (L : Lay σ) : (dm_sh σ)[280]? = some (.inr (0, 1288)) := ly_s L (by decide +kernel)
theorem ls_281 {σ : dm_St} (L : Lay σ) : (dm_sh σ)[281]? = some (.inr (3, 4)) := ly_s L (by decide +kernel)
theorem ls_282 {σ : dm_St} (L : Lay σ) : (dm_sh σ)[282]? = some (.inr (0, 6)) := ly_s L (by decide +kernel)
theorem ls_283 {σ : dm_St} (L : Lay σ) : (dm_sh σ)[283]? = some (.inr (0, 6)) := ly_s L (by decide +kernel)
theorem ls_284 {σ : dm_St} (L : Lay σ) : (dm_sh σ)[284]? = some (.inr (0, 36)) := ly_s L (by decide +kernel)
theorem ls_285 {σ : dm_St} (L : Lay σ) : (dm_sh σ)[285]? = some (.inr (0, 6)) := ly_s L (by decide +kernel)
theorem ls_286 {σ : dm_St} (L : Lay σ) : (dm_sh σ)[286]? = some (.inr (0, 6)) := ly_s L (by decide +kernel)
theorem ls_287 {σ : dm_St} (L : Lay σ) : (dm_sh σ)[287]? = some (.inr (0, 6)) := ly_s L (by decide +kernel)
theorem ls_288 {σ : dm_St} (L : Lay σ) : (dm_sh σ)[288]? = some (.inr (0, 1446)) := ly_s L (by decide +kernel)
theorem ls_289 {σ : dm_St} (L : Lay σ) : (dm_sh σ)[289]? = some (.inr (1, 1)) := ly_s L (by decide +kernel)
theorem lr_0_0 {σ : dm_St} (L : Lay σ) : dm_R σ 0 0 = .ref 1 := ly_r L (by decide +kernel)
theorem lr_0_5 {σ : dm_St} (L : Lay σ) : dm_R σ 0 5 = .ref 73 := ly_r L (by decide +kernel)
theorem lr_0_6 {σ : dm_St} (L : Lay σ) : dm_R σ 0 6 = .ref 80 := ly_r L (by decide +kernel)
theorem lr_0_7 {σ : dm_St} (L : Lay σ) : dm_R σ 0 7 = .ref 87 := ly_r L (by decide +kernel)
theorem lr_0_10 {σ : dm_St} (L : Lay σ) : dm_R σ 0 10 = .ref 88 := ly_r L (by decide +kernel)
theorem lr_0_11 {σ : dm_St} (L : Lay σ) : dm_R σ 0 11 = .ref 89 := ly_r L (by decide +kernel)
theorem lr_0_13 {σ : dm_St} (L : Lay σ) : dm_R σ 0 13 = .ref 90 := ly_r L (by decide +kernel)
theorem lr_0_14 {σ : dm_St} (L : Lay σ) : dm_R σ 0 14 = .ref 93 := ly_r L (by decide +kernel)
theorem lr_0_15 {σ : dm_St} (L : Lay σ) : dm_R σ 0 15 = .ref 99 := ly_r L (by decide +kernel)
theorem lr_0_16 {σ : dm_St} (L : Lay σ) : dm_R σ 0 16 = .ref 101 := ly_r L (by decide +kernel)
theorem lr_1_0 {σ : dm_St} (L : Lay σ) : dm_R σ 1 0 = .ref 2 := ly_r L (by decide +kernel)
theorem lr_93_3 {σ : dm_St} (L : Lay σ) : dm_R σ 93 3 = .ref 94 := ly_r L (by decide +kernel)
theorem lr_93_4 {σ : dm_St} (L : Lay σ) : dm_R σ 93 4 = .ref 95 := ly_r L (by decide +kernel)
theorem lr_93_5 {σ : dm_St} (L : Lay σ) : dm_R σ 93 5 = .ref 96 := ly_r L (by decide +kernel)
theorem lr_93_6 {σ : dm_St} (L : Lay σ) : dm_R σ 93 6 = .ref 97 := ly_r L (by decide +kernel)
theorem lr_93_7 {σ : dm_St} (L : Lay σ) : dm_R σ 93 7 = .ref 98 := ly_r L (by decide +kernel)
theorem lr_99_0 {σ : dm_St} (L : Lay σ) : dm_R σ 99 0 = .ref 100 := ly_r L (by decide +kernel)
theorem lr_101_4 {σ : dm_St} (L : Lay σ) : dm_R σ 101 4 = .ref 102 := ly_r L (by decide +kernel)
theorem lr_101_5 {σ : dm_St} (L : Lay σ) : dm_R σ 101 5 = .ref 103 := ly_r L (by decide +kernel)
theorem lr_101_6 {σ : dm_St} (L : Lay σ) : dm_R σ 101 6 = .ref 104 := ly_r L (by decide +kernel)
theorem lr_101_7 {σ : dm_St} (L : Lay σ) : dm_R σ 101 7 = .ref 105 := ly_r L (by decide +kernel)
theorem lr_105_0 {σ : dm_St} (L : Lay σ) : dm_R σ 105 0 = .ref 106 := ly_r L (by decide +kernel)
theorem lr_105_1 {σ : dm_St} (L : Lay σ) : dm_R σ 105 1 = .ref 107 := ly_r L (by decide +kernel)
theorem lr_105_2 {σ : dm_St} (L : Lay σ) : dm_R σ 105 2 = .ref 108 := ly_r L (by decide +kernel)
theorem lr_105_3 {σ : dm_St} (L : Lay σ) : dm_R σ 105 3 = .ref 109 := ly_r L (by decide +kernel)
theorem lr_105_4 {σ : dm_St} (L : Lay σ) : dm_R σ 105 4 = .ref 110 := ly_r L (by decide +kernel)
theorem lr_105_5 {σ : dm_St} (L : Lay σ) : dm_R σ 105 5 = .ref 111 := ly_r L (by decide +kernel)
theorem lr_264_1 {σ : dm_St} (L : Lay σ) : dm_R σ 264 1 = .ref 265 := ly_r L (by decide +kernel)
theorem lr_264_4 {σ : dm_St} (L : Lay σ) : dm_R σ 264 4 = .ref 266 := ly_r L (by decide +kernel)
theorem lr_264_5 {σ : dm_St} (L : Lay σ) : dm_R σ 264 5 = .ref 267 := ly_r L (by decide +kernel)
theorem lr_264_6 {σ : dm_St} (L : Lay σ) : dm_R σ 264 6 = .ref 268 := ly_r L (by decide +kernel)
theorem lr_264_9 {σ : dm_St} (L : Lay σ) : dm_R σ 264 9 = .ref 269 := ly_r L (by decide +kernel)
theorem lr_264_10 {σ : dm_St} (L : Lay σ) : dm_R σ 264 10 = .ref 270 := ly_r L (by decide +kernel)
theorem lr_264_11 {σ : dm_St} (L : Lay σ) : dm_R σ 264 11 = .ref 271 := ly_r L (by decide +kernel)
theorem lr_264_12 {σ : dm_St} (L : Lay σ) : dm_R σ 264 12 = .ref 272 := ly_r L (by decide +kernel)
theorem lr_264_14 {σ : dm_St} (L : Lay σ) : dm_R σ 264 14 = .ref 273 := ly_r L (by decide +kernel)
theorem lr_264_15 {σ : dm_St} (L : Lay σ) : dm_R σ 264 15 = .ref 274 := ly_r L (by decide +kernel)
theorem lr_264_16 {σ : dm_St} (L : Lay σ) : dm_R σ 264 16 = .ref 275 := ly_r L (by decide +kernel)
theorem lr_264_17 {σ : dm_St} (L : Lay σ) : dm_R σ 264 17 = .ref 276 := ly_r L (by decide +kernel)
theorem lr_264_22 {σ : dm_St} (L : Lay σ) : dm_R σ 264 22 = .ref 277 := ly_r L (by decide +kernel)
theorem lr_264_23 {σ : dm_St} (L : Lay σ) : dm_R σ 264 23 = .ref 278 := ly_r L (by decide +kernel)
theorem lr_264_24 {σ : dm_St} (L : Lay σ) : dm_R σ 264 24 = .ref 279 := ly_r L (by decide +kernel)
theorem lr_264_25 {σ : dm_St} (L : Lay σ) : dm_R σ 264 25 = .ref 280 := ly_r L (by decide +kernel)
theorem lr_264_27 {σ : dm_St} (L : Lay σ) : dm_R σ 264 27 = .ref 281 := ly_r L (by decide +kernel)
theorem lr_264_29 {σ : dm_St} (L : Lay σ) : dm_R σ 264 29 = .ref 282 := ly_r L (by decide +kernel)
theorem lr_264_30 {σ : dm_St} (L : Lay σ) : dm_R σ 264 30 = .ref 283 := ly_r L (by decide +kernel)
theorem lr_264_32 {σ : dm_St} (L : Lay σ) : dm_R σ 264 32 = .ref 284 := ly_r L (by decide +kernel)
theorem lr_264_33 {σ : dm_St} (L : Lay σ) : dm_R σ 264 33 = .ref 285 := ly_r L (by decide +kernel)
theorem lr_264_34 {σ : dm_St} (L : Lay σ) : dm_R σ 264 34 = .ref 286 := ly_r L (by decide +kernel)
theorem lr_264_35 {σ : dm_St} (L : Lay σ) : dm_R σ 264 35 = .ref 287 := ly_r L (by decide +kernel)
theorem lr_264_36 {σ : dm_St} (L : Lay σ) : dm_R σ 264 36 = .ref 288 := ly_r L (by decide +kernel)
theorem xcl_0 : (0 : Int32).toNatClampNeg = 0 := rfl
theorem xn_0 : (0 : Int32) = nI 0 := rfl
theorem xcl_1 : (1 : Int32).toNatClampNeg = 1 := rfl
theorem xn_1 : (1 : Int32) = nI 1 := rfl
theorem xcl_2 : (2 : Int32).toNatClampNeg = 2 := rfl
theorem xn_2 : (2 : Int32) = nI 2 := rfl
theorem xcl_3 : (3 : Int32).toNatClampNeg = 3 := rfl
theorem xn_3 : (3 : Int32) = nI 3 := rfl
theorem xcl_4 : (4 : Int32).toNatClampNeg = 4 := rfl
theorem xn_4 : (4 : Int32) = nI 4 := rfl
theorem xcl_5 : (5 : Int32).toNatClampNeg = 5 := rfl
theorem xn_5 : (5 : Int32) = nI 5 := rfl
theorem xcl_6 : (6 : Int32).toNatClampNeg = 6 := rfl
theorem xn_6 : (6 : Int32) = nI 6 := rfl
theorem xcl_7 : (7 : Int32).toNatClampNeg = 7 := rfl
theorem xn_7 : (7 : Int32) = nI 7 := rfl
theorem xcl_8 : (8 : Int32).toNatClampNeg = 8 := rfl
theorem xn_8 : (8 : Int32) = nI 8 := rfl
theorem xcl_9 : (9 : Int32).toNatClampNeg = 9 := rfl
theorem xn_9 : (9 : Int32) = nI 9 := rfl
theorem xcl_10 : (10 : Int32).toNatClampNeg = 10 := rfl
theorem xn_10 : (10 : Int32) = nI 10 := rfl
theorem xcl_11 : (11 : Int32).toNatClampNeg = 11 := rfl
theorem xn_11 : (11 : Int32) = nI 11 := rfl
theorem xcl_12 : (12 : Int32).toNatClampNeg = 12 := rfl
theorem xn_12 : (12 : Int32) = nI 12 := rfl
theorem xcl_13 : (13 : Int32).toNatClampNeg = 13 := rfl
theorem xn_13 : (13 : Int32) = nI 13 := rfl
theorem xcl_14 : (14 : Int32).toNatClampNeg = 14 := rfl
theorem xn_14 : (14 : Int32) = nI 14 := rfl
theorem xcl_15 : (15 : Int32).toNatClampNeg = 15 := rfl
theorem xn_15 : (15 : Int32) = nI 15 := rfl
theorem xcl_16 : (16 : Int32).toNatClampNeg = 16 := rfl
theorem xn_16 : (16 : Int32) = nI 16 := rfl
theorem xcl_17 : (17 : Int32).toNatClampNeg = 17 := rfl
theorem xn_17 : (17 : Int32) = nI 17 := rfl
theorem xcl_18 : (18 : Int32).toNatClampNeg = 18 := rfl
theorem xn_18 : (18 : Int32) = nI 18 := rfl
theorem xcl_19 : (19 : Int32).toNatClampNeg = 19 := rfl
theorem xn_19 : (19 : Int32) = nI 19 := rfl
theorem xcl_20 : (20 : Int32).toNatClampNeg = 20 := rfl
theorem xn_20 : (20 : Int32) = nI 20 := rfl
theorem xcl_21 : (21 : Int32).toNatClampNeg = 21 := rfl
theorem xn_21 : (21 : Int32) = nI 21 := rfl
theorem xcl_22 : (22 : Int32).toNatClampNeg = 22 := rfl
theorem xn_22 : (22 : Int32) = nI 22 := rfl
theorem xcl_23 : (23 : Int32).toNatClampNeg = 23 := rfl
theorem xn_23 : (23 : Int32) = nI 23 := rfl
theorem xcl_24 : (24 : Int32).toNatClampNeg = 24 := rfl
theorem xn_24 : (24 : Int32) = nI 24 := rfl
theorem xcl_25 : (25 : Int32).toNatClampNeg = 25 := rfl
theorem xn_25 : (25 : Int32) = nI 25 := rfl
theorem xcl_26 : (26 : Int32).toNatClampNeg = 26 := rfl
theorem xn_26 : (26 : Int32) = nI 26 := rfl
theorem xcl_27 : (27 : Int32).toNatClampNeg = 27 := rfl
theorem xn_27 : (27 : Int32) = nI 27 := rfl
theorem xcl_28 : (28 : Int32).toNatClampNeg = 28 := rfl
theorem xn_28 : (28 : Int32) = nI 28 := rfl
theorem xcl_29 : (29 : Int32).toNatClampNeg = 29 := rfl
theorem xn_29 : (29 : Int32) = nI 29 := rfl
theorem xcl_30 : (30 : Int32).toNatClampNeg = 30 := rfl
theorem xn_30 : (30 : Int32) = nI 30 := rfl
theorem xcl_31 : (31 : Int32).toNatClampNeg = 31 := rfl
theorem xn_31 : (31 : Int32) = nI 31 := rfl
theorem xcl_32 : (32 : Int32).toNatClampNeg = 32 := rfl
theorem xn_32 : (32 : Int32) = nI 32 := rfl
theorem xcl_33 : (33 : Int32).toNatClampNeg = 33 := rfl
theorem xn_33 : (33 : Int32) = nI 33 := rfl
theorem xcl_34 : (34 : Int32).toNatClampNeg = 34 := rfl
theorem xn_34 : (34 : Int32) = nI 34 := rfl
theorem xcl_35 : (35 : Int32).toNatClampNeg = 35 := rfl
theorem xn_35 : (35 : Int32) = nI 35 := rfl
theorem xcl_36 : (36 : Int32).toNatClampNeg = 36 := rfl
theorem xn_36 : (36 : Int32) = nI 36 := rfl
theorem xcl_37 : (37 : Int32).toNatClampNeg = 37 := rfl
theorem xn_37 : (37 : Int32) = nI 37 := rfl
theorem xcl_40 : (40 : Int32).toNatClampNeg = 40 := rfl
theorem xn_40 : (40 : Int32) = nI 40 := rfl
theorem xcl_41 : (41 : Int32).toNatClampNeg = 41 := rfl
theorem xn_41 : (41 : Int32) = nI 41 := rfl
theorem xcl_42 : (42 : Int32).toNatClampNeg = 42 := rfl
theorem xn_42 : (42 : Int32) = nI 42 := rfl
theorem xcl_43 : (43 : Int32).toNatClampNeg = 43 := rfl
theorem xn_43 : (43 : Int32) = nI 43 := rfl
theorem xcl_44 : (44 : Int32).toNatClampNeg = 44 := rfl
theorem xn_44 : (44 : Int32) = nI 44 := rfl
theorem xcl_45 : (45 : Int32).toNatClampNeg = 45 := rfl
theorem xn_45 : (45 : Int32) = nI 45 := rfl
theorem xcl_48 : (48 : Int32).toNatClampNeg = 48 := rfl
theorem xn_48 : (48 : Int32) = nI 48 := rfl
theorem xcl_56 : (56 : Int32).toNatClampNeg = 56 := rfl
theorem xn_56 : (56 : Int32) = nI 56 := rfl
theorem xcl_57 : (57 : Int32).toNatClampNeg = 57 := rfl
theorem xn_57 : (57 : Int32) = nI 57 := rfl
theorem xcl_59 : (59 : Int32).toNatClampNeg = 59 := rfl
theorem xn_59 : (59 : Int32) = nI 59 := rfl
theorem xcl_60 : (60 : Int32).toNatClampNeg = 60 := rfl
theorem xn_60 : (60 : Int32) = nI 60 := rfl
theorem xcl_61 : (61 : Int32).toNatClampNeg = 61 := rfl
theorem xn_61 : (61 : Int32) = nI 61 := rfl
theorem xcl_63 : (63 : Int32).toNatClampNeg = 63 := rfl
theorem xn_63 : (63 : Int32) = nI 63 := rfl
theorem xcl_92 : (92 : Int32).toNatClampNeg = 92 := rfl
theorem xn_92 : (92 : Int32) = nI 92 := rfl
theorem xcl_96 : (96 : Int32).toNatClampNeg = 96 := rfl
theorem xn_96 : (96 : Int32) = nI 96 := rfl
theorem xcl_97 : (97 : Int32).toNatClampNeg = 97 := rfl
theorem xn_97 : (97 : Int32) = nI 97 := rfl
theorem xcl_99 : (99 : Int32).toNatClampNeg = 99 := rfl
theorem xn_99 : (99 : Int32) = nI 99 := rfl
theorem xcl_100 : (100 : Int32).toNatClampNeg = 100 := rfl
theorem xn_100 : (100 : Int32) = nI 100 := rfl
theorem xcl_101 : (101 : Int32).toNatClampNeg = 101 := rfl
theorem xn_101 : (101 : Int32) = nI 101 := rfl
theorem xcl_120 : (120 : Int32).toNatClampNeg = 120 := rfl
theorem xn_120 : (120 : Int32) = nI 120 := rfl
theorem xcl_121 : (121 : Int32).toNatClampNeg = 121 := rfl
theorem xn_121 : (121 : Int32) = nI 121 := rfl
theorem xcl_122 : (122 : Int32).toNatClampNeg = 122 := rfl
theorem xn_122 : (122 : Int32) = nI 122 := rfl
theorem xcl_123 : (123 : Int32).toNatClampNeg = 123 := rfl
theorem xn_123 : (123 : Int32) = nI 123 := rfl
theorem xcl_124 : (124 : Int32).toNatClampNeg = 124 := rfl
theorem xn_124 : (124 : Int32) = nI 124 := rfl
theorem xcl_125 : (125 : Int32).toNatClampNeg = 125 := rfl
theorem xn_125 : (125 : Int32) = nI 125 := rfl
theorem xcl_126 : (126 : Int32).toNatClampNeg = 126 := rfl
theorem xn_126 : (126 : Int32) = nI 126 := rfl
theorem xcl_128 : (128 : Int32).toNatClampNeg = 128 := rfl
theorem xn_128 : (128 : Int32) = nI 128 := rfl
theorem xcl_146 : (146 : Int32).toNatClampNeg = 146 := rfl
theorem xn_146 : (146 : Int32) = nI 146 := rfl
theorem xcl_176 : (176 : Int32).toNatClampNeg = 176 := rfl
theorem xn_176 : (176 : Int32) = nI 176 := rfl
theorem xcl_200 : (200 : Int32).toNatClampNeg = 200 := rfl
theorem xn_200 : (200 : Int32) = nI 200 := rfl
theorem xcl_212 : (212 : Int32).toNatClampNeg = 212 := rfl
theorem xn_212 : (212 : Int32) = nI 212 := rfl
theorem xcl_240 : (240 : Int32).toNatClampNeg = 240 := rfl
theorem xn_240 : (240 : Int32) = nI 240 := rfl
theorem xcl_241 : (241 : Int32).toNatClampNeg = 241 := rfl
theorem xn_241 : (241 : Int32) = nI 241 := rfl
theorem xcl_243 : (243 : Int32).toNatClampNeg = 243 := rfl
theorem xn_243 : (243 : Int32) = nI 243 := rfl
theorem xcl_255 : (255 : Int32).toNatClampNeg = 255 := rfl
theorem xn_255 : (255 : Int32) = nI 255 := rfl
theorem xcl_729 : (729 : Int32).toNatClampNeg = 729 := rfl
theorem xn_729 : (729 : Int32) = nI 729 := rfl
theorem xcl_999 : (999 : Int32).toNatClampNeg = 999 := rfl
theorem xn_999 : (999 : Int32) = nI 999 := rfl
theorem xcl_1000 : (1000 : Int32).toNatClampNeg = 1000 := rfl
theorem xn_1000 : (1000 : Int32) = nI 1000 := rfl
theorem xcl_1002 : (1002 : Int32).toNatClampNeg = 1002 := rfl
theorem xn_1002 : (1002 : Int32) = nI 1002 := rfl
theorem xcl_1100 : (1100 : Int32).toNatClampNeg = 1100 := rfl
theorem xn_1100 : (1100 : Int32) = nI 1100 := rfl
theorem xcl_1176 : (1176 : Int32).toNatClampNeg = 1176 := rfl
theorem xn_1176 : (1176 : Int32) = nI 1176 := rfl
theorem xcl_1177 : (1177 : Int32).toNatClampNeg = 1177 := rfl
theorem xn_1177 : (1177 : Int32) = nI 1177 := rfl
theorem xcl_1183 : (1183 : Int32).toNatClampNeg = 1183 := rfl
theorem xn_1183 : (1183 : Int32) = nI 1183 := rfl
theorem xcl_1195 : (1195 : Int32).toNatClampNeg = 1195 := rfl
theorem xn_1195 : (1195 : Int32) = nI 1195 := rfl
theorem xcl_1232 : (1232 : Int32).toNatClampNeg = 1232 := rfl
theorem xn_1232 : (1232 : Int32) = nI 1232 := rfl
theorem xcl_1251 : (1251 : Int32).toNatClampNeg = 1251 := rfl
theorem xn_1251 : (1251 : Int32) = nI 1251 := rfl
theorem xcl_1288 : (1288 : Int32).toNatClampNeg = 1288 := rfl
theorem xn_1288 : (1288 : Int32) = nI 1288 := rfl
theorem xcl_1446 : (1446 : Int32).toNatClampNeg = 1446 := rfl
theorem xn_1446 : (1446 : Int32) = nI 1446 := rfl
theorem xcl_2200 : (2200 : Int32).toNatClampNeg = 2200 := rfl
theorem xn_2200 : (2200 : Int32) = nI 2200 := rfl
theorem xcl_4096 : (4096 : Int32).toNatClampNeg = 4096 := rfl
theorem xn_4096 : (4096 : Int32) = nI 4096 := rfl
theorem xcl_9999 : (9999 : Int32).toNatClampNeg = 9999 := rfl
theorem xn_9999 : (9999 : Int32) = nI 9999 := rfl
theorem xinN {n N : Nat} (h : n < N) (hN : N < 2 ^ 31) : dm_in (nI n) N = true := dm_in_iff.mpr (vp_in_nI h hN)
theorem xin_of {t N : Int32} {n : Nat} (hN : N = nI n) (hn : n < 2 ^ 31) (h0 : ¬ t < 0) (h1 : ¬ N ≤ t) : ∃ j, j < n ∧ t = nI j := by
  obtain ⟨j, hj, rfl⟩ := nI_of h0
  refine ⟨j, ?_, rfl⟩
  rw [hN] at h1
  rcases Nat.lt_or_ge j n with h | h
  · exact h
  · exact absurd (nI_le h hj) h1
theorem xup_eq {α : Type} {f : Nat → Nat → α} {p i : Nat} {v : α} : dm_up f p i v p i = v := by simp [dm_up]
theorem xup_row {α : Type} {f : Nat → Nat → α} {p i q j : Nat} {v : α} (h : ¬ q = p) : dm_up f p i v q j = f q j := by simp [dm_up, h]
theorem xup_col {α : Type} {f : Nat → Nat → α} {p i q j : Nat} {v : α} (h : ¬ j = i) : dm_up f p i v q j = f q j := by simp [dm_up, h]
