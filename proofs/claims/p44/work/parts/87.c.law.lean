section
noncomputable def tL_areObjects : List lzOp := [
  lo_pushI 1 1,
  lo_istore 1 2,
  lo_pushI 0 3,
  lo_istore 2 4,
  lo_iload 2 5,
  lo_aload 0 6,
  lo_callv fX11_objects 0 1320 9,
  lo_none,
  lo_none,
  lo_icmp (fun x y => decide (y ≤ x)) 518 12,
  lo_none,
  lo_none,
  lo_iload 1 13,
  lo_if (fun x => decide (x = 0)) 518 16,
  lo_none,
  lo_none,
  lo_aload 0 17,
  lo_iload 2 18,
  lo_callv fX11_kindOf 1 1320 21,
  lo_none,
  lo_none,
  lo_istore 3 22,
  lo_aload 0 23,
  lo_iload 2 24,
  lo_callv fX11_ownerOf 1 1320 27,
  lo_none,
  lo_none,
  lo_istore 4 29,
  lo_none,
  lo_iload 4 31,
  lo_none,
  lo_iload 2 32,
  lo_icmp (fun x y => decide (y ≤ x)) 98 35,
  lo_none,
  lo_none,
  lo_iload 4 37,
  lo_none,
  lo_pushI (-1) 38,
  lo_icmp (fun x y => decide (x < y)) 98 41,
  lo_none,
  lo_none,
  lo_iload 4 43,
  lo_none,
  lo_if (fun x => decide (x < 0)) 94 46,
  lo_none,
  lo_none,
  lo_aload 0 47,
  lo_iload 2 48,
  lo_callv fX11_goingOf 1 1320 51,
  lo_none,
  lo_none,
  lo_pushI 4 52,
  lo_icmp (fun x y => decide (y ≤ x)) 98 55,
  lo_none,
  lo_none,
  lo_iload 3 56,
  lo_pushI 1 57,
  lo_icmp (fun x y => decide (¬ x = y)) 69 60,
  lo_none,
  lo_none,
  lo_aload 0 61,
  lo_iload 4 63,
  lo_none,
  lo_callv fX11_kindOf 1 1320 66,
  lo_none,
  lo_none,
  lo_if (fun x => decide (x = 0)) 94 69,
  lo_none,
  lo_none,
  lo_iload 3 70,
  lo_pushI 2 71,
  lo_icmp (fun x y => decide (¬ x = y)) 98 74,
  lo_none,
  lo_none,
  lo_aload 0 75,
  lo_iload 4 77,
  lo_none,
  lo_callv fX11_kindOf 1 1320 80,
  lo_none,
  lo_none,
  lo_pushI 1 81,
  lo_icmp (fun x y => decide (x = y)) 94 84,
  lo_none,
  lo_none,
  lo_aload 0 85,
  lo_iload 4 87,
  lo_none,
  lo_callv fX11_kindOf 1 1320 90,
  lo_none,
  lo_none,
  lo_pushI 3 91,
  lo_icmp (fun x y => decide (¬ x = y)) 98 94,
  lo_none,
  lo_none,
  lo_pushI 1 95,
  lo_goto 99,
  lo_none,
  lo_none,
  lo_pushI 0 99,
  lo_istore 1 100,
  lo_pushI 0 101,
  lo_istore 5 103,
  lo_none,
  lo_iload 5 105,
  lo_none,
  lo_pushI 11 107,
  lo_none,
  lo_icmp (fun x y => decide (y ≤ x)) 378 110,
  lo_none,
  lo_none,
  lo_iload 1 111,
  lo_if (fun x => decide (x = 0)) 378 114,
  lo_none,
  lo_none,
  lo_iload 3 115,
  lo_if (fun x => decide (¬ x = 0)) 125 118,
  lo_none,
  lo_none,
  lo_iload 5 120,
  lo_none,
  lo_pushI 7 122,
  lo_none,
  lo_icmp (fun x y => decide (x < y)) 195 125,
  lo_none,
  lo_none,
  lo_iload 3 126,
  lo_pushI 1 127,
  lo_icmp (fun x y => decide (¬ x = y)) 136 130,
  lo_none,
  lo_none,
  lo_iload 5 132,
  lo_none,
  lo_pushI 2 133,
  lo_icmp (fun x y => decide (x < y)) 195 136,
  lo_none,
  lo_none,
  lo_iload 3 137,
  lo_pushI 2 138,
  lo_icmp (fun x y => decide (¬ x = y)) 147 141,
  lo_none,
  lo_none,
  lo_iload 5 143,
  lo_none,
  lo_pushI 1 144,
  lo_icmp (fun x y => decide (x = y)) 195 147,
  lo_none,
  lo_none,
  lo_iload 3 148,
  lo_pushI 3 149,
  lo_icmp (fun x y => decide (¬ x = y)) 165 152,
  lo_none,
  lo_none,
  lo_iload 5 154,
  lo_none,
  lo_pushI 2 155,
  lo_icmp (fun x y => decide (x < y)) 195 158,
  lo_none,
  lo_none,
  lo_iload 5 160,
  lo_none,
  lo_pushI 10 162,
  lo_none,
  lo_icmp (fun x y => decide (x = y)) 195 165,
  lo_none,
  lo_none,
  lo_iload 3 166,
  lo_pushI 4 167,
  lo_icmp (fun x y => decide (¬ x = y)) 184 170,
  lo_none,
  lo_none,
  lo_iload 5 172,
  lo_none,
  lo_pushI 6 174,
  lo_none,
  lo_icmp (fun x y => decide (x ≤ y)) 184 177,
  lo_none,
  lo_none,
  lo_iload 5 179,
  lo_none,
  lo_pushI 10 181,
  lo_none,
  lo_icmp (fun x y => decide (x < y)) 195 184,
  lo_none,
  lo_none,
  lo_iload 3 185,
  lo_pushI 5 186,
  lo_icmp (fun x y => decide (¬ x = y)) 199 189,
  lo_none,
  lo_none,
  lo_iload 5 191,
  lo_none,
  lo_pushI 1 192,
  lo_icmp (fun x y => decide (¬ x = y)) 199 195,
  lo_none,
  lo_none,
  lo_pushI 1 196,
  lo_goto 200,
  lo_none,
  lo_none,
  lo_pushI 0 200,
  lo_istore 6 202,
  lo_none,
  lo_aload 0 203,
  lo_pushI 1 204,
  lo_iload 2 205,
  lo_iload 5 207,
  lo_none,
  lo_pushI 0 208,
  lo_calls fL_of 5 1 1320 211,
  lo_none,
  lo_none,
  lo_istore 7 213,
  lo_none,
  lo_iload 5 215,
  lo_none,
  lo_pushI 6 217,
  lo_none,
  lo_icmp (fun x y => decide (¬ x = y)) 225 220,
  lo_none,
  lo_none,
  lo_pushI 99 222,
  lo_none,
  lo_goto 283,
  lo_none,
  lo_none,
  lo_iload 5 227,
  lo_none,
  lo_pushI 1 228,
  lo_icmp (fun x y => decide (x = y)) 238 231,
  lo_none,
  lo_none,
  lo_iload 5 233,
  lo_none,
  lo_pushI 7 235,
  lo_none,
  lo_icmp (fun x y => decide (¬ x = y)) 243 238,
  lo_none,
  lo_none,
  lo_pushI 9 240,
  lo_none,
  lo_goto 283,
  lo_none,
  lo_none,
  lo_iload 5 245,
  lo_none,
  lo_pushI 4 246,
  lo_icmp (fun x y => decide (x = y)) 256 249,
  lo_none,
  lo_none,
  lo_iload 5 251,
  lo_none,
  lo_pushI 9 253,
  lo_none,
  lo_icmp (fun x y => decide (¬ x = y)) 260 256,
  lo_none,
  lo_none,
  lo_pushI 1 257,
  lo_goto 283,
  lo_none,
  lo_none,
  lo_iload 5 262,
  lo_none,
  lo_if (fun x => decide (x = 0)) 278 265,
  lo_none,
  lo_none,
  lo_iload 5 267,
  lo_none,
  lo_pushI 5 268,
  lo_icmp (fun x y => decide (x = y)) 278 271,
  lo_none,
  lo_none,
  lo_iload 5 273,
  lo_none,
  lo_pushI 10 275,
  lo_none,
  lo_icmp (fun x y => decide (¬ x = y)) 282 278,
  lo_none,
  lo_none,
  lo_pushI 5 279,
  lo_goto 283,
  lo_none,
  lo_none,
  lo_pushI 2 283,
  lo_istore 8 285,
  lo_none,
  lo_iload 6 287,
  lo_none,
  lo_if (fun x => decide (x = 0)) 343 290,
  lo_none,
  lo_none,
  lo_iload 7 292,
  lo_none,
  lo_iload 5 294,
  lo_none,
  lo_pushI 10 296,
  lo_none,
  lo_icmp (fun x y => decide (¬ x = y)) 303 299,
  lo_none,
  lo_none,
  lo_pushI 1 300,
  lo_goto 304,
  lo_none,
  lo_none,
  lo_pushI 0 304,
  lo_icmp (fun x y => decide (x < y)) 339 307,
  lo_none,
  lo_none,
  lo_iload 7 309,
  lo_none,
  lo_iload 8 311,
  lo_none,
  lo_icmp (fun x y => decide (y < x)) 339 314,
  lo_none,
  lo_none,
  lo_aload 0 315,
  lo_iload 2 316,
  lo_iload 5 318,
  lo_none,
  lo_callv fX11_managerOf 2 1320 321,
  lo_none,
  lo_none,
  lo_if (fun x => decide (x < 0)) 339 324,
  lo_none,
  lo_none,
  lo_aload 0 325,
  lo_iload 2 326,
  lo_iload 5 328,
  lo_none,
  lo_callv fX11_managerOf 2 1320 331,
  lo_none,
  lo_none,
  lo_pushI 5 332,
  lo_icmp (fun x y => decide (y < x)) 339 335,
  lo_none,
  lo_none,
  lo_pushI 1 336,
  lo_goto 371,
  lo_none,
  lo_none,
  lo_pushI 0 340,
  lo_goto 371,
  lo_none,
  lo_none,
  lo_iload 7 345,
  lo_none,
  lo_pushI (-1272) 348,
  lo_none,
  lo_none,
  lo_icmp (fun x y => decide (¬ x = y)) 370 351,
  lo_none,
  lo_none,
  lo_aload 0 352,
  lo_pushI 2 353,
  lo_iload 2 354,
  lo_iload 5 356,
  lo_none,
  lo_pushI 0 357,
  lo_calls fL_of 5 1 1320 360,
  lo_none,
  lo_none,
  lo_pushI (-1272) 363,
  lo_none,
  lo_none,
  lo_icmp (fun x y => decide (¬ x = y)) 370 366,
  lo_none,
  lo_none,
  lo_pushI 1 367,
  lo_goto 371,
  lo_none,
  lo_none,
  lo_pushI 0 371,
  lo_istore 1 372,
  lo_iinc 5 1 375,
  lo_none,
  lo_none,
  lo_goto 103,
  lo_none,
  lo_none,
  lo_iload 1 379,
  lo_if (fun x => decide (x = 0)) 439 382,
  lo_none,
  lo_none,
  lo_iload 3 383,
  lo_if (fun x => decide (¬ x = 0)) 439 386,
  lo_none,
  lo_none,
  lo_aload 0 387,
  lo_iload 2 388,
  lo_callv fX11_budget 1 1320 391,
  lo_none,
  lo_none,
  lo_pushI 10 393,
  lo_none,
  lo_aload 0 394,
  lo_iload 2 395,
  lo_pushI 2 396,
  lo_callv fX11_field 2 1320 399,
  lo_none,
  lo_none,
  lo_ii (fun x y => x * y) 400,
  lo_aload 0 401,
  lo_iload 2 402,
  lo_pushI 3 403,
  lo_callv fX11_field 2 1320 406,
  lo_none,
  lo_none,
  lo_ii (fun x y => x + y) 407,
  lo_icmp (fun x y => decide (¬ x = y)) 437 410,
  lo_none,
  lo_none,
  lo_aload 0 411,
  lo_iload 2 412,
  lo_callv fX11_budget 1 1320 415,
  lo_none,
  lo_none,
  lo_if (fun x => decide (x ≤ 0)) 437 418,
  lo_none,
  lo_none,
  lo_aload 0 419,
  lo_iload 2 420,
  lo_pushI 1 421,
  lo_callv fX11_running 2 1320 424,
  lo_none,
  lo_none,
  lo_aload 0 425,
  lo_iload 2 426,
  lo_pushI 0 427,
  lo_callv fX11_running 2 1320 430,
  lo_none,
  lo_none,
  lo_icmp (fun x y => decide (y < x)) 437 433,
  lo_none,
  lo_none,
  lo_pushI 1 434,
  lo_goto 438,
  lo_none,
  lo_none,
  lo_pushI 0 438,
  lo_istore 1 439,
  lo_iload 1 440,
  lo_if (fun x => decide (x = 0)) 512 443,
  lo_none,
  lo_none,
  lo_iload 3 444,
  lo_pushI 2 445,
  lo_icmp (fun x y => decide (¬ x = y)) 512 448,
  lo_none,
  lo_none,
  lo_aload 0 449,
  lo_iload 2 450,
  lo_callv fX11_placeOf 1 1320 453,
  lo_none,
  lo_none,
  lo_istore 5 455,
  lo_none,
  lo_iload 5 457,
  lo_none,
  lo_pushI (-1) 458,
  lo_icmp (fun x y => decide (x < y)) 510 461,
  lo_none,
  lo_none,
  lo_iload 5 463,
  lo_none,
  lo_if (fun x => decide (x < 0)) 485 466,
  lo_none,
  lo_none,
  lo_aload 0 467,
  lo_iload 5 469,
  lo_none,
  lo_callv fX11_kindOf 1 1320 472,
  lo_none,
  lo_none,
  lo_pushI 4 473,
  lo_icmp (fun x y => decide (¬ x = y)) 510 476,
  lo_none,
  lo_none,
  lo_aload 0 477,
  lo_iload 2 478,
  lo_callv fX11_goingOf 1 1320 481,
  lo_none,
  lo_none,
  lo_pushI 4 482,
  lo_icmp (fun x y => decide (y ≤ x)) 510 485,
  lo_none,
  lo_none,
  lo_aload 0 486,
  lo_iload 2 487,
  lo_callv fX11_phaseOf 1 1320 490,
  lo_none,
  lo_none,
  lo_if (fun x => decide (x = 0)) 506 493,
  lo_none,
  lo_none,
  lo_iload 5 495,
  lo_none,
  lo_if (fun x => decide (0 ≤ x)) 506 498,
  lo_none,
  lo_none,
  lo_aload 0 499,
  lo_iload 2 500,
  lo_callv fX11_goingOf 1 1320 503,
  lo_none,
  lo_none,
  lo_if (fun x => decide (x ≤ 0)) 510 506,
  lo_none,
  lo_none,
  lo_pushI 1 507,
  lo_goto 511,
  lo_none,
  lo_none,
  lo_pushI 0 511,
  lo_istore 1 512,
  lo_iinc 2 1 515,
  lo_none,
  lo_none,
  lo_goto 4,
  lo_none,
  lo_none,
  lo_iload 1 519,
  lo_iret 1320 true]
set_option maxRecDepth 100000 in
theorem tl_L_areObjects : ∀ pc, lz_Tl (tL_areObjects.getD pc lo_none) := by
  refine lz_Tl_mem ?_
  unfold tL_areObjects
  refine List.forall_mem_cons.mpr ⟨(lo_pushI_tl _ _), ?_⟩
  refine List.forall_mem_cons.mpr ⟨(lo_istore_tl _ _), ?_⟩
  refine List.forall_mem_cons.mpr ⟨(lo_pushI_tl _ _), ?_⟩
  refine List.forall_mem_cons.mpr ⟨(lo_istore_tl _ _), ?_⟩
  refine List.forall_mem_cons.mpr ⟨(lo_iload_tl _ _), ?_⟩
  refine List.forall_mem_cons.mpr ⟨(lo_aload_tl _ _), ?_⟩
  refine List.forall_mem_cons.mpr ⟨(lo_callv_tl _ _ _ _), ?_⟩
  refine List.forall_mem_cons.mpr ⟨lo_none_tl, ?_⟩
  refine List.forall_mem_cons.mpr ⟨lo_none_tl, ?_⟩
  refine List.forall_mem_cons.mpr ⟨(lo_icmp_tl _ _ _), ?_⟩
  refine List.forall_mem_cons.mpr ⟨lo_none_tl, ?_⟩
  refine List.forall_mem_cons.mpr ⟨lo_none_tl, ?_⟩
  refine List.forall_mem_cons.mpr ⟨(lo_iload_tl _ _), ?_⟩
  refine List.forall_mem_cons.mpr ⟨(lo_if_tl _ _ _), ?_⟩
  refine List.forall_mem_cons.mpr ⟨lo_none_tl, ?_⟩
  refine List.forall_mem_cons.mpr ⟨lo_none_tl, ?_⟩
  refine List.forall_mem_cons.mpr ⟨(lo_aload_tl _ _), ?_⟩
  refine List.forall_mem_cons.mpr ⟨(lo_iload_tl _ _), ?_⟩
  refine List.forall_mem_cons.mpr ⟨(lo_callv_tl _ _ _ _), ?_⟩
  refine List.forall_mem_cons.mpr ⟨lo_none_tl, ?_⟩
  refine List.forall_mem_cons.mpr ⟨lo_none_tl, ?_⟩
  refine List.forall_mem_cons.mpr ⟨(lo_istore_tl _ _), ?_⟩
  refine List.forall_mem_cons.mpr ⟨(lo_aload_tl _ _), ?_⟩
  refine List.forall_mem_cons.mpr ⟨(lo_iload_tl _ _), ?_⟩
  refine List.forall_mem_cons.mpr ⟨(lo_callv_tl _ _ _ _), ?_⟩
  refine List.forall_mem_cons.mpr ⟨lo_none_tl, ?_⟩
  refine List.forall_mem_cons.mpr ⟨lo_none_tl, ?_⟩
  refine List.forall_mem_cons.mpr ⟨(lo_istore_tl _ _), ?_⟩
  refine List.forall_mem_cons.mpr ⟨lo_none_tl, ?_⟩
  refine List.forall_mem_cons.mpr ⟨(lo_iload_tl _ _), ?_⟩
  refine List.forall_mem_cons.mpr ⟨lo_none_tl, ?_⟩
  refine List.forall_mem_cons.mpr ⟨(lo_iload_tl _ _), ?_⟩
  refine List.forall_mem_cons.mpr ⟨(lo_icmp_tl _ _ _), ?_⟩
  refine List.forall_mem_cons.mpr ⟨lo_none_tl, ?_⟩
  refine List.forall_mem_cons.mpr ⟨lo_none_tl, ?_⟩
  refine List.forall_mem_cons.mpr ⟨(lo_iload_tl _ _), ?_⟩
  refine List.forall_mem_cons.mpr ⟨lo_none_tl, ?_⟩
  refine List.forall_mem_cons.mpr ⟨(lo_pushI_tl _ _), ?_⟩
  refine List.forall_mem_cons.mpr ⟨(lo_icmp_tl _ _ _), ?_⟩
  refine List.forall_mem_cons.mpr ⟨lo_none_tl, ?_⟩
  refine List.forall_mem_cons.mpr ⟨lo_none_tl, ?_⟩
  refine List.forall_mem_cons.mpr ⟨(lo_iload_tl _ _), ?_⟩
  refine List.forall_mem_cons.mpr ⟨lo_none_tl, ?_⟩
  refine List.forall_mem_cons.mpr ⟨(lo_if_tl _ _ _), ?_⟩
  refine List.forall_mem_cons.mpr ⟨lo_none_tl, ?_⟩
  refine List.forall_mem_cons.mpr ⟨lo_none_tl, ?_⟩
  refine List.forall_mem_cons.mpr ⟨(lo_aload_tl _ _), ?_⟩
  refine List.forall_mem_cons.mpr ⟨(lo_iload_tl _ _), ?_⟩
  refine List.forall_mem_cons.mpr ⟨(lo_callv_tl _ _ _ _), ?_⟩
  refine List.forall_mem_cons.mpr ⟨lo_none_tl, ?_⟩
  refine List.forall_mem_cons.mpr ⟨lo_none_tl, ?_⟩
  refine List.forall_mem_cons.mpr ⟨(lo_pushI_tl _ _), ?_⟩
  refine List.forall_mem_cons.mpr ⟨(lo_icmp_tl _ _ _), ?_⟩
  refine List.forall_mem_cons.mpr ⟨lo_none_tl, ?_⟩
  refine List.forall_mem_cons.mpr ⟨lo_none_tl, ?_⟩
  refine List.forall_mem_cons.mpr ⟨(lo_iload_tl _ _), ?_⟩
  refine List.forall_mem_cons.mpr ⟨(lo_pushI_tl _ _), ?_⟩
  refine List.forall_mem_cons.mpr ⟨(lo_icmp_tl _ _ _), ?_⟩
  refine List.forall_mem_cons.mpr ⟨lo_none_tl, ?_⟩
  refine List.forall_mem_cons.mpr ⟨lo_none_tl, ?_⟩
  refine List.forall_mem_cons.mpr ⟨(lo_aload_tl _ _), ?_⟩
  refine List.forall_mem_cons.mpr ⟨(lo_iload_tl _ _), ?_⟩
  refine List.forall_mem_cons.mpr ⟨lo_none_tl, ?_⟩
  refine List.forall_mem_cons.mpr ⟨(lo_callv_tl _ _ _ _), ?_⟩
  refine List.forall_mem_cons.mpr ⟨lo_none_tl, ?_⟩
  refine List.forall_mem_cons.mpr ⟨lo_none_tl, ?_⟩
  refine List.forall_mem_cons.mpr ⟨(lo_if_tl _ _ _), ?_⟩
  refine List.forall_mem_cons.mpr ⟨lo_none_tl, ?_⟩
  refine List.forall_mem_cons.mpr ⟨lo_none_tl, ?_⟩
  refine List.forall_mem_cons.mpr ⟨(lo_iload_tl _ _), ?_⟩
  refine List.forall_mem_cons.mpr ⟨(lo_pushI_tl _ _), ?_⟩
  refine List.forall_mem_cons.mpr ⟨(lo_icmp_tl _ _ _), ?_⟩
  refine List.forall_mem_cons.mpr ⟨lo_none_tl, ?_⟩
  refine List.forall_mem_cons.mpr ⟨lo_none_tl, ?_⟩
  refine List.forall_mem_cons.mpr ⟨(lo_aload_tl _ _), ?_⟩
  refine List.forall_mem_cons.mpr ⟨(lo_iload_tl _ _), ?_⟩
  refine List.forall_mem_cons.mpr ⟨lo_none_tl, ?_⟩
  refine List.forall_mem_cons.mpr ⟨(lo_callv_tl _ _ _ _), ?_⟩
  refine List.forall_mem_cons.mpr ⟨lo_none_tl, ?_⟩
  refine List.forall_mem_cons.mpr ⟨lo_none_tl, ?_⟩
  refine List.forall_mem_cons.mpr ⟨(lo_pushI_tl _ _), ?_⟩
  refine List.forall_mem_cons.mpr ⟨(lo_icmp_tl _ _ _), ?_⟩
  refine List.forall_mem_cons.mpr ⟨lo_none_tl, ?_⟩
  refine List.forall_mem_cons.mpr ⟨lo_none_tl, ?_⟩
  refine List.forall_mem_cons.mpr ⟨(lo_aload_tl _ _), ?_⟩
  refine List.forall_mem_cons.mpr ⟨(lo_iload_tl _ _), ?_⟩
  refine List.forall_mem_cons.mpr ⟨lo_none_tl, ?_⟩
  refine List.forall_mem_cons.mpr ⟨(lo_callv_tl _ _ _ _), ?_⟩
  refine List.forall_mem_cons.mpr ⟨lo_none_tl, ?_⟩
  refine List.forall_mem_cons.mpr ⟨lo_none_tl, ?_⟩
  refine List.forall_mem_cons.mpr ⟨(lo_pushI_tl _ _), ?_⟩
  refine List.forall_mem_cons.mpr ⟨(lo_icmp_tl _ _ _), ?_⟩
  refine List.forall_mem_cons.mpr ⟨lo_none_tl, ?_⟩
  refine List.forall_mem_cons.mpr ⟨lo_none_tl, ?_⟩
  refine List.forall_mem_cons.mpr ⟨(lo_pushI_tl _ _), ?_⟩
  refine List.forall_mem_cons.mpr ⟨(lo_goto_tl _), ?_⟩
  refine List.forall_mem_cons.mpr ⟨lo_none_tl, ?_⟩
  refine List.forall_mem_cons.mpr ⟨lo_none_tl, ?_⟩
  refine List.forall_mem_cons.mpr ⟨(lo_pushI_tl _ _), ?_⟩
  refine List.forall_mem_cons.mpr ⟨(lo_istore_tl _ _), ?_⟩
  refine List.forall_mem_cons.mpr ⟨(lo_pushI_tl _ _), ?_⟩
  refine List.forall_mem_cons.mpr ⟨(lo_istore_tl _ _), ?_⟩
  refine List.forall_mem_cons.mpr ⟨lo_none_tl, ?_⟩
  refine List.forall_mem_cons.mpr ⟨(lo_iload_tl _ _), ?_⟩
  refine List.forall_mem_cons.mpr ⟨lo_none_tl, ?_⟩
  refine List.forall_mem_cons.mpr ⟨(lo_pushI_tl _ _), ?_⟩
  refine List.forall_mem_cons.mpr ⟨lo_none_tl, ?_⟩
  refine List.forall_mem_cons.mpr ⟨(lo_icmp_tl _ _ _), ?_⟩
  refine List.forall_mem_cons.mpr ⟨lo_none_tl, ?_⟩
  refine List.forall_mem_cons.mpr ⟨lo_none_tl, ?_⟩
  refine List.forall_mem_cons.mpr ⟨(lo_iload_tl _ _), ?_⟩
  refine List.forall_mem_cons.mpr ⟨(lo_if_tl _ _ _), ?_⟩
  refine List.forall_mem_cons.mpr ⟨lo_none_tl, ?_⟩
  refine List.forall_mem_cons.mpr ⟨lo_none_tl, ?_⟩
  refine List.forall_mem_cons.mpr ⟨(lo_iload_tl _ _), ?_⟩
  refine List.forall_mem_cons.mpr ⟨(lo_if_tl _ _ _), ?_⟩
  refine List.forall_mem_cons.mpr ⟨lo_none_tl, ?_⟩
  refine List.forall_mem_cons.mpr ⟨lo_none_tl, ?_⟩
  refine List.forall_mem_cons.mpr ⟨(lo_iload_tl _ _), ?_⟩
  refine List.forall_mem_cons.mpr ⟨lo_none_tl, ?_⟩
  refine List.forall_mem_cons.mpr ⟨(lo_pushI_tl _ _), ?_⟩
  refine List.forall_mem_cons.mpr ⟨lo_none_tl, ?_⟩
  refine List.forall_mem_cons.mpr ⟨(lo_icmp_tl _ _ _), ?_⟩
  refine List.forall_mem_cons.mpr ⟨lo_none_tl, ?_⟩
  refine List.forall_mem_cons.mpr ⟨lo_none_tl, ?_⟩
  refine List.forall_mem_cons.mpr ⟨(lo_iload_tl _ _), ?_⟩
  refine List.forall_mem_cons.mpr ⟨(lo_pushI_tl _ _), ?_⟩
  refine List.forall_mem_cons.mpr ⟨(lo_icmp_tl _ _ _), ?_⟩
  refine List.forall_mem_cons.mpr ⟨lo_none_tl, ?_⟩
  refine List.forall_mem_cons.mpr ⟨lo_none_tl, ?_⟩
  refine List.forall_mem_cons.mpr ⟨(lo_iload_tl _ _), ?_⟩
  refine List.forall_mem_cons.mpr ⟨lo_none_tl, ?_⟩
  refine List.forall_mem_cons.mpr ⟨(lo_pushI_tl _ _), ?_⟩
  refine List.forall_mem_cons.mpr ⟨(lo_icmp_tl _ _ _), ?_⟩
  refine List.forall_mem_cons.mpr ⟨lo_none_tl, ?_⟩
  refine List.forall_mem_cons.mpr ⟨lo_none_tl, ?_⟩
  refine List.forall_mem_cons.mpr ⟨(lo_iload_tl _ _), ?_⟩
  refine List.forall_mem_cons.mpr ⟨(lo_pushI_tl _ _), ?_⟩
  refine List.forall_mem_cons.mpr ⟨(lo_icmp_tl _ _ _), ?_⟩
  refine List.forall_mem_cons.mpr ⟨lo_none_tl, ?_⟩
  refine List.forall_mem_cons.mpr ⟨lo_none_tl, ?_⟩
  refine List.forall_mem_cons.mpr ⟨(lo_iload_tl _ _), ?_⟩
  refine List.forall_mem_cons.mpr ⟨lo_none_tl, ?_⟩
  refine List.forall_mem_cons.mpr ⟨(lo_pushI_tl _ _), ?_⟩
  refine List.forall_mem_cons.mpr ⟨(lo_icmp_tl _ _ _), ?_⟩
  refine List.forall_mem_cons.mpr ⟨lo_none_tl, ?_⟩
  refine List.forall_mem_cons.mpr ⟨lo_none_tl, ?_⟩
  refine List.forall_mem_cons.mpr ⟨(lo_iload_tl _ _), ?_⟩
  refine List.forall_mem_cons.mpr ⟨(lo_pushI_tl _ _), ?_⟩
  refine List.forall_mem_cons.mpr ⟨(lo_icmp_tl _ _ _), ?_⟩
  refine List.forall_mem_cons.mpr ⟨lo_none_tl, ?_⟩
  refine List.forall_mem_cons.mpr ⟨lo_none_tl, ?_⟩
  refine List.forall_mem_cons.mpr ⟨(lo_iload_tl _ _), ?_⟩
  refine List.forall_mem_cons.mpr ⟨lo_none_tl, ?_⟩
  refine List.forall_mem_cons.mpr ⟨(lo_pushI_tl _ _), ?_⟩
  refine List.forall_mem_cons.mpr ⟨(lo_icmp_tl _ _ _), ?_⟩
  refine List.forall_mem_cons.mpr ⟨lo_none_tl, ?_⟩
  refine List.forall_mem_cons.mpr ⟨lo_none_tl, ?_⟩
  refine List.forall_mem_cons.mpr ⟨(lo_iload_tl _ _), ?_⟩
  refine List.forall_mem_cons.mpr ⟨lo_none_tl, ?_⟩
  refine List.forall_mem_cons.mpr ⟨(lo_pushI_tl _ _), ?_⟩
  refine List.forall_mem_cons.mpr ⟨lo_none_tl, ?_⟩
  refine List.forall_mem_cons.mpr ⟨(lo_icmp_tl _ _ _), ?_⟩
  refine List.forall_mem_cons.mpr ⟨lo_none_tl, ?_⟩
  refine List.forall_mem_cons.mpr ⟨lo_none_tl, ?_⟩
  refine List.forall_mem_cons.mpr ⟨(lo_iload_tl _ _), ?_⟩
  refine List.forall_mem_cons.mpr ⟨(lo_pushI_tl _ _), ?_⟩
  refine List.forall_mem_cons.mpr ⟨(lo_icmp_tl _ _ _), ?_⟩
  refine List.forall_mem_cons.mpr ⟨lo_none_tl, ?_⟩
  refine List.forall_mem_cons.mpr ⟨lo_none_tl, ?_⟩
  refine List.forall_mem_cons.mpr ⟨(lo_iload_tl _ _), ?_⟩
  refine List.forall_mem_cons.mpr ⟨lo_none_tl, ?_⟩
  refine List.forall_mem_cons.mpr ⟨(lo_pushI_tl _ _), ?_⟩
  refine List.forall_mem_cons.mpr ⟨lo_none_tl, ?_⟩
  refine List.forall_mem_cons.mpr ⟨(lo_icmp_tl _ _ _), ?_⟩
  refine List.forall_mem_cons.mpr ⟨lo_none_tl, ?_⟩
  refine List.forall_mem_cons.mpr ⟨lo_none_tl, ?_⟩
  refine List.forall_mem_cons.mpr ⟨(lo_iload_tl _ _), ?_⟩
  refine List.forall_mem_cons.mpr ⟨lo_none_tl, ?_⟩
  refine List.forall_mem_cons.mpr ⟨(lo_pushI_tl _ _), ?_⟩
  refine List.forall_mem_cons.mpr ⟨lo_none_tl, ?_⟩
  refine List.forall_mem_cons.mpr ⟨(lo_icmp_tl _ _ _), ?_⟩
  refine List.forall_mem_cons.mpr ⟨lo_none_tl, ?_⟩
  refine List.forall_mem_cons.mpr ⟨lo_none_tl, ?_⟩
  refine List.forall_mem_cons.mpr ⟨(lo_iload_tl _ _), ?_⟩
  refine List.forall_mem_cons.mpr ⟨(lo_pushI_tl _ _), ?_⟩
  refine List.forall_mem_cons.mpr ⟨(lo_icmp_tl _ _ _), ?_⟩
  refine List.forall_mem_cons.mpr ⟨lo_none_tl, ?_⟩
  refine List.forall_mem_cons.mpr ⟨lo_none_tl, ?_⟩
  refine List.forall_mem_cons.mpr ⟨(lo_iload_tl _ _), ?_⟩
  refine List.forall_mem_cons.mpr ⟨lo_none_tl, ?_⟩
  refine List.forall_mem_cons.mpr ⟨(lo_pushI_tl _ _), ?_⟩
  refine List.forall_mem_cons.mpr ⟨(lo_icmp_tl _ _ _), ?_⟩
  refine List.forall_mem_cons.mpr ⟨lo_none_tl, ?_⟩
  refine List.forall_mem_cons.mpr ⟨lo_none_tl, ?_⟩
  refine List.forall_mem_cons.mpr ⟨(lo_pushI_tl _ _), ?_⟩
  refine List.forall_mem_cons.mpr ⟨(lo_goto_tl _), ?_⟩
  refine List.forall_mem_cons.mpr ⟨lo_none_tl, ?_⟩
  refine List.forall_mem_cons.mpr ⟨lo_none_tl, ?_⟩
  refine List.forall_mem_cons.mpr ⟨(lo_pushI_tl _ _), ?_⟩
  refine List.forall_mem_cons.mpr ⟨(lo_istore_tl _ _), ?_⟩
  refine List.forall_mem_cons.mpr ⟨lo_none_tl, ?_⟩
  refine List.forall_mem_cons.mpr ⟨(lo_aload_tl _ _), ?_⟩
  refine List.forall_mem_cons.mpr ⟨(lo_pushI_tl _ _), ?_⟩
  refine List.forall_mem_cons.mpr ⟨(lo_iload_tl _ _), ?_⟩
  refine List.forall_mem_cons.mpr ⟨(lo_iload_tl _ _), ?_⟩
  refine List.forall_mem_cons.mpr ⟨lo_none_tl, ?_⟩
  refine List.forall_mem_cons.mpr ⟨(lo_pushI_tl _ _), ?_⟩
  refine List.forall_mem_cons.mpr ⟨(lo_calls_tl _ _ _ _ _), ?_⟩
  refine List.forall_mem_cons.mpr ⟨lo_none_tl, ?_⟩
  refine List.forall_mem_cons.mpr ⟨lo_none_tl, ?_⟩
  refine List.forall_mem_cons.mpr ⟨(lo_istore_tl _ _), ?_⟩
  refine List.forall_mem_cons.mpr ⟨lo_none_tl, ?_⟩
  refine List.forall_mem_cons.mpr ⟨(lo_iload_tl _ _), ?_⟩
  refine List.forall_mem_cons.mpr ⟨lo_none_tl, ?_⟩
  refine List.forall_mem_cons.mpr ⟨(lo_pushI_tl _ _), ?_⟩
  refine List.forall_mem_cons.mpr ⟨lo_none_tl, ?_⟩
  refine List.forall_mem_cons.mpr ⟨(lo_icmp_tl _ _ _), ?_⟩
  refine List.forall_mem_cons.mpr ⟨lo_none_tl, ?_⟩
  refine List.forall_mem_cons.mpr ⟨lo_none_tl, ?_⟩
  refine List.forall_mem_cons.mpr ⟨(lo_pushI_tl _ _), ?_⟩
  refine List.forall_mem_cons.mpr ⟨lo_none_tl, ?_⟩
  refine List.forall_mem_cons.mpr ⟨(lo_goto_tl _), ?_⟩
  refine List.forall_mem_cons.mpr ⟨lo_none_tl, ?_⟩
  refine List.forall_mem_cons.mpr ⟨lo_none_tl, ?_⟩
  refine List.forall_mem_cons.mpr ⟨(lo_iload_tl _ _), ?_⟩
  refine List.forall_mem_cons.mpr ⟨lo_none_tl, ?_⟩
  refine List.forall_mem_cons.mpr ⟨(lo_pushI_tl _ _), ?_⟩
  refine List.forall_mem_cons.mpr ⟨(lo_icmp_tl _ _ _), ?_⟩
  refine List.forall_mem_cons.mpr ⟨lo_none_tl, ?_⟩
  refine List.forall_mem_cons.mpr ⟨lo_none_tl, ?_⟩
  refine List.forall_mem_cons.mpr ⟨(lo_iload_tl _ _), ?_⟩
  refine List.forall_mem_cons.mpr ⟨lo_none_tl, ?_⟩
  refine List.forall_mem_cons.mpr ⟨(lo_pushI_tl _ _), ?_⟩
  refine List.forall_mem_cons.mpr ⟨lo_none_tl, ?_⟩
  refine List.forall_mem_cons.mpr ⟨(lo_icmp_tl _ _ _), ?_⟩
  refine List.forall_mem_cons.mpr ⟨lo_none_tl, ?_⟩
  refine List.forall_mem_cons.mpr ⟨lo_none_tl, ?_⟩
  refine List.forall_mem_cons.mpr ⟨(lo_pushI_tl _ _), ?_⟩
  refine List.forall_mem_cons.mpr ⟨lo_none_tl, ?_⟩
  refine List.forall_mem_cons.mpr ⟨(lo_goto_tl _), ?_⟩
  refine List.forall_mem_cons.mpr ⟨lo_none_tl, ?_⟩
  refine List.forall_mem_cons.mpr ⟨lo_none_tl, ?_⟩
  refine List.forall_mem_cons.mpr ⟨(lo_iload_tl _ _), ?_⟩
  refine List.forall_mem_cons.mpr ⟨lo_none_tl, ?_⟩
  refine List.forall_mem_cons.mpr ⟨(lo_pushI_tl _ _), ?_⟩
  refine List.forall_mem_cons.mpr ⟨(lo_icmp_tl _ _ _), ?_⟩
  refine List.forall_mem_cons.mpr ⟨lo_none_tl, ?_⟩
  refine List.forall_mem_cons.mpr ⟨lo_none_tl, ?_⟩
  refine List.forall_mem_cons.mpr ⟨(lo_iload_tl _ _), ?_⟩
  refine List.forall_mem_cons.mpr ⟨lo_none_tl, ?_⟩
  refine List.forall_mem_cons.mpr ⟨(lo_pushI_tl _ _), ?_⟩
  refine List.forall_mem_cons.mpr ⟨lo_none_tl, ?_⟩
  refine List.forall_mem_cons.mpr ⟨(lo_icmp_tl _ _ _), ?_⟩
  refine List.forall_mem_cons.mpr ⟨lo_none_tl, ?_⟩
  refine List.forall_mem_cons.mpr ⟨lo_none_tl, ?_⟩
  refine List.forall_mem_cons.mpr ⟨(lo_pushI_tl _ _), ?_⟩
  refine List.forall_mem_cons.mpr ⟨(lo_goto_tl _), ?_⟩
  refine List.forall_mem_cons.mpr ⟨lo_none_tl, ?_⟩
  refine List.forall_mem_cons.mpr ⟨lo_none_tl, ?_⟩
  refine List.forall_mem_cons.mpr ⟨(lo_iload_tl _ _), ?_⟩
  refine List.forall_mem_cons.mpr ⟨lo_none_tl, ?_⟩
  refine List.forall_mem_cons.mpr ⟨(lo_if_tl _ _ _), ?_⟩
  refine List.forall_mem_cons.mpr ⟨lo_none_tl, ?_⟩
  refine List.forall_mem_cons.mpr ⟨lo_none_tl, ?_⟩
  refine List.forall_mem_cons.mpr ⟨(lo_iload_tl _ _), ?_⟩
  refine List.forall_mem_cons.mpr ⟨lo_none_tl, ?_⟩
  refine List.forall_mem_cons.mpr ⟨(lo_pushI_tl _ _), ?_⟩
  refine List.forall_mem_cons.mpr ⟨(lo_icmp_tl _ _ _), ?_⟩
  refine List.forall_mem_cons.mpr ⟨lo_none_tl, ?_⟩
  refine List.forall_mem_cons.mpr ⟨lo_none_tl, ?_⟩
  refine List.forall_mem_cons.mpr ⟨(lo_iload_tl _ _), ?_⟩
  refine List.forall_mem_cons.mpr ⟨lo_none_tl, ?_⟩
  refine List.forall_mem_cons.mpr ⟨(lo_pushI_tl _ _), ?_⟩
  refine List.forall_mem_cons.mpr ⟨lo_none_tl, ?_⟩
  refine List.forall_mem_cons.mpr ⟨(lo_icmp_tl _ _ _), ?_⟩
  refine List.forall_mem_cons.mpr ⟨lo_none_tl, ?_⟩
  refine List.forall_mem_cons.mpr ⟨lo_none_tl, ?_⟩
  refine List.forall_mem_cons.mpr ⟨(lo_pushI_tl _ _), ?_⟩
  refine List.forall_mem_cons.mpr ⟨(lo_goto_tl _), ?_⟩
  refine List.forall_mem_cons.mpr ⟨lo_none_tl, ?_⟩
  refine List.forall_mem_cons.mpr ⟨lo_none_tl, ?_⟩
  refine List.forall_mem_cons.mpr ⟨(lo_pushI_tl _ _), ?_⟩
  refine List.forall_mem_cons.mpr ⟨(lo_istore_tl _ _), ?_⟩
  refine List.forall_mem_cons.mpr ⟨lo_none_tl, ?_⟩
  refine List.forall_mem_cons.mpr ⟨(lo_iload_tl _ _), ?_⟩
  refine List.forall_mem_cons.mpr ⟨lo_none_tl, ?_⟩
  refine List.forall_mem_cons.mpr ⟨(lo_if_tl _ _ _), ?_⟩
  refine List.forall_mem_cons.mpr ⟨lo_none_tl, ?_⟩
  refine List.forall_mem_cons.mpr ⟨lo_none_tl, ?_⟩
  refine List.forall_mem_cons.mpr ⟨(lo_iload_tl _ _), ?_⟩
  refine List.forall_mem_cons.mpr ⟨lo_none_tl, ?_⟩
  refine List.forall_mem_cons.mpr ⟨(lo_iload_tl _ _), ?_⟩
  refine List.forall_mem_cons.mpr ⟨lo_none_tl, ?_⟩
  refine List.forall_mem_cons.mpr ⟨(lo_pushI_tl _ _), ?_⟩
  refine List.forall_mem_cons.mpr ⟨lo_none_tl, ?_⟩
  refine List.forall_mem_cons.mpr ⟨(lo_icmp_tl _ _ _), ?_⟩
  refine List.forall_mem_cons.mpr ⟨lo_none_tl, ?_⟩
  refine List.forall_mem_cons.mpr ⟨lo_none_tl, ?_⟩
  refine List.forall_mem_cons.mpr ⟨(lo_pushI_tl _ _), ?_⟩
  refine List.forall_mem_cons.mpr ⟨(lo_goto_tl _), ?_⟩
  refine List.forall_mem_cons.mpr ⟨lo_none_tl, ?_⟩
  refine List.forall_mem_cons.mpr ⟨lo_none_tl, ?_⟩
  refine List.forall_mem_cons.mpr ⟨(lo_pushI_tl _ _), ?_⟩
  refine List.forall_mem_cons.mpr ⟨(lo_icmp_tl _ _ _), ?_⟩
  refine List.forall_mem_cons.mpr ⟨lo_none_tl, ?_⟩
  refine List.forall_mem_cons.mpr ⟨lo_none_tl, ?_⟩
  refine List.forall_mem_cons.mpr ⟨(lo_iload_tl _ _), ?_⟩
  refine List.forall_mem_cons.mpr ⟨lo_none_tl, ?_⟩
  refine List.forall_mem_cons.mpr ⟨(lo_iload_tl _ _), ?_⟩
  refine List.forall_mem_cons.mpr ⟨lo_none_tl, ?_⟩
  refine List.forall_mem_cons.mpr ⟨(lo_icmp_tl _ _ _), ?_⟩
  refine List.forall_mem_cons.mpr ⟨lo_none_tl, ?_⟩
  refine List.forall_mem_cons.mpr ⟨lo_none_tl, ?_⟩
  refine List.forall_mem_cons.mpr ⟨(lo_aload_tl _ _), ?_⟩
  refine List.forall_mem_cons.mpr ⟨(lo_iload_tl _ _), ?_⟩
  refine List.forall_mem_cons.mpr ⟨(lo_iload_tl _ _), ?_⟩
  refine List.forall_mem_cons.mpr ⟨lo_none_tl, ?_⟩
  refine List.forall_mem_cons.mpr ⟨(lo_callv_tl _ _ _ _), ?_⟩
  refine List.forall_mem_cons.mpr ⟨lo_none_tl, ?_⟩
  refine List.forall_mem_cons.mpr ⟨lo_none_tl, ?_⟩
  refine List.forall_mem_cons.mpr ⟨(lo_if_tl _ _ _), ?_⟩
  refine List.forall_mem_cons.mpr ⟨lo_none_tl, ?_⟩
  refine List.forall_mem_cons.mpr ⟨lo_none_tl, ?_⟩
  refine List.forall_mem_cons.mpr ⟨(lo_aload_tl _ _), ?_⟩
  refine List.forall_mem_cons.mpr ⟨(lo_iload_tl _ _), ?_⟩
  refine List.forall_mem_cons.mpr ⟨(lo_iload_tl _ _), ?_⟩
  refine List.forall_mem_cons.mpr ⟨lo_none_tl, ?_⟩
  refine List.forall_mem_cons.mpr ⟨(lo_callv_tl _ _ _ _), ?_⟩
  refine List.forall_mem_cons.mpr ⟨lo_none_tl, ?_⟩
  refine List.forall_mem_cons.mpr ⟨lo_none_tl, ?_⟩
  refine List.forall_mem_cons.mpr ⟨(lo_pushI_tl _ _), ?_⟩
  refine List.forall_mem_cons.mpr ⟨(lo_icmp_tl _ _ _), ?_⟩
  refine List.forall_mem_cons.mpr ⟨lo_none_tl, ?_⟩
  refine List.forall_mem_cons.mpr ⟨lo_none_tl, ?_⟩
  refine List.forall_mem_cons.mpr ⟨(lo_pushI_tl _ _), ?_⟩
  refine List.forall_mem_cons.mpr ⟨(lo_goto_tl _), ?_⟩
  refine List.forall_mem_cons.mpr ⟨lo_none_tl, ?_⟩
  refine List.forall_mem_cons.mpr ⟨lo_none_tl, ?_⟩
  refine List.forall_mem_cons.mpr ⟨(lo_pushI_tl _ _), ?_⟩
  refine List.forall_mem_cons.mpr ⟨(lo_goto_tl _), ?_⟩
  refine List.forall_mem_cons.mpr ⟨lo_none_tl, ?_⟩
  refine List.forall_mem_cons.mpr ⟨lo_none_tl, ?_⟩
  refine List.forall_mem_cons.mpr ⟨(lo_iload_tl _ _), ?_⟩
  refine List.forall_mem_cons.mpr ⟨lo_none_tl, ?_⟩
  refine List.forall_mem_cons.mpr ⟨(lo_pushI_tl _ _), ?_⟩
  refine List.forall_mem_cons.mpr ⟨lo_none_tl, ?_⟩
  refine List.forall_mem_cons.mpr ⟨lo_none_tl, ?_⟩
  refine List.forall_mem_cons.mpr ⟨(lo_icmp_tl _ _ _), ?_⟩
  refine List.forall_mem_cons.mpr ⟨lo_none_tl, ?_⟩
  refine List.forall_mem_cons.mpr ⟨lo_none_tl, ?_⟩
  refine List.forall_mem_cons.mpr ⟨(lo_aload_tl _ _), ?_⟩
  refine List.forall_mem_cons.mpr ⟨(lo_pushI_tl _ _), ?_⟩
  refine List.forall_mem_cons.mpr ⟨(lo_iload_tl _ _), ?_⟩
  refine List.forall_mem_cons.mpr ⟨(lo_iload_tl _ _), ?_⟩
  refine List.forall_mem_cons.mpr ⟨lo_none_tl, ?_⟩
  refine List.forall_mem_cons.mpr ⟨(lo_pushI_tl _ _), ?_⟩
  refine List.forall_mem_cons.mpr ⟨(lo_calls_tl _ _ _ _ _), ?_⟩
  refine List.forall_mem_cons.mpr ⟨lo_none_tl, ?_⟩
  refine List.forall_mem_cons.mpr ⟨lo_none_tl, ?_⟩
  refine List.forall_mem_cons.mpr ⟨(lo_pushI_tl _ _), ?_⟩
  refine List.forall_mem_cons.mpr ⟨lo_none_tl, ?_⟩
  refine List.forall_mem_cons.mpr ⟨lo_none_tl, ?_⟩
  refine List.forall_mem_cons.mpr ⟨(lo_icmp_tl _ _ _), ?_⟩
  refine List.forall_mem_cons.mpr ⟨lo_none_tl, ?_⟩
  refine List.forall_mem_cons.mpr ⟨lo_none_tl, ?_⟩
  refine List.forall_mem_cons.mpr ⟨(lo_pushI_tl _ _), ?_⟩
  refine List.forall_mem_cons.mpr ⟨(lo_goto_tl _), ?_⟩
  refine List.forall_mem_cons.mpr ⟨lo_none_tl, ?_⟩
  refine List.forall_mem_cons.mpr ⟨lo_none_tl, ?_⟩
  refine List.forall_mem_cons.mpr ⟨(lo_pushI_tl _ _), ?_⟩
  refine List.forall_mem_cons.mpr ⟨(lo_istore_tl _ _), ?_⟩
  refine List.forall_mem_cons.mpr ⟨(lo_iinc_tl _ _ _), ?_⟩
  refine List.forall_mem_cons.mpr ⟨lo_none_tl, ?_⟩
  refine List.forall_mem_cons.mpr ⟨lo_none_tl, ?_⟩
  refine List.forall_mem_cons.mpr ⟨(lo_goto_tl _), ?_⟩
  refine List.forall_mem_cons.mpr ⟨lo_none_tl, ?_⟩
  refine List.forall_mem_cons.mpr ⟨lo_none_tl, ?_⟩
  refine List.forall_mem_cons.mpr ⟨(lo_iload_tl _ _), ?_⟩
  refine List.forall_mem_cons.mpr ⟨(lo_if_tl _ _ _), ?_⟩
  refine List.forall_mem_cons.mpr ⟨lo_none_tl, ?_⟩
  refine List.forall_mem_cons.mpr ⟨lo_none_tl, ?_⟩
  refine List.forall_mem_cons.mpr ⟨(lo_iload_tl _ _), ?_⟩
  refine List.forall_mem_cons.mpr ⟨(lo_if_tl _ _ _), ?_⟩
  refine List.forall_mem_cons.mpr ⟨lo_none_tl, ?_⟩
  refine List.forall_mem_cons.mpr ⟨lo_none_tl, ?_⟩
  refine List.forall_mem_cons.mpr ⟨(lo_aload_tl _ _), ?_⟩
  refine List.forall_mem_cons.mpr ⟨(lo_iload_tl _ _), ?_⟩
  refine List.forall_mem_cons.mpr ⟨(lo_callv_tl _ _ _ _), ?_⟩
  refine List.forall_mem_cons.mpr ⟨lo_none_tl, ?_⟩
  refine List.forall_mem_cons.mpr ⟨lo_none_tl, ?_⟩
  refine List.forall_mem_cons.mpr ⟨(lo_pushI_tl _ _), ?_⟩
  refine List.forall_mem_cons.mpr ⟨lo_none_tl, ?_⟩
  refine List.forall_mem_cons.mpr ⟨(lo_aload_tl _ _), ?_⟩
  refine List.forall_mem_cons.mpr ⟨(lo_iload_tl _ _), ?_⟩
  refine List.forall_mem_cons.mpr ⟨(lo_pushI_tl _ _), ?_⟩
  refine List.forall_mem_cons.mpr ⟨(lo_callv_tl _ _ _ _), ?_⟩
  refine List.forall_mem_cons.mpr ⟨lo_none_tl, ?_⟩
  refine List.forall_mem_cons.mpr ⟨lo_none_tl, ?_⟩
  refine List.forall_mem_cons.mpr ⟨(lo_ii_tl _ _), ?_⟩
  refine List.forall_mem_cons.mpr ⟨(lo_aload_tl _ _), ?_⟩
  refine List.forall_mem_cons.mpr ⟨(lo_iload_tl _ _), ?_⟩
  refine List.forall_mem_cons.mpr ⟨(lo_pushI_tl _ _), ?_⟩
  refine List.forall_mem_cons.mpr ⟨(lo_callv_tl _ _ _ _), ?_⟩
  refine List.forall_mem_cons.mpr ⟨lo_none_tl, ?_⟩
  refine List.forall_mem_cons.mpr ⟨lo_none_tl, ?_⟩
  refine List.forall_mem_cons.mpr ⟨(lo_ii_tl _ _), ?_⟩
  refine List.forall_mem_cons.mpr ⟨(lo_icmp_tl _ _ _), ?_⟩
  refine List.forall_mem_cons.mpr ⟨lo_none_tl, ?_⟩
  refine List.forall_mem_cons.mpr ⟨lo_none_tl, ?_⟩
  refine List.forall_mem_cons.mpr ⟨(lo_aload_tl _ _), ?_⟩
  refine List.forall_mem_cons.mpr ⟨(lo_iload_tl _ _), ?_⟩
  refine List.forall_mem_cons.mpr ⟨(lo_callv_tl _ _ _ _), ?_⟩
  refine List.forall_mem_cons.mpr ⟨lo_none_tl, ?_⟩
  refine List.forall_mem_cons.mpr ⟨lo_none_tl, ?_⟩
  refine List.forall_mem_cons.mpr ⟨(lo_if_tl _ _ _), ?_⟩
  refine List.forall_mem_cons.mpr ⟨lo_none_tl, ?_⟩
  refine List.forall_mem_cons.mpr ⟨lo_none_tl, ?_⟩
  refine List.forall_mem_cons.mpr ⟨(lo_aload_tl _ _), ?_⟩
  refine List.forall_mem_cons.mpr ⟨(lo_iload_tl _ _), ?_⟩
  refine List.forall_mem_cons.mpr ⟨(lo_pushI_tl _ _), ?_⟩
  refine List.forall_mem_cons.mpr ⟨(lo_callv_tl _ _ _ _), ?_⟩
  refine List.forall_mem_cons.mpr ⟨lo_none_tl, ?_⟩
  refine List.forall_mem_cons.mpr ⟨lo_none_tl, ?_⟩
  refine List.forall_mem_cons.mpr ⟨(lo_aload_tl _ _), ?_⟩
  refine List.forall_mem_cons.mpr ⟨(lo_iload_tl _ _), ?_⟩
  refine List.forall_mem_cons.mpr ⟨(lo_pushI_tl _ _), ?_⟩
  refine List.forall_mem_cons.mpr ⟨(lo_callv_tl _ _ _ _), ?_⟩
  refine List.forall_mem_cons.mpr ⟨lo_none_tl, ?_⟩
  refine List.forall_mem_cons.mpr ⟨lo_none_tl, ?_⟩
  refine List.forall_mem_cons.mpr ⟨(lo_icmp_tl _ _ _), ?_⟩
  refine List.forall_mem_cons.mpr ⟨lo_none_tl, ?_⟩
  refine List.forall_mem_cons.mpr ⟨lo_none_tl, ?_⟩
  refine List.forall_mem_cons.mpr ⟨(lo_pushI_tl _ _), ?_⟩
  refine List.forall_mem_cons.mpr ⟨(lo_goto_tl _), ?_⟩
  refine List.forall_mem_cons.mpr ⟨lo_none_tl, ?_⟩
  refine List.forall_mem_cons.mpr ⟨lo_none_tl, ?_⟩
  refine List.forall_mem_cons.mpr ⟨(lo_pushI_tl _ _), ?_⟩
  refine List.forall_mem_cons.mpr ⟨(lo_istore_tl _ _), ?_⟩
  refine List.forall_mem_cons.mpr ⟨(lo_iload_tl _ _), ?_⟩
  refine List.forall_mem_cons.mpr ⟨(lo_if_tl _ _ _), ?_⟩
  refine List.forall_mem_cons.mpr ⟨lo_none_tl, ?_⟩
  refine List.forall_mem_cons.mpr ⟨lo_none_tl, ?_⟩
  refine List.forall_mem_cons.mpr ⟨(lo_iload_tl _ _), ?_⟩
  refine List.forall_mem_cons.mpr ⟨(lo_pushI_tl _ _), ?_⟩
  refine List.forall_mem_cons.mpr ⟨(lo_icmp_tl _ _ _), ?_⟩
  refine List.forall_mem_cons.mpr ⟨lo_none_tl, ?_⟩
  refine List.forall_mem_cons.mpr ⟨lo_none_tl, ?_⟩
  refine List.forall_mem_cons.mpr ⟨(lo_aload_tl _ _), ?_⟩
  refine List.forall_mem_cons.mpr ⟨(lo_iload_tl _ _), ?_⟩
  refine List.forall_mem_cons.mpr ⟨(lo_callv_tl _ _ _ _), ?_⟩
  refine List.forall_mem_cons.mpr ⟨lo_none_tl, ?_⟩
  refine List.forall_mem_cons.mpr ⟨lo_none_tl, ?_⟩
  refine List.forall_mem_cons.mpr ⟨(lo_istore_tl _ _), ?_⟩
  refine List.forall_mem_cons.mpr ⟨lo_none_tl, ?_⟩
  refine List.forall_mem_cons.mpr ⟨(lo_iload_tl _ _), ?_⟩
  refine List.forall_mem_cons.mpr ⟨lo_none_tl, ?_⟩
  refine List.forall_mem_cons.mpr ⟨(lo_pushI_tl _ _), ?_⟩
  refine List.forall_mem_cons.mpr ⟨(lo_icmp_tl _ _ _), ?_⟩
  refine List.forall_mem_cons.mpr ⟨lo_none_tl, ?_⟩
  refine List.forall_mem_cons.mpr ⟨lo_none_tl, ?_⟩
  refine List.forall_mem_cons.mpr ⟨(lo_iload_tl _ _), ?_⟩
  refine List.forall_mem_cons.mpr ⟨lo_none_tl, ?_⟩
  refine List.forall_mem_cons.mpr ⟨(lo_if_tl _ _ _), ?_⟩
  refine List.forall_mem_cons.mpr ⟨lo_none_tl, ?_⟩
  refine List.forall_mem_cons.mpr ⟨lo_none_tl, ?_⟩
  refine List.forall_mem_cons.mpr ⟨(lo_aload_tl _ _), ?_⟩
  refine List.forall_mem_cons.mpr ⟨(lo_iload_tl _ _), ?_⟩
  refine List.forall_mem_cons.mpr ⟨lo_none_tl, ?_⟩
  refine List.forall_mem_cons.mpr ⟨(lo_callv_tl _ _ _ _), ?_⟩
  refine List.forall_mem_cons.mpr ⟨lo_none_tl, ?_⟩
  refine List.forall_mem_cons.mpr ⟨lo_none_tl, ?_⟩
  refine List.forall_mem_cons.mpr ⟨(lo_pushI_tl _ _), ?_⟩
  refine List.forall_mem_cons.mpr ⟨(lo_icmp_tl _ _ _), ?_⟩
  refine List.forall_mem_cons.mpr ⟨lo_none_tl, ?_⟩
  refine List.forall_mem_cons.mpr ⟨lo_none_tl, ?_⟩
  refine List.forall_mem_cons.mpr ⟨(lo_aload_tl _ _), ?_⟩
  refine List.forall_mem_cons.mpr ⟨(lo_iload_tl _ _), ?_⟩
  refine List.forall_mem_cons.mpr ⟨(lo_callv_tl _ _ _ _), ?_⟩
  refine List.forall_mem_cons.mpr ⟨lo_none_tl, ?_⟩
  refine List.forall_mem_cons.mpr ⟨lo_none_tl, ?_⟩
  refine List.forall_mem_cons.mpr ⟨(lo_pushI_tl _ _), ?_⟩
  refine List.forall_mem_cons.mpr ⟨(lo_icmp_tl _ _ _), ?_⟩
  refine List.forall_mem_cons.mpr ⟨lo_none_tl, ?_⟩
  refine List.forall_mem_cons.mpr ⟨lo_none_tl, ?_⟩
  refine List.forall_mem_cons.mpr ⟨(lo_aload_tl _ _), ?_⟩
  refine List.forall_mem_cons.mpr ⟨(lo_iload_tl _ _), ?_⟩
  refine List.forall_mem_cons.mpr ⟨(lo_callv_tl _ _ _ _), ?_⟩
  refine List.forall_mem_cons.mpr ⟨lo_none_tl, ?_⟩
  refine List.forall_mem_cons.mpr ⟨lo_none_tl, ?_⟩
  refine List.forall_mem_cons.mpr ⟨(lo_if_tl _ _ _), ?_⟩
  refine List.forall_mem_cons.mpr ⟨lo_none_tl, ?_⟩
  refine List.forall_mem_cons.mpr ⟨lo_none_tl, ?_⟩
  refine List.forall_mem_cons.mpr ⟨(lo_iload_tl _ _), ?_⟩
  refine List.forall_mem_cons.mpr ⟨lo_none_tl, ?_⟩
  refine List.forall_mem_cons.mpr ⟨(lo_if_tl _ _ _), ?_⟩
  refine List.forall_mem_cons.mpr ⟨lo_none_tl, ?_⟩
  refine List.forall_mem_cons.mpr ⟨lo_none_tl, ?_⟩
  refine List.forall_mem_cons.mpr ⟨(lo_aload_tl _ _), ?_⟩
  refine List.forall_mem_cons.mpr ⟨(lo_iload_tl _ _), ?_⟩
  refine List.forall_mem_cons.mpr ⟨(lo_callv_tl _ _ _ _), ?_⟩
  refine List.forall_mem_cons.mpr ⟨lo_none_tl, ?_⟩
  refine List.forall_mem_cons.mpr ⟨lo_none_tl, ?_⟩
  refine List.forall_mem_cons.mpr ⟨(lo_if_tl _ _ _), ?_⟩
  refine List.forall_mem_cons.mpr ⟨lo_none_tl, ?_⟩
  refine List.forall_mem_cons.mpr ⟨lo_none_tl, ?_⟩
  refine List.forall_mem_cons.mpr ⟨(lo_pushI_tl _ _), ?_⟩
  refine List.forall_mem_cons.mpr ⟨(lo_goto_tl _), ?_⟩
  refine List.forall_mem_cons.mpr ⟨lo_none_tl, ?_⟩
  refine List.forall_mem_cons.mpr ⟨lo_none_tl, ?_⟩
  refine List.forall_mem_cons.mpr ⟨(lo_pushI_tl _ _), ?_⟩
  refine List.forall_mem_cons.mpr ⟨(lo_istore_tl _ _), ?_⟩
  refine List.forall_mem_cons.mpr ⟨(lo_iinc_tl _ _ _), ?_⟩
  refine List.forall_mem_cons.mpr ⟨lo_none_tl, ?_⟩
  refine List.forall_mem_cons.mpr ⟨lo_none_tl, ?_⟩
  refine List.forall_mem_cons.mpr ⟨(lo_goto_tl _), ?_⟩
  refine List.forall_mem_cons.mpr ⟨lo_none_tl, ?_⟩
  refine List.forall_mem_cons.mpr ⟨lo_none_tl, ?_⟩
  refine List.forall_mem_cons.mpr ⟨(lo_iload_tl _ _), ?_⟩
  refine List.forall_mem_cons.mpr ⟨(lo_iret_tl _ _), ?_⟩
  exact fun _ h => absurd h List.not_mem_nil
noncomputable def fL_areObjects : lzFn := lz_fn tL_areObjects 9
set_option maxRecDepth 100000 in
set_option maxHeartbeats 4000000 in
theorem mm_L_areObjects {l : Launch} {D : va_G} {cA : Nat → ClassId} {ad : Nat → Nat} {Ex : (Nat → Prop) → State → Heap → Prop} {sc : List Int32} (Wd : lzWd l D cA ad Ex sc) : lz_C l D zzCl cA ad zzSC Ex yL_areObjects (Cond.code yL_areObjects cL_areObjects 9 (some .boolean)) 9 153 1320 fL_areObjects := by
  refine lz_meth (plainFor_of_name (by decide)) Wd.1.2.1 Wd.1.2.2.1 (fun p e R s m args below meth c rr X => ?_)
  unfold tL_areObjects
  refine lz_cons (k' := 1) rfl (lk_iconst X dL_areObjects_0 (by decide) rfl) ?_
  refine lz_cons (k' := 2) rfl (lk_istore_n X dL_areObjects_1 rfl (by decide) rfl) ?_
  refine lz_cons (k' := 3) rfl (lk_iconst X dL_areObjects_2 (by decide) rfl) ?_
  refine lz_cons (k' := 4) rfl (lk_istore_n X dL_areObjects_3 rfl (by decide) rfl) ?_
  refine lz_cons (k' := 5) rfl (lk_iload_n X dL_areObjects_4 rfl rfl) ?_
  refine lz_cons (k' := 6) rfl (lk_aload_n X dL_areObjects_5 rfl rfl) ?_
  refine lz_cons (k' := 7) rfl (lk_callv X kc_155 (mm_X11_objects Wd.1) (by decide) dL_areObjects_6 rfl) ?_
  refine lz_cons (k' := 8) rfl (lz_Ok_none _ _) ?_
  refine lz_cons (k' := 9) rfl (lz_Ok_none _ _) ?_
  refine lz_cons (k' := 10) rfl (lk_icmp_ge X dL_areObjects_9 (by decide) rfl) ?_
  refine lz_cons (k' := 11) rfl (lz_Ok_none _ _) ?_
  refine lz_cons (k' := 12) rfl (lz_Ok_none _ _) ?_
  refine lz_cons (k' := 13) rfl (lk_iload_n X dL_areObjects_12 rfl rfl) ?_
  refine lz_cons (k' := 14) rfl (lk_if_eq X dL_areObjects_13 (by decide) rfl) ?_
  refine lz_cons (k' := 15) rfl (lz_Ok_none _ _) ?_
  refine lz_cons (k' := 16) rfl (lz_Ok_none _ _) ?_
  refine lz_cons (k' := 17) rfl (lk_aload_n X dL_areObjects_16 rfl rfl) ?_
  refine lz_cons (k' := 18) rfl (lk_iload_n X dL_areObjects_17 rfl rfl) ?_
  refine lz_cons (k' := 19) rfl (lk_callv X kc_83 (mm_X11_kindOf Wd.1) (by decide) dL_areObjects_18 rfl) ?_
  refine lz_cons (k' := 20) rfl (lz_Ok_none _ _) ?_
  refine lz_cons (k' := 21) rfl (lz_Ok_none _ _) ?_
  refine lz_cons (k' := 22) rfl (lk_istore_n X dL_areObjects_21 rfl (by decide) rfl) ?_
  refine lz_cons (k' := 23) rfl (lk_aload_n X dL_areObjects_22 rfl rfl) ?_
  refine lz_cons (k' := 24) rfl (lk_iload_n X dL_areObjects_23 rfl rfl) ?_
  refine lz_cons (k' := 25) rfl (lk_callv X kc_101 (mm_X11_ownerOf Wd.1) (by decide) dL_areObjects_24 rfl) ?_
  refine lz_cons (k' := 26) rfl (lz_Ok_none _ _) ?_
  refine lz_cons (k' := 27) rfl (lz_Ok_none _ _) ?_
  refine lz_cons (k' := 28) rfl (lk_istore X dL_areObjects_27 (by decide) rfl) ?_
  refine lz_cons (k' := 29) rfl (lz_Ok_none _ _) ?_
  refine lz_cons (k' := 30) rfl (lk_iload X dL_areObjects_29 rfl) ?_
  refine lz_cons (k' := 31) rfl (lz_Ok_none _ _) ?_
  refine lz_cons (k' := 32) rfl (lk_iload_n X dL_areObjects_31 rfl rfl) ?_
  refine lz_cons (k' := 33) rfl (lk_icmp_ge X dL_areObjects_32 (by decide) rfl) ?_
  refine lz_cons (k' := 34) rfl (lz_Ok_none _ _) ?_
  refine lz_cons (k' := 35) rfl (lz_Ok_none _ _) ?_
  refine lz_cons (k' := 36) rfl (lk_iload X dL_areObjects_35 rfl) ?_
  refine lz_cons (k' := 37) rfl (lz_Ok_none _ _) ?_
  refine lz_cons (k' := 38) rfl (lk_iconst X dL_areObjects_37 (by decide) rfl) ?_
  refine lz_cons (k' := 39) rfl (lk_icmp_lt X dL_areObjects_38 (by decide) rfl) ?_
  refine lz_cons (k' := 40) rfl (lz_Ok_none _ _) ?_
  refine lz_cons (k' := 41) rfl (lz_Ok_none _ _) ?_
  refine lz_cons (k' := 42) rfl (lk_iload X dL_areObjects_41 rfl) ?_
  refine lz_cons (k' := 43) rfl (lz_Ok_none _ _) ?_
  refine lz_cons (k' := 44) rfl (lk_if_lt X dL_areObjects_43 (by decide) rfl) ?_
  refine lz_cons (k' := 45) rfl (lz_Ok_none _ _) ?_
  refine lz_cons (k' := 46) rfl (lz_Ok_none _ _) ?_
  refine lz_cons (k' := 47) rfl (lk_aload_n X dL_areObjects_46 rfl rfl) ?_
  refine lz_cons (k' := 48) rfl (lk_iload_n X dL_areObjects_47 rfl rfl) ?_
  refine lz_cons (k' := 49) rfl (lk_callv X kc_98 (mm_X11_goingOf Wd.1) (by decide) dL_areObjects_48 rfl) ?_
  refine lz_cons (k' := 50) rfl (lz_Ok_none _ _) ?_
  refine lz_cons (k' := 51) rfl (lz_Ok_none _ _) ?_
  refine lz_cons (k' := 52) rfl (lk_iconst X dL_areObjects_51 (by decide) rfl) ?_
  refine lz_cons (k' := 53) rfl (lk_icmp_ge X dL_areObjects_52 (by decide) rfl) ?_
  refine lz_cons (k' := 54) rfl (lz_Ok_none _ _) ?_
  refine lz_cons (k' := 55) rfl (lz_Ok_none _ _) ?_
  refine lz_cons (k' := 56) rfl (lk_iload_n X dL_areObjects_55 rfl rfl) ?_
  refine lz_cons (k' := 57) rfl (lk_iconst X dL_areObjects_56 (by decide) rfl) ?_
  refine lz_cons (k' := 58) rfl (lk_icmp_ne X dL_areObjects_57 (by decide) rfl) ?_
  refine lz_cons (k' := 59) rfl (lz_Ok_none _ _) ?_
  refine lz_cons (k' := 60) rfl (lz_Ok_none _ _) ?_
  refine lz_cons (k' := 61) rfl (lk_aload_n X dL_areObjects_60 rfl rfl) ?_
  refine lz_cons (k' := 62) rfl (lk_iload X dL_areObjects_61 rfl) ?_
  refine lz_cons (k' := 63) rfl (lz_Ok_none _ _) ?_
  refine lz_cons (k' := 64) rfl (lk_callv X kc_83 (mm_X11_kindOf Wd.1) (by decide) dL_areObjects_63 rfl) ?_
  refine lz_cons (k' := 65) rfl (lz_Ok_none _ _) ?_
  refine lz_cons (k' := 66) rfl (lz_Ok_none _ _) ?_
  refine lz_cons (k' := 67) rfl (lk_if_eq X dL_areObjects_66 (by decide) rfl) ?_
  refine lz_cons (k' := 68) rfl (lz_Ok_none _ _) ?_
  refine lz_cons (k' := 69) rfl (lz_Ok_none _ _) ?_
  refine lz_cons (k' := 70) rfl (lk_iload_n X dL_areObjects_69 rfl rfl) ?_
  refine lz_cons (k' := 71) rfl (lk_iconst X dL_areObjects_70 (by decide) rfl) ?_
  refine lz_cons (k' := 72) rfl (lk_icmp_ne X dL_areObjects_71 (by decide) rfl) ?_
  refine lz_cons (k' := 73) rfl (lz_Ok_none _ _) ?_
  refine lz_cons (k' := 74) rfl (lz_Ok_none _ _) ?_
  refine lz_cons (k' := 75) rfl (lk_aload_n X dL_areObjects_74 rfl rfl) ?_
  refine lz_cons (k' := 76) rfl (lk_iload X dL_areObjects_75 rfl) ?_
  refine lz_cons (k' := 77) rfl (lz_Ok_none _ _) ?_
  refine lz_cons (k' := 78) rfl (lk_callv X kc_83 (mm_X11_kindOf Wd.1) (by decide) dL_areObjects_77 rfl) ?_
  refine lz_cons (k' := 79) rfl (lz_Ok_none _ _) ?_
  refine lz_cons (k' := 80) rfl (lz_Ok_none _ _) ?_
  refine lz_cons (k' := 81) rfl (lk_iconst X dL_areObjects_80 (by decide) rfl) ?_
  refine lz_cons (k' := 82) rfl (lk_icmp_eq X dL_areObjects_81 (by decide) rfl) ?_
  refine lz_cons (k' := 83) rfl (lz_Ok_none _ _) ?_
  refine lz_cons (k' := 84) rfl (lz_Ok_none _ _) ?_
  refine lz_cons (k' := 85) rfl (lk_aload_n X dL_areObjects_84 rfl rfl) ?_
  refine lz_cons (k' := 86) rfl (lk_iload X dL_areObjects_85 rfl) ?_
  refine lz_cons (k' := 87) rfl (lz_Ok_none _ _) ?_
  refine lz_cons (k' := 88) rfl (lk_callv X kc_83 (mm_X11_kindOf Wd.1) (by decide) dL_areObjects_87 rfl) ?_
  refine lz_cons (k' := 89) rfl (lz_Ok_none _ _) ?_
  refine lz_cons (k' := 90) rfl (lz_Ok_none _ _) ?_
  refine lz_cons (k' := 91) rfl (lk_iconst X dL_areObjects_90 (by decide) rfl) ?_
  refine lz_cons (k' := 92) rfl (lk_icmp_ne X dL_areObjects_91 (by decide) rfl) ?_
  refine lz_cons (k' := 93) rfl (lz_Ok_none _ _) ?_
  refine lz_cons (k' := 94) rfl (lz_Ok_none _ _) ?_
  refine lz_cons (k' := 95) rfl (lk_iconst X dL_areObjects_94 (by decide) rfl) ?_
  refine lz_cons (k' := 96) rfl (lk_goto X dL_areObjects_95 (by decide)) ?_
  refine lz_cons (k' := 97) rfl (lz_Ok_none _ _) ?_
  refine lz_cons (k' := 98) rfl (lz_Ok_none _ _) ?_
  refine lz_cons (k' := 99) rfl (lk_iconst X dL_areObjects_98 (by decide) rfl) ?_
  refine lz_cons (k' := 100) rfl (lk_istore_n X dL_areObjects_99 rfl (by decide) rfl) ?_
  refine lz_cons (k' := 101) rfl (lk_iconst X dL_areObjects_100 (by decide) rfl) ?_
  refine lz_cons (k' := 102) rfl (lk_istore X dL_areObjects_101 (by decide) rfl) ?_
  refine lz_cons (k' := 103) rfl (lz_Ok_none _ _) ?_
  refine lz_cons (k' := 104) rfl (lk_iload X dL_areObjects_103 rfl) ?_
  refine lz_cons (k' := 105) rfl (lz_Ok_none _ _) ?_
  refine lz_cons (k' := 106) rfl (lk_bipush X dL_areObjects_105 (by decide) rfl) ?_
  refine lz_cons (k' := 107) rfl (lz_Ok_none _ _) ?_
  refine lz_cons (k' := 108) rfl (lk_icmp_ge X dL_areObjects_107 (by decide) rfl) ?_
  refine lz_cons (k' := 109) rfl (lz_Ok_none _ _) ?_
  refine lz_cons (k' := 110) rfl (lz_Ok_none _ _) ?_
  refine lz_cons (k' := 111) rfl (lk_iload_n X dL_areObjects_110 rfl rfl) ?_
  refine lz_cons (k' := 112) rfl (lk_if_eq X dL_areObjects_111 (by decide) rfl) ?_
  refine lz_cons (k' := 113) rfl (lz_Ok_none _ _) ?_
  refine lz_cons (k' := 114) rfl (lz_Ok_none _ _) ?_
  refine lz_cons (k' := 115) rfl (lk_iload_n X dL_areObjects_114 rfl rfl) ?_
  refine lz_cons (k' := 116) rfl (lk_if_ne X dL_areObjects_115 (by decide) rfl) ?_
  refine lz_cons (k' := 117) rfl (lz_Ok_none _ _) ?_
  refine lz_cons (k' := 118) rfl (lz_Ok_none _ _) ?_
  refine lz_cons (k' := 119) rfl (lk_iload X dL_areObjects_118 rfl) ?_
  refine lz_cons (k' := 120) rfl (lz_Ok_none _ _) ?_
  refine lz_cons (k' := 121) rfl (lk_bipush X dL_areObjects_120 (by decide) rfl) ?_
  refine lz_cons (k' := 122) rfl (lz_Ok_none _ _) ?_
  refine lz_cons (k' := 123) rfl (lk_icmp_lt X dL_areObjects_122 (by decide) rfl) ?_
  refine lz_cons (k' := 124) rfl (lz_Ok_none _ _) ?_
  refine lz_cons (k' := 125) rfl (lz_Ok_none _ _) ?_
  refine lz_cons (k' := 126) rfl (lk_iload_n X dL_areObjects_125 rfl rfl) ?_
  refine lz_cons (k' := 127) rfl (lk_iconst X dL_areObjects_126 (by decide) rfl) ?_
  refine lz_cons (k' := 128) rfl (lk_icmp_ne X dL_areObjects_127 (by decide) rfl) ?_
  refine lz_cons (k' := 129) rfl (lz_Ok_none _ _) ?_
  refine lz_cons (k' := 130) rfl (lz_Ok_none _ _) ?_
  refine lz_cons (k' := 131) rfl (lk_iload X dL_areObjects_130 rfl) ?_
  refine lz_cons (k' := 132) rfl (lz_Ok_none _ _) ?_
  refine lz_cons (k' := 133) rfl (lk_iconst X dL_areObjects_132 (by decide) rfl) ?_
  refine lz_cons (k' := 134) rfl (lk_icmp_lt X dL_areObjects_133 (by decide) rfl) ?_
  refine lz_cons (k' := 135) rfl (lz_Ok_none _ _) ?_
  refine lz_cons (k' := 136) rfl (lz_Ok_none _ _) ?_
  refine lz_cons (k' := 137) rfl (lk_iload_n X dL_areObjects_136 rfl rfl) ?_
  refine lz_cons (k' := 138) rfl (lk_iconst X dL_areObjects_137 (by decide) rfl) ?_
  refine lz_cons (k' := 139) rfl (lk_icmp_ne X dL_areObjects_138 (by decide) rfl) ?_
  refine lz_cons (k' := 140) rfl (lz_Ok_none _ _) ?_
  refine lz_cons (k' := 141) rfl (lz_Ok_none _ _) ?_
  refine lz_cons (k' := 142) rfl (lk_iload X dL_areObjects_141 rfl) ?_
  refine lz_cons (k' := 143) rfl (lz_Ok_none _ _) ?_
  refine lz_cons (k' := 144) rfl (lk_iconst X dL_areObjects_143 (by decide) rfl) ?_
  refine lz_cons (k' := 145) rfl (lk_icmp_eq X dL_areObjects_144 (by decide) rfl) ?_
  refine lz_cons (k' := 146) rfl (lz_Ok_none _ _) ?_
  refine lz_cons (k' := 147) rfl (lz_Ok_none _ _) ?_
  refine lz_cons (k' := 148) rfl (lk_iload_n X dL_areObjects_147 rfl rfl) ?_
  refine lz_cons (k' := 149) rfl (lk_iconst X dL_areObjects_148 (by decide) rfl) ?_
  refine lz_cons (k' := 150) rfl (lk_icmp_ne X dL_areObjects_149 (by decide) rfl) ?_
  refine lz_cons (k' := 151) rfl (lz_Ok_none _ _) ?_
  refine lz_cons (k' := 152) rfl (lz_Ok_none _ _) ?_
  refine lz_cons (k' := 153) rfl (lk_iload X dL_areObjects_152 rfl) ?_
  refine lz_cons (k' := 154) rfl (lz_Ok_none _ _) ?_
  refine lz_cons (k' := 155) rfl (lk_iconst X dL_areObjects_154 (by decide) rfl) ?_
  refine lz_cons (k' := 156) rfl (lk_icmp_lt X dL_areObjects_155 (by decide) rfl) ?_
  refine lz_cons (k' := 157) rfl (lz_Ok_none _ _) ?_
  refine lz_cons (k' := 158) rfl (lz_Ok_none _ _) ?_
  refine lz_cons (k' := 159) rfl (lk_iload X dL_areObjects_158 rfl) ?_
  refine lz_cons (k' := 160) rfl (lz_Ok_none _ _) ?_
  refine lz_cons (k' := 161) rfl (lk_bipush X dL_areObjects_160 (by decide) rfl) ?_
  refine lz_cons (k' := 162) rfl (lz_Ok_none _ _) ?_
  refine lz_cons (k' := 163) rfl (lk_icmp_eq X dL_areObjects_162 (by decide) rfl) ?_
  refine lz_cons (k' := 164) rfl (lz_Ok_none _ _) ?_
  refine lz_cons (k' := 165) rfl (lz_Ok_none _ _) ?_
  refine lz_cons (k' := 166) rfl (lk_iload_n X dL_areObjects_165 rfl rfl) ?_
  refine lz_cons (k' := 167) rfl (lk_iconst X dL_areObjects_166 (by decide) rfl) ?_
  refine lz_cons (k' := 168) rfl (lk_icmp_ne X dL_areObjects_167 (by decide) rfl) ?_
  refine lz_cons (k' := 169) rfl (lz_Ok_none _ _) ?_
  refine lz_cons (k' := 170) rfl (lz_Ok_none _ _) ?_
  refine lz_cons (k' := 171) rfl (lk_iload X dL_areObjects_170 rfl) ?_
  refine lz_cons (k' := 172) rfl (lz_Ok_none _ _) ?_
  refine lz_cons (k' := 173) rfl (lk_bipush X dL_areObjects_172 (by decide) rfl) ?_
  refine lz_cons (k' := 174) rfl (lz_Ok_none _ _) ?_
  refine lz_cons (k' := 175) rfl (lk_icmp_le X dL_areObjects_174 (by decide) rfl) ?_
  refine lz_cons (k' := 176) rfl (lz_Ok_none _ _) ?_
  refine lz_cons (k' := 177) rfl (lz_Ok_none _ _) ?_
  refine lz_cons (k' := 178) rfl (lk_iload X dL_areObjects_177 rfl) ?_
  refine lz_cons (k' := 179) rfl (lz_Ok_none _ _) ?_
  refine lz_cons (k' := 180) rfl (lk_bipush X dL_areObjects_179 (by decide) rfl) ?_
  refine lz_cons (k' := 181) rfl (lz_Ok_none _ _) ?_
  refine lz_cons (k' := 182) rfl (lk_icmp_lt X dL_areObjects_181 (by decide) rfl) ?_
  refine lz_cons (k' := 183) rfl (lz_Ok_none _ _) ?_
  refine lz_cons (k' := 184) rfl (lz_Ok_none _ _) ?_
  refine lz_cons (k' := 185) rfl (lk_iload_n X dL_areObjects_184 rfl rfl) ?_
  refine lz_cons (k' := 186) rfl (lk_iconst X dL_areObjects_185 (by decide) rfl) ?_
  refine lz_cons (k' := 187) rfl (lk_icmp_ne X dL_areObjects_186 (by decide) rfl) ?_
  refine lz_cons (k' := 188) rfl (lz_Ok_none _ _) ?_
  refine lz_cons (k' := 189) rfl (lz_Ok_none _ _) ?_
  refine lz_cons (k' := 190) rfl (lk_iload X dL_areObjects_189 rfl) ?_
  refine lz_cons (k' := 191) rfl (lz_Ok_none _ _) ?_
  refine lz_cons (k' := 192) rfl (lk_iconst X dL_areObjects_191 (by decide) rfl) ?_
  refine lz_cons (k' := 193) rfl (lk_icmp_ne X dL_areObjects_192 (by decide) rfl) ?_
  refine lz_cons (k' := 194) rfl (lz_Ok_none _ _) ?_
  refine lz_cons (k' := 195) rfl (lz_Ok_none _ _) ?_
  refine lz_cons (k' := 196) rfl (lk_iconst X dL_areObjects_195 (by decide) rfl) ?_
  refine lz_cons (k' := 197) rfl (lk_goto X dL_areObjects_196 (by decide)) ?_
  refine lz_cons (k' := 198) rfl (lz_Ok_none _ _) ?_
  refine lz_cons (k' := 199) rfl (lz_Ok_none _ _) ?_
  refine lz_cons (k' := 200) rfl (lk_iconst X dL_areObjects_199 (by decide) rfl) ?_
  refine lz_cons (k' := 201) rfl (lk_istore X dL_areObjects_200 (by decide) rfl) ?_
  refine lz_cons (k' := 202) rfl (lz_Ok_none _ _) ?_
  refine lz_cons (k' := 203) rfl (lk_aload_n X dL_areObjects_202 rfl rfl) ?_
  refine lz_cons (k' := 204) rfl (lk_iconst X dL_areObjects_203 (by decide) rfl) ?_
  refine lz_cons (k' := 205) rfl (lk_iload_n X dL_areObjects_204 rfl rfl) ?_
  refine lz_cons (k' := 206) rfl (lk_iload X dL_areObjects_205 rfl) ?_
  refine lz_cons (k' := 207) rfl (lz_Ok_none _ _) ?_
  refine lz_cons (k' := 208) rfl (lk_iconst X dL_areObjects_207 (by decide) rfl) ?_
  refine lz_cons (k' := 209) rfl (lk_calls X kl_141 (mm_L_of Wd) (by decide) dL_areObjects_208 rfl) ?_
  refine lz_cons (k' := 210) rfl (lz_Ok_none _ _) ?_
  refine lz_cons (k' := 211) rfl (lz_Ok_none _ _) ?_
  refine lz_cons (k' := 212) rfl (lk_istore X dL_areObjects_211 (by decide) rfl) ?_
  refine lz_cons (k' := 213) rfl (lz_Ok_none _ _) ?_
  refine lz_cons (k' := 214) rfl (lk_iload X dL_areObjects_213 rfl) ?_
  refine lz_cons (k' := 215) rfl (lz_Ok_none _ _) ?_
  refine lz_cons (k' := 216) rfl (lk_bipush X dL_areObjects_215 (by decide) rfl) ?_
  refine lz_cons (k' := 217) rfl (lz_Ok_none _ _) ?_
  refine lz_cons (k' := 218) rfl (lk_icmp_ne X dL_areObjects_217 (by decide) rfl) ?_
  refine lz_cons (k' := 219) rfl (lz_Ok_none _ _) ?_
  refine lz_cons (k' := 220) rfl (lz_Ok_none _ _) ?_
  refine lz_cons (k' := 221) rfl (lk_bipush X dL_areObjects_220 (by decide) rfl) ?_
  refine lz_cons (k' := 222) rfl (lz_Ok_none _ _) ?_
  refine lz_cons (k' := 223) rfl (lk_goto X dL_areObjects_222 (by decide)) ?_
  refine lz_cons (k' := 224) rfl (lz_Ok_none _ _) ?_
  refine lz_cons (k' := 225) rfl (lz_Ok_none _ _) ?_
  refine lz_cons (k' := 226) rfl (lk_iload X dL_areObjects_225 rfl) ?_
  refine lz_cons (k' := 227) rfl (lz_Ok_none _ _) ?_
  refine lz_cons (k' := 228) rfl (lk_iconst X dL_areObjects_227 (by decide) rfl) ?_
  refine lz_cons (k' := 229) rfl (lk_icmp_eq X dL_areObjects_228 (by decide) rfl) ?_
  refine lz_cons (k' := 230) rfl (lz_Ok_none _ _) ?_
  refine lz_cons (k' := 231) rfl (lz_Ok_none _ _) ?_
  refine lz_cons (k' := 232) rfl (lk_iload X dL_areObjects_231 rfl) ?_
  refine lz_cons (k' := 233) rfl (lz_Ok_none _ _) ?_
  refine lz_cons (k' := 234) rfl (lk_bipush X dL_areObjects_233 (by decide) rfl) ?_
  refine lz_cons (k' := 235) rfl (lz_Ok_none _ _) ?_
  refine lz_cons (k' := 236) rfl (lk_icmp_ne X dL_areObjects_235 (by decide) rfl) ?_
  refine lz_cons (k' := 237) rfl (lz_Ok_none _ _) ?_
  refine lz_cons (k' := 238) rfl (lz_Ok_none _ _) ?_
  refine lz_cons (k' := 239) rfl (lk_bipush X dL_areObjects_238 (by decide) rfl) ?_
  refine lz_cons (k' := 240) rfl (lz_Ok_none _ _) ?_
  refine lz_cons (k' := 241) rfl (lk_goto X dL_areObjects_240 (by decide)) ?_
  refine lz_cons (k' := 242) rfl (lz_Ok_none _ _) ?_
  refine lz_cons (k' := 243) rfl (lz_Ok_none _ _) ?_
  refine lz_cons (k' := 244) rfl (lk_iload X dL_areObjects_243 rfl) ?_
  refine lz_cons (k' := 245) rfl (lz_Ok_none _ _) ?_
  refine lz_cons (k' := 246) rfl (lk_iconst X dL_areObjects_245 (by decide) rfl) ?_
  refine lz_cons (k' := 247) rfl (lk_icmp_eq X dL_areObjects_246 (by decide) rfl) ?_
  refine lz_cons (k' := 248) rfl (lz_Ok_none _ _) ?_
  refine lz_cons (k' := 249) rfl (lz_Ok_none _ _) ?_
  refine lz_cons (k' := 250) rfl (lk_iload X dL_areObjects_249 rfl) ?_
  refine lz_cons (k' := 251) rfl (lz_Ok_none _ _) ?_
  refine lz_cons (k' := 252) rfl (lk_bipush X dL_areObjects_251 (by decide) rfl) ?_
  refine lz_cons (k' := 253) rfl (lz_Ok_none _ _) ?_
  refine lz_cons (k' := 254) rfl (lk_icmp_ne X dL_areObjects_253 (by decide) rfl) ?_
  refine lz_cons (k' := 255) rfl (lz_Ok_none _ _) ?_
  refine lz_cons (k' := 256) rfl (lz_Ok_none _ _) ?_
  refine lz_cons (k' := 257) rfl (lk_iconst X dL_areObjects_256 (by decide) rfl) ?_
  refine lz_cons (k' := 258) rfl (lk_goto X dL_areObjects_257 (by decide)) ?_
  refine lz_cons (k' := 259) rfl (lz_Ok_none _ _) ?_
  refine lz_cons (k' := 260) rfl (lz_Ok_none _ _) ?_
  refine lz_cons (k' := 261) rfl (lk_iload X dL_areObjects_260 rfl) ?_
  refine lz_cons (k' := 262) rfl (lz_Ok_none _ _) ?_
  refine lz_cons (k' := 263) rfl (lk_if_eq X dL_areObjects_262 (by decide) rfl) ?_
  refine lz_cons (k' := 264) rfl (lz_Ok_none _ _) ?_
  refine lz_cons (k' := 265) rfl (lz_Ok_none _ _) ?_
  refine lz_cons (k' := 266) rfl (lk_iload X dL_areObjects_265 rfl) ?_
  refine lz_cons (k' := 267) rfl (lz_Ok_none _ _) ?_
  refine lz_cons (k' := 268) rfl (lk_iconst X dL_areObjects_267 (by decide) rfl) ?_
  refine lz_cons (k' := 269) rfl (lk_icmp_eq X dL_areObjects_268 (by decide) rfl) ?_
  refine lz_cons (k' := 270) rfl (lz_Ok_none _ _) ?_
  refine lz_cons (k' := 271) rfl (lz_Ok_none _ _) ?_
  refine lz_cons (k' := 272) rfl (lk_iload X dL_areObjects_271 rfl) ?_
  refine lz_cons (k' := 273) rfl (lz_Ok_none _ _) ?_
  refine lz_cons (k' := 274) rfl (lk_bipush X dL_areObjects_273 (by decide) rfl) ?_
  refine lz_cons (k' := 275) rfl (lz_Ok_none _ _) ?_
  refine lz_cons (k' := 276) rfl (lk_icmp_ne X dL_areObjects_275 (by decide) rfl) ?_
  refine lz_cons (k' := 277) rfl (lz_Ok_none _ _) ?_
  refine lz_cons (k' := 278) rfl (lz_Ok_none _ _) ?_
  refine lz_cons (k' := 279) rfl (lk_iconst X dL_areObjects_278 (by decide) rfl) ?_
  refine lz_cons (k' := 280) rfl (lk_goto X dL_areObjects_279 (by decide)) ?_
  refine lz_cons (k' := 281) rfl (lz_Ok_none _ _) ?_
  refine lz_cons (k' := 282) rfl (lz_Ok_none _ _) ?_
  refine lz_cons (k' := 283) rfl (lk_iconst X dL_areObjects_282 (by decide) rfl) ?_
  refine lz_cons (k' := 284) rfl (lk_istore X dL_areObjects_283 (by decide) rfl) ?_
  refine lz_cons (k' := 285) rfl (lz_Ok_none _ _) ?_
  refine lz_cons (k' := 286) rfl (lk_iload X dL_areObjects_285 rfl) ?_
  refine lz_cons (k' := 287) rfl (lz_Ok_none _ _) ?_
  refine lz_cons (k' := 288) rfl (lk_if_eq X dL_areObjects_287 (by decide) rfl) ?_
  refine lz_cons (k' := 289) rfl (lz_Ok_none _ _) ?_
  refine lz_cons (k' := 290) rfl (lz_Ok_none _ _) ?_
  refine lz_cons (k' := 291) rfl (lk_iload X dL_areObjects_290 rfl) ?_
  refine lz_cons (k' := 292) rfl (lz_Ok_none _ _) ?_
  refine lz_cons (k' := 293) rfl (lk_iload X dL_areObjects_292 rfl) ?_
  refine lz_cons (k' := 294) rfl (lz_Ok_none _ _) ?_
  refine lz_cons (k' := 295) rfl (lk_bipush X dL_areObjects_294 (by decide) rfl) ?_
  refine lz_cons (k' := 296) rfl (lz_Ok_none _ _) ?_
  refine lz_cons (k' := 297) rfl (lk_icmp_ne X dL_areObjects_296 (by decide) rfl) ?_
  refine lz_cons (k' := 298) rfl (lz_Ok_none _ _) ?_
  refine lz_cons (k' := 299) rfl (lz_Ok_none _ _) ?_
  refine lz_cons (k' := 300) rfl (lk_iconst X dL_areObjects_299 (by decide) rfl) ?_
  refine lz_cons (k' := 301) rfl (lk_goto X dL_areObjects_300 (by decide)) ?_
  refine lz_cons (k' := 302) rfl (lz_Ok_none _ _) ?_
  refine lz_cons (k' := 303) rfl (lz_Ok_none _ _) ?_
  refine lz_cons (k' := 304) rfl (lk_iconst X dL_areObjects_303 (by decide) rfl) ?_
  refine lz_cons (k' := 305) rfl (lk_icmp_lt X dL_areObjects_304 (by decide) rfl) ?_
  refine lz_cons (k' := 306) rfl (lz_Ok_none _ _) ?_
  refine lz_cons (k' := 307) rfl (lz_Ok_none _ _) ?_
  refine lz_cons (k' := 308) rfl (lk_iload X dL_areObjects_307 rfl) ?_
  refine lz_cons (k' := 309) rfl (lz_Ok_none _ _) ?_
  refine lz_cons (k' := 310) rfl (lk_iload X dL_areObjects_309 rfl) ?_
  refine lz_cons (k' := 311) rfl (lz_Ok_none _ _) ?_
  refine lz_cons (k' := 312) rfl (lk_icmp_gt X dL_areObjects_311 (by decide) rfl) ?_
  refine lz_cons (k' := 313) rfl (lz_Ok_none _ _) ?_
  refine lz_cons (k' := 314) rfl (lz_Ok_none _ _) ?_
  refine lz_cons (k' := 315) rfl (lk_aload_n X dL_areObjects_314 rfl rfl) ?_
  refine lz_cons (k' := 316) rfl (lk_iload_n X dL_areObjects_315 rfl rfl) ?_
  refine lz_cons (k' := 317) rfl (lk_iload X dL_areObjects_316 rfl) ?_
  refine lz_cons (k' := 318) rfl (lz_Ok_none _ _) ?_
  refine lz_cons (k' := 319) rfl (lk_callv X kc_89 (mm_X11_managerOf Wd.1) (by decide) dL_areObjects_318 rfl) ?_
  refine lz_cons (k' := 320) rfl (lz_Ok_none _ _) ?_
  refine lz_cons (k' := 321) rfl (lz_Ok_none _ _) ?_
  refine lz_cons (k' := 322) rfl (lk_if_lt X dL_areObjects_321 (by decide) rfl) ?_
  refine lz_cons (k' := 323) rfl (lz_Ok_none _ _) ?_
  refine lz_cons (k' := 324) rfl (lz_Ok_none _ _) ?_
  refine lz_cons (k' := 325) rfl (lk_aload_n X dL_areObjects_324 rfl rfl) ?_
  refine lz_cons (k' := 326) rfl (lk_iload_n X dL_areObjects_325 rfl rfl) ?_
  refine lz_cons (k' := 327) rfl (lk_iload X dL_areObjects_326 rfl) ?_
  refine lz_cons (k' := 328) rfl (lz_Ok_none _ _) ?_
  refine lz_cons (k' := 329) rfl (lk_callv X kc_89 (mm_X11_managerOf Wd.1) (by decide) dL_areObjects_328 rfl) ?_
  refine lz_cons (k' := 330) rfl (lz_Ok_none _ _) ?_
  refine lz_cons (k' := 331) rfl (lz_Ok_none _ _) ?_
  refine lz_cons (k' := 332) rfl (lk_iconst X dL_areObjects_331 (by decide) rfl) ?_
  refine lz_cons (k' := 333) rfl (lk_icmp_gt X dL_areObjects_332 (by decide) rfl) ?_
  refine lz_cons (k' := 334) rfl (lz_Ok_none _ _) ?_
  refine lz_cons (k' := 335) rfl (lz_Ok_none _ _) ?_
  refine lz_cons (k' := 336) rfl (lk_iconst X dL_areObjects_335 (by decide) rfl) ?_
  refine lz_cons (k' := 337) rfl (lk_goto X dL_areObjects_336 (by decide)) ?_
  refine lz_cons (k' := 338) rfl (lz_Ok_none _ _) ?_
  refine lz_cons (k' := 339) rfl (lz_Ok_none _ _) ?_
  refine lz_cons (k' := 340) rfl (lk_iconst X dL_areObjects_339 (by decide) rfl) ?_
  refine lz_cons (k' := 341) rfl (lk_goto X dL_areObjects_340 (by decide)) ?_
  refine lz_cons (k' := 342) rfl (lz_Ok_none _ _) ?_
  refine lz_cons (k' := 343) rfl (lz_Ok_none _ _) ?_
  refine lz_cons (k' := 344) rfl (lk_iload X dL_areObjects_343 rfl) ?_
  refine lz_cons (k' := 345) rfl (lz_Ok_none _ _) ?_
  refine lz_cons (k' := 346) rfl (lk_sipush X dL_areObjects_345 (by decide) rfl) ?_
  refine lz_cons (k' := 347) rfl (lz_Ok_none _ _) ?_
  refine lz_cons (k' := 348) rfl (lz_Ok_none _ _) ?_
  refine lz_cons (k' := 349) rfl (lk_icmp_ne X dL_areObjects_348 (by decide) rfl) ?_
  refine lz_cons (k' := 350) rfl (lz_Ok_none _ _) ?_
  refine lz_cons (k' := 351) rfl (lz_Ok_none _ _) ?_
  refine lz_cons (k' := 352) rfl (lk_aload_n X dL_areObjects_351 rfl rfl) ?_
  refine lz_cons (k' := 353) rfl (lk_iconst X dL_areObjects_352 (by decide) rfl) ?_
  refine lz_cons (k' := 354) rfl (lk_iload_n X dL_areObjects_353 rfl rfl) ?_
  refine lz_cons (k' := 355) rfl (lk_iload X dL_areObjects_354 rfl) ?_
  refine lz_cons (k' := 356) rfl (lz_Ok_none _ _) ?_
  refine lz_cons (k' := 357) rfl (lk_iconst X dL_areObjects_356 (by decide) rfl) ?_
  refine lz_cons (k' := 358) rfl (lk_calls X kl_141 (mm_L_of Wd) (by decide) dL_areObjects_357 rfl) ?_
  refine lz_cons (k' := 359) rfl (lz_Ok_none _ _) ?_
  refine lz_cons (k' := 360) rfl (lz_Ok_none _ _) ?_
  refine lz_cons (k' := 361) rfl (lk_sipush X dL_areObjects_360 (by decide) rfl) ?_
  refine lz_cons (k' := 362) rfl (lz_Ok_none _ _) ?_
  refine lz_cons (k' := 363) rfl (lz_Ok_none _ _) ?_
  refine lz_cons (k' := 364) rfl (lk_icmp_ne X dL_areObjects_363 (by decide) rfl) ?_
  refine lz_cons (k' := 365) rfl (lz_Ok_none _ _) ?_
  refine lz_cons (k' := 366) rfl (lz_Ok_none _ _) ?_
  refine lz_cons (k' := 367) rfl (lk_iconst X dL_areObjects_366 (by decide) rfl) ?_
  refine lz_cons (k' := 368) rfl (lk_goto X dL_areObjects_367 (by decide)) ?_
  refine lz_cons (k' := 369) rfl (lz_Ok_none _ _) ?_
  refine lz_cons (k' := 370) rfl (lz_Ok_none _ _) ?_
  refine lz_cons (k' := 371) rfl (lk_iconst X dL_areObjects_370 (by decide) rfl) ?_
  refine lz_cons (k' := 372) rfl (lk_istore_n X dL_areObjects_371 rfl (by decide) rfl) ?_
  refine lz_cons (k' := 373) rfl (lk_iinc X dL_areObjects_372 (by decide) (by decide) rfl) ?_
  refine lz_cons (k' := 374) rfl (lz_Ok_none _ _) ?_
  refine lz_cons (k' := 375) rfl (lz_Ok_none _ _) ?_
  refine lz_cons (k' := 376) rfl (lk_goto X dL_areObjects_375 (by decide)) ?_
  refine lz_cons (k' := 377) rfl (lz_Ok_none _ _) ?_
  refine lz_cons (k' := 378) rfl (lz_Ok_none _ _) ?_
  refine lz_cons (k' := 379) rfl (lk_iload_n X dL_areObjects_378 rfl rfl) ?_
  refine lz_cons (k' := 380) rfl (lk_if_eq X dL_areObjects_379 (by decide) rfl) ?_
  refine lz_cons (k' := 381) rfl (lz_Ok_none _ _) ?_
  refine lz_cons (k' := 382) rfl (lz_Ok_none _ _) ?_
  refine lz_cons (k' := 383) rfl (lk_iload_n X dL_areObjects_382 rfl rfl) ?_
  refine lz_cons (k' := 384) rfl (lk_if_ne X dL_areObjects_383 (by decide) rfl) ?_
  refine lz_cons (k' := 385) rfl (lz_Ok_none _ _) ?_
  refine lz_cons (k' := 386) rfl (lz_Ok_none _ _) ?_
  refine lz_cons (k' := 387) rfl (lk_aload_n X dL_areObjects_386 rfl rfl) ?_
  refine lz_cons (k' := 388) rfl (lk_iload_n X dL_areObjects_387 rfl rfl) ?_
  refine lz_cons (k' := 389) rfl (lk_callv X kc_92 (mm_X11_budget Wd.1) (by decide) dL_areObjects_388 rfl) ?_
  refine lz_cons (k' := 390) rfl (lz_Ok_none _ _) ?_
  refine lz_cons (k' := 391) rfl (lz_Ok_none _ _) ?_
  refine lz_cons (k' := 392) rfl (lk_bipush X dL_areObjects_391 (by decide) rfl) ?_
  refine lz_cons (k' := 393) rfl (lz_Ok_none _ _) ?_
  refine lz_cons (k' := 394) rfl (lk_aload_n X dL_areObjects_393 rfl rfl) ?_
  refine lz_cons (k' := 395) rfl (lk_iload_n X dL_areObjects_394 rfl rfl) ?_
  refine lz_cons (k' := 396) rfl (lk_iconst X dL_areObjects_395 (by decide) rfl) ?_
  refine lz_cons (k' := 397) rfl (lk_callv X kc_86 (mm_X11_field Wd.1) (by decide) dL_areObjects_396 rfl) ?_
  refine lz_cons (k' := 398) rfl (lz_Ok_none _ _) ?_
  refine lz_cons (k' := 399) rfl (lz_Ok_none _ _) ?_
  refine lz_cons (k' := 400) rfl (lk_imul X dL_areObjects_399 rfl) ?_
  refine lz_cons (k' := 401) rfl (lk_aload_n X dL_areObjects_400 rfl rfl) ?_
  refine lz_cons (k' := 402) rfl (lk_iload_n X dL_areObjects_401 rfl rfl) ?_
  refine lz_cons (k' := 403) rfl (lk_iconst X dL_areObjects_402 (by decide) rfl) ?_
  refine lz_cons (k' := 404) rfl (lk_callv X kc_86 (mm_X11_field Wd.1) (by decide) dL_areObjects_403 rfl) ?_
  refine lz_cons (k' := 405) rfl (lz_Ok_none _ _) ?_
  refine lz_cons (k' := 406) rfl (lz_Ok_none _ _) ?_
  refine lz_cons (k' := 407) rfl (lk_iadd X dL_areObjects_406 rfl) ?_
  refine lz_cons (k' := 408) rfl (lk_icmp_ne X dL_areObjects_407 (by decide) rfl) ?_
  refine lz_cons (k' := 409) rfl (lz_Ok_none _ _) ?_
  refine lz_cons (k' := 410) rfl (lz_Ok_none _ _) ?_
  refine lz_cons (k' := 411) rfl (lk_aload_n X dL_areObjects_410 rfl rfl) ?_
  refine lz_cons (k' := 412) rfl (lk_iload_n X dL_areObjects_411 rfl rfl) ?_
  refine lz_cons (k' := 413) rfl (lk_callv X kc_92 (mm_X11_budget Wd.1) (by decide) dL_areObjects_412 rfl) ?_
  refine lz_cons (k' := 414) rfl (lz_Ok_none _ _) ?_
  refine lz_cons (k' := 415) rfl (lz_Ok_none _ _) ?_
  refine lz_cons (k' := 416) rfl (lk_if_le X dL_areObjects_415 (by decide) rfl) ?_
  refine lz_cons (k' := 417) rfl (lz_Ok_none _ _) ?_
  refine lz_cons (k' := 418) rfl (lz_Ok_none _ _) ?_
  refine lz_cons (k' := 419) rfl (lk_aload_n X dL_areObjects_418 rfl rfl) ?_
  refine lz_cons (k' := 420) rfl (lk_iload_n X dL_areObjects_419 rfl rfl) ?_
  refine lz_cons (k' := 421) rfl (lk_iconst X dL_areObjects_420 (by decide) rfl) ?_
  refine lz_cons (k' := 422) rfl (lk_callv X kc_117 (mm_X11_running Wd.1) (by decide) dL_areObjects_421 rfl) ?_
  refine lz_cons (k' := 423) rfl (lz_Ok_none _ _) ?_
  refine lz_cons (k' := 424) rfl (lz_Ok_none _ _) ?_
  refine lz_cons (k' := 425) rfl (lk_aload_n X dL_areObjects_424 rfl rfl) ?_
  refine lz_cons (k' := 426) rfl (lk_iload_n X dL_areObjects_425 rfl rfl) ?_
  refine lz_cons (k' := 427) rfl (lk_iconst X dL_areObjects_426 (by decide) rfl) ?_
  refine lz_cons (k' := 428) rfl (lk_callv X kc_117 (mm_X11_running Wd.1) (by decide) dL_areObjects_427 rfl) ?_
  refine lz_cons (k' := 429) rfl (lz_Ok_none _ _) ?_
  refine lz_cons (k' := 430) rfl (lz_Ok_none _ _) ?_
  refine lz_cons (k' := 431) rfl (lk_icmp_gt X dL_areObjects_430 (by decide) rfl) ?_
  refine lz_cons (k' := 432) rfl (lz_Ok_none _ _) ?_
  refine lz_cons (k' := 433) rfl (lz_Ok_none _ _) ?_
  refine lz_cons (k' := 434) rfl (lk_iconst X dL_areObjects_433 (by decide) rfl) ?_
  refine lz_cons (k' := 435) rfl (lk_goto X dL_areObjects_434 (by decide)) ?_
  refine lz_cons (k' := 436) rfl (lz_Ok_none _ _) ?_
  refine lz_cons (k' := 437) rfl (lz_Ok_none _ _) ?_
  refine lz_cons (k' := 438) rfl (lk_iconst X dL_areObjects_437 (by decide) rfl) ?_
  refine lz_cons (k' := 439) rfl (lk_istore_n X dL_areObjects_438 rfl (by decide) rfl) ?_
  refine lz_cons (k' := 440) rfl (lk_iload_n X dL_areObjects_439 rfl rfl) ?_
  refine lz_cons (k' := 441) rfl (lk_if_eq X dL_areObjects_440 (by decide) rfl) ?_
  refine lz_cons (k' := 442) rfl (lz_Ok_none _ _) ?_
  refine lz_cons (k' := 443) rfl (lz_Ok_none _ _) ?_
  refine lz_cons (k' := 444) rfl (lk_iload_n X dL_areObjects_443 rfl rfl) ?_
  refine lz_cons (k' := 445) rfl (lk_iconst X dL_areObjects_444 (by decide) rfl) ?_
  refine lz_cons (k' := 446) rfl (lk_icmp_ne X dL_areObjects_445 (by decide) rfl) ?_
  refine lz_cons (k' := 447) rfl (lz_Ok_none _ _) ?_
  refine lz_cons (k' := 448) rfl (lz_Ok_none _ _) ?_
  refine lz_cons (k' := 449) rfl (lk_aload_n X dL_areObjects_448 rfl rfl) ?_
  refine lz_cons (k' := 450) rfl (lk_iload_n X dL_areObjects_449 rfl rfl) ?_
  refine lz_cons (k' := 451) rfl (lk_callv X kc_107 (mm_X11_placeOf Wd.1) (by decide) dL_areObjects_450 rfl) ?_
  refine lz_cons (k' := 452) rfl (lz_Ok_none _ _) ?_
  refine lz_cons (k' := 453) rfl (lz_Ok_none _ _) ?_
  refine lz_cons (k' := 454) rfl (lk_istore X dL_areObjects_453 (by decide) rfl) ?_
  refine lz_cons (k' := 455) rfl (lz_Ok_none _ _) ?_
  refine lz_cons (k' := 456) rfl (lk_iload X dL_areObjects_455 rfl) ?_
  refine lz_cons (k' := 457) rfl (lz_Ok_none _ _) ?_
  refine lz_cons (k' := 458) rfl (lk_iconst X dL_areObjects_457 (by decide) rfl) ?_
  refine lz_cons (k' := 459) rfl (lk_icmp_lt X dL_areObjects_458 (by decide) rfl) ?_
  refine lz_cons (k' := 460) rfl (lz_Ok_none _ _) ?_
  refine lz_cons (k' := 461) rfl (lz_Ok_none _ _) ?_
  refine lz_cons (k' := 462) rfl (lk_iload X dL_areObjects_461 rfl) ?_
  refine lz_cons (k' := 463) rfl (lz_Ok_none _ _) ?_
  refine lz_cons (k' := 464) rfl (lk_if_lt X dL_areObjects_463 (by decide) rfl) ?_
  refine lz_cons (k' := 465) rfl (lz_Ok_none _ _) ?_
  refine lz_cons (k' := 466) rfl (lz_Ok_none _ _) ?_
  refine lz_cons (k' := 467) rfl (lk_aload_n X dL_areObjects_466 rfl rfl) ?_
  refine lz_cons (k' := 468) rfl (lk_iload X dL_areObjects_467 rfl) ?_
  refine lz_cons (k' := 469) rfl (lz_Ok_none _ _) ?_
  refine lz_cons (k' := 470) rfl (lk_callv X kc_83 (mm_X11_kindOf Wd.1) (by decide) dL_areObjects_469 rfl) ?_
  refine lz_cons (k' := 471) rfl (lz_Ok_none _ _) ?_
  refine lz_cons (k' := 472) rfl (lz_Ok_none _ _) ?_
  refine lz_cons (k' := 473) rfl (lk_iconst X dL_areObjects_472 (by decide) rfl) ?_
  refine lz_cons (k' := 474) rfl (lk_icmp_ne X dL_areObjects_473 (by decide) rfl) ?_
  refine lz_cons (k' := 475) rfl (lz_Ok_none _ _) ?_
  refine lz_cons (k' := 476) rfl (lz_Ok_none _ _) ?_
  refine lz_cons (k' := 477) rfl (lk_aload_n X dL_areObjects_476 rfl rfl) ?_
  refine lz_cons (k' := 478) rfl (lk_iload_n X dL_areObjects_477 rfl rfl) ?_
  refine lz_cons (k' := 479) rfl (lk_callv X kc_98 (mm_X11_goingOf Wd.1) (by decide) dL_areObjects_478 rfl) ?_
  refine lz_cons (k' := 480) rfl (lz_Ok_none _ _) ?_
  refine lz_cons (k' := 481) rfl (lz_Ok_none _ _) ?_
  refine lz_cons (k' := 482) rfl (lk_iconst X dL_areObjects_481 (by decide) rfl) ?_
  refine lz_cons (k' := 483) rfl (lk_icmp_ge X dL_areObjects_482 (by decide) rfl) ?_
  refine lz_cons (k' := 484) rfl (lz_Ok_none _ _) ?_
  refine lz_cons (k' := 485) rfl (lz_Ok_none _ _) ?_
  refine lz_cons (k' := 486) rfl (lk_aload_n X dL_areObjects_485 rfl rfl) ?_
  refine lz_cons (k' := 487) rfl (lk_iload_n X dL_areObjects_486 rfl rfl) ?_
  refine lz_cons (k' := 488) rfl (lk_callv X kc_104 (mm_X11_phaseOf Wd.1) (by decide) dL_areObjects_487 rfl) ?_
  refine lz_cons (k' := 489) rfl (lz_Ok_none _ _) ?_
  refine lz_cons (k' := 490) rfl (lz_Ok_none _ _) ?_
  refine lz_cons (k' := 491) rfl (lk_if_eq X dL_areObjects_490 (by decide) rfl) ?_
  refine lz_cons (k' := 492) rfl (lz_Ok_none _ _) ?_
  refine lz_cons (k' := 493) rfl (lz_Ok_none _ _) ?_
  refine lz_cons (k' := 494) rfl (lk_iload X dL_areObjects_493 rfl) ?_
  refine lz_cons (k' := 495) rfl (lz_Ok_none _ _) ?_
  refine lz_cons (k' := 496) rfl (lk_if_ge X dL_areObjects_495 (by decide) rfl) ?_
  refine lz_cons (k' := 497) rfl (lz_Ok_none _ _) ?_
  refine lz_cons (k' := 498) rfl (lz_Ok_none _ _) ?_
  refine lz_cons (k' := 499) rfl (lk_aload_n X dL_areObjects_498 rfl rfl) ?_
  refine lz_cons (k' := 500) rfl (lk_iload_n X dL_areObjects_499 rfl rfl) ?_
  refine lz_cons (k' := 501) rfl (lk_callv X kc_98 (mm_X11_goingOf Wd.1) (by decide) dL_areObjects_500 rfl) ?_
  refine lz_cons (k' := 502) rfl (lz_Ok_none _ _) ?_
  refine lz_cons (k' := 503) rfl (lz_Ok_none _ _) ?_
  refine lz_cons (k' := 504) rfl (lk_if_le X dL_areObjects_503 (by decide) rfl) ?_
  refine lz_cons (k' := 505) rfl (lz_Ok_none _ _) ?_
  refine lz_cons (k' := 506) rfl (lz_Ok_none _ _) ?_
  refine lz_cons (k' := 507) rfl (lk_iconst X dL_areObjects_506 (by decide) rfl) ?_
  refine lz_cons (k' := 508) rfl (lk_goto X dL_areObjects_507 (by decide)) ?_
  refine lz_cons (k' := 509) rfl (lz_Ok_none _ _) ?_
  refine lz_cons (k' := 510) rfl (lz_Ok_none _ _) ?_
  refine lz_cons (k' := 511) rfl (lk_iconst X dL_areObjects_510 (by decide) rfl) ?_
  refine lz_cons (k' := 512) rfl (lk_istore_n X dL_areObjects_511 rfl (by decide) rfl) ?_
  refine lz_cons (k' := 513) rfl (lk_iinc X dL_areObjects_512 (by decide) (by decide) rfl) ?_
  refine lz_cons (k' := 514) rfl (lz_Ok_none _ _) ?_
  refine lz_cons (k' := 515) rfl (lz_Ok_none _ _) ?_
  refine lz_cons (k' := 516) rfl (lk_goto X dL_areObjects_515 (by decide)) ?_
  refine lz_cons (k' := 517) rfl (lz_Ok_none _ _) ?_
  refine lz_cons (k' := 518) rfl (lz_Ok_none _ _) ?_
  refine lz_cons (k' := 519) rfl (lk_iload_n X dL_areObjects_518 rfl rfl) ?_
  refine lz_cons (k' := 520) rfl (lk_iret X rfl dL_areObjects_519) ?_
  exact trivial
end
