section
noncomputable def tL_isAtRest : List lzOp := [
  lo_pushI 1 1,
  lo_istore 1 2,
  lo_pushI 0 3,
  lo_istore 2 4,
  lo_iload 2 5,
  lo_aload 0 6,
  lo_callv fX11_objects 0 84 9,
  lo_none,
  lo_none,
  lo_icmp (fun x y => decide (y ≤ x)) 61 12,
  lo_none,
  lo_none,
  lo_iload 1 13,
  lo_if (fun x => decide (x = 0)) 61 16,
  lo_none,
  lo_none,
  lo_aload 0 17,
  lo_iload 2 18,
  lo_callv fX11_kindOf 1 84 21,
  lo_none,
  lo_none,
  lo_pushI 4 22,
  lo_icmp (fun x y => decide (¬ x = y)) 49 25,
  lo_none,
  lo_none,
  lo_aload 0 26,
  lo_iload 2 27,
  lo_callv fX11_goingOf 1 84 30,
  lo_none,
  lo_none,
  lo_pushI 4 31,
  lo_icmp (fun x y => decide (x = y)) 49 34,
  lo_none,
  lo_none,
  lo_aload 0 35,
  lo_pushI 16 37,
  lo_none,
  lo_iload 2 38,
  lo_pushI 0 39,
  lo_pushI 0 40,
  lo_pushI 0 41,
  lo_pushI 0 42,
  lo_pushI 0 43,
  lo_calls fL_act 8 1 84 46,
  lo_none,
  lo_none,
  lo_if (fun x => decide (x < 0)) 53 49,
  lo_none,
  lo_none,
  lo_pushI 1 50,
  lo_goto 54,
  lo_none,
  lo_none,
  lo_pushI 0 54,
  lo_istore 1 55,
  lo_iinc 2 1 58,
  lo_none,
  lo_none,
  lo_goto 4,
  lo_none,
  lo_none,
  lo_pushI (-1) 62,
  lo_istore 2 63,
  lo_pushI 0 64,
  lo_istore 3 65,
  lo_iload 3 66,
  lo_pushI 12 68,
  lo_none,
  lo_icmp (fun x y => decide (y ≤ x)) 146 71,
  lo_none,
  lo_none,
  lo_iload 1 72,
  lo_if (fun x => decide (x = 0)) 146 75,
  lo_none,
  lo_none,
  lo_iload 2 76,
  lo_aload 0 77,
  lo_callv fX11_version 0 84 80,
  lo_none,
  lo_none,
  lo_icmp (fun x y => decide (x = y)) 146 83,
  lo_none,
  lo_none,
  lo_aload 0 84,
  lo_callv fX11_version 0 84 87,
  lo_none,
  lo_none,
  lo_pushI 330 90,
  lo_none,
  lo_none,
  lo_icmp (fun x y => decide (y ≤ x)) 146 93,
  lo_none,
  lo_none,
  lo_aload 0 94,
  lo_callv fX11_version 0 84 97,
  lo_none,
  lo_none,
  lo_istore 2 98,
  lo_aload 0 99,
  lo_pushI 11 101,
  lo_none,
  lo_pushI 2 102,
  lo_pushI 0 103,
  lo_pushI 0 104,
  lo_pushI 0 105,
  lo_pushI 0 106,
  lo_pushI 0 107,
  lo_calls fL_act 8 1 84 110,
  lo_none,
  lo_none,
  lo_aload 0 111,
  lo_callv fX11_version 0 84 114,
  lo_none,
  lo_none,
  lo_iload 2 115,
  lo_ii (fun x y => x - y) 116,
  lo_icmp (fun x y => decide (¬ x = y)) 138 119,
  lo_none,
  lo_none,
  lo_aload 0 120,
  lo_pushI 15 122,
  lo_none,
  lo_pushI 1 123,
  lo_pushI 0 124,
  lo_pushI 0 125,
  lo_pushI 0 126,
  lo_pushI 0 127,
  lo_pushI 0 128,
  lo_calls fL_act 8 1 84 131,
  lo_none,
  lo_none,
  lo_if (fun x => decide (x ≤ 0)) 138 134,
  lo_none,
  lo_none,
  lo_pushI 1 135,
  lo_goto 139,
  lo_none,
  lo_none,
  lo_pushI 0 139,
  lo_istore 1 140,
  lo_iinc 3 1 143,
  lo_none,
  lo_none,
  lo_goto 65,
  lo_none,
  lo_none,
  lo_iload 1 147,
  lo_if (fun x => decide (x = 0)) 165 150,
  lo_none,
  lo_none,
  lo_iload 2 151,
  lo_aload 0 152,
  lo_callv fX11_version 0 84 155,
  lo_none,
  lo_none,
  lo_icmp (fun x y => decide (¬ x = y)) 165 158,
  lo_none,
  lo_none,
  lo_aload 0 159,
  lo_callv fX11_isSettled 0 84 162,
  lo_none,
  lo_none,
  lo_if (fun x => decide (¬ x = 0)) 167 165,
  lo_none,
  lo_none,
  lo_iload 1 166,
  lo_iret 84 true,
  lo_pushI 0 168,
  lo_istore 3 169,
  lo_iload 3 170,
  lo_aload 0 171,
  lo_callv fX11_objects 0 84 174,
  lo_none,
  lo_none,
  lo_icmp (fun x y => decide (y ≤ x)) 521 177,
  lo_none,
  lo_none,
  lo_iload 1 178,
  lo_if (fun x => decide (x = 0)) 521 181,
  lo_none,
  lo_none,
  lo_aload 0 182,
  lo_iload 3 183,
  lo_callv fX11_kindOf 1 84 186,
  lo_none,
  lo_none,
  lo_istore 4 188,
  lo_none,
  lo_pushI 0 189,
  lo_istore 5 191,
  lo_none,
  lo_pushI 0 192,
  lo_istore 6 194,
  lo_none,
  lo_pushI 0 195,
  lo_istore 7 197,
  lo_none,
  lo_iload 7 199,
  lo_none,
  lo_aload 0 200,
  lo_callv fX11_objects 0 84 203,
  lo_none,
  lo_none,
  lo_icmp (fun x y => decide (y ≤ x)) 368 206,
  lo_none,
  lo_none,
  lo_aload 0 207,
  lo_iload 7 209,
  lo_none,
  lo_callv fX11_kindOf 1 84 212,
  lo_none,
  lo_none,
  lo_pushI 2 213,
  lo_icmp (fun x y => decide (¬ x = y)) 229 216,
  lo_none,
  lo_none,
  lo_aload 0 217,
  lo_iload 7 219,
  lo_none,
  lo_callv fX11_goingOf 1 84 222,
  lo_none,
  lo_none,
  lo_if (fun x => decide (¬ x = 0)) 229 225,
  lo_none,
  lo_none,
  lo_pushI 1 226,
  lo_goto 230,
  lo_none,
  lo_none,
  lo_pushI 0 230,
  lo_istore 8 232,
  lo_none,
  lo_iload 5 234,
  lo_none,
  lo_iload 8 236,
  lo_none,
  lo_if (fun x => decide (x = 0)) 253 239,
  lo_none,
  lo_none,
  lo_aload 0 240,
  lo_iload 7 242,
  lo_none,
  lo_callv fX11_ownerOf 1 84 245,
  lo_none,
  lo_none,
  lo_iload 3 246,
  lo_icmp (fun x y => decide (¬ x = y)) 253 249,
  lo_none,
  lo_none,
  lo_pushI 1 250,
  lo_goto 254,
  lo_none,
  lo_none,
  lo_pushI 0 254,
  lo_ii (fun x y => x + y) 255,
  lo_istore 5 257,
  lo_none,
  lo_iload 6 259,
  lo_none,
  lo_iload 8 261,
  lo_none,
  lo_if (fun x => decide (x = 0)) 288 264,
  lo_none,
  lo_none,
  lo_aload 0 265,
  lo_iload 7 267,
  lo_none,
  lo_callv fX11_ownerOf 1 84 270,
  lo_none,
  lo_none,
  lo_iload 3 271,
  lo_icmp (fun x y => decide (¬ x = y)) 288 274,
  lo_none,
  lo_none,
  lo_aload 0 275,
  lo_iload 7 277,
  lo_none,
  lo_callv fX11_phaseOf 1 84 280,
  lo_none,
  lo_none,
  lo_pushI 2 281,
  lo_icmp (fun x y => decide (y ≤ x)) 288 284,
  lo_none,
  lo_none,
  lo_pushI 1 285,
  lo_goto 289,
  lo_none,
  lo_none,
  lo_pushI 0 289,
  lo_ii (fun x y => x + y) 290,
  lo_istore 6 292,
  lo_none,
  lo_iload 1 293,
  lo_if (fun x => decide (x = 0)) 360 296,
  lo_none,
  lo_none,
  lo_iload 4 298,
  lo_none,
  lo_pushI 5 299,
  lo_icmp (fun x y => decide (¬ x = y)) 356 302,
  lo_none,
  lo_none,
  lo_aload 0 303,
  lo_iload 3 304,
  lo_callv fX11_goingOf 1 84 307,
  lo_none,
  lo_none,
  lo_if (fun x => decide (0 < x)) 356 310,
  lo_none,
  lo_none,
  lo_aload 0 311,
  lo_iload 3 312,
  lo_iload 7 314,
  lo_none,
  lo_callv fX11_isBehind 2 84 317,
  lo_none,
  lo_none,
  lo_iload 8 319,
  lo_none,
  lo_if (fun x => decide (x = 0)) 352 322,
  lo_none,
  lo_none,
  lo_aload 0 323,
  lo_iload 7 325,
  lo_none,
  lo_callv fX11_phaseOf 1 84 328,
  lo_none,
  lo_none,
  lo_pushI 1 329,
  lo_icmp (fun x y => decide (¬ x = y)) 352 332,
  lo_none,
  lo_none,
  lo_aload 0 333,
  lo_iload 7 335,
  lo_none,
  lo_pushI 1 336,
  lo_callv fX11_field 2 84 339,
  lo_none,
  lo_none,
  lo_aload 0 340,
  lo_iload 3 341,
  lo_pushI 1 342,
  lo_callv fX11_field 2 84 345,
  lo_none,
  lo_none,
  lo_icmp (fun x y => decide (¬ x = y)) 352 348,
  lo_none,
  lo_none,
  lo_pushI 1 349,
  lo_goto 353,
  lo_none,
  lo_none,
  lo_pushI 0 353,
  lo_icmp (fun x y => decide (¬ x = y)) 360 356,
  lo_none,
  lo_none,
  lo_pushI 1 357,
  lo_goto 361,
  lo_none,
  lo_none,
  lo_pushI 0 361,
  lo_istore 1 362,
  lo_iinc 7 1 365,
  lo_none,
  lo_none,
  lo_goto 197,
  lo_none,
  lo_none,
  lo_aload 0 369,
  lo_iload 3 370,
  lo_callv fX11_goingOf 1 84 373,
  lo_none,
  lo_none,
  lo_if (fun x => decide (¬ x = 0)) 380 376,
  lo_none,
  lo_none,
  lo_pushI 1 377,
  lo_goto 381,
  lo_none,
  lo_none,
  lo_pushI 0 381,
  lo_istore 7 383,
  lo_none,
  lo_iload 1 384,
  lo_if (fun x => decide (x = 0)) 474 387,
  lo_none,
  lo_none,
  lo_iload 4 389,
  lo_none,
  lo_pushI 1 390,
  lo_icmp (fun x y => decide (¬ x = y)) 416 393,
  lo_none,
  lo_none,
  lo_iload 7 395,
  lo_none,
  lo_if (fun x => decide (x = 0)) 416 398,
  lo_none,
  lo_none,
  lo_iload 5 400,
  lo_none,
  lo_aload 0 401,
  lo_iload 3 402,
  lo_pushI 0 403,
  lo_callv fX11_field 2 84 406,
  lo_none,
  lo_none,
  lo_icmp (fun x y => decide (¬ x = y)) 474 409,
  lo_none,
  lo_none,
  lo_iload 6 411,
  lo_none,
  lo_iload 5 413,
  lo_none,
  lo_icmp (fun x y => decide (¬ x = y)) 474 416,
  lo_none,
  lo_none,
  lo_iload 4 418,
  lo_none,
  lo_if (fun x => decide (¬ x = 0)) 470 421,
  lo_none,
  lo_none,
  lo_iload 7 423,
  lo_none,
  lo_if (fun x => decide (x = 0)) 470 426,
  lo_none,
  lo_none,
  lo_aload 0 427,
  lo_iload 3 428,
  lo_pushI 4 429,
  lo_callv fX11_field 2 84 432,
  lo_none,
  lo_none,
  lo_pushI 1 433,
  lo_icmp (fun x y => decide (x = y)) 470 436,
  lo_none,
  lo_none,
  lo_aload 0 437,
  lo_iload 3 438,
  lo_pushI 5 439,
  lo_callv fX11_field 2 84 442,
  lo_none,
  lo_none,
  lo_if (fun x => decide (x = 0)) 470 445,
  lo_none,
  lo_none,
  lo_aload 0 446,
  lo_iload 3 447,
  lo_pushI 0 448,
  lo_callv fX11_field 2 84 451,
  lo_none,
  lo_none,
  lo_pushI 1 452,
  lo_icmp (fun x y => decide (x < y)) 474 455,
  lo_none,
  lo_none,
  lo_aload 0 456,
  lo_iload 3 457,
  lo_pushI 0 458,
  lo_callv fX11_field 2 84 461,
  lo_none,
  lo_none,
  lo_aload 0 462,
  lo_iload 3 463,
  lo_pushI 5 464,
  lo_callv fX11_field 2 84 467,
  lo_none,
  lo_none,
  lo_icmp (fun x y => decide (y < x)) 474 470,
  lo_none,
  lo_none,
  lo_pushI 1 471,
  lo_goto 475,
  lo_none,
  lo_none,
  lo_pushI 0 475,
  lo_istore 1 476,
  lo_iload 1 477,
  lo_if (fun x => decide (x = 0)) 513 480,
  lo_none,
  lo_none,
  lo_aload 0 481,
  lo_iload 3 482,
  lo_callv fX11_ownerOf 1 84 485,
  lo_none,
  lo_none,
  lo_if (fun x => decide (x < 0)) 509 488,
  lo_none,
  lo_none,
  lo_aload 0 489,
  lo_aload 0 490,
  lo_iload 3 491,
  lo_callv fX11_ownerOf 1 84 494,
  lo_none,
  lo_none,
  lo_callv fX11_goingOf 1 84 497,
  lo_none,
  lo_none,
  lo_pushI 4 498,
  lo_icmp (fun x y => decide (x < y)) 509 501,
  lo_none,
  lo_none,
  lo_aload 0 502,
  lo_iload 3 503,
  lo_callv fX11_goingOf 1 84 506,
  lo_none,
  lo_none,
  lo_if (fun x => decide (x ≤ 0)) 513 509,
  lo_none,
  lo_none,
  lo_pushI 1 510,
  lo_goto 514,
  lo_none,
  lo_none,
  lo_pushI 0 514,
  lo_istore 1 515,
  lo_iinc 3 1 518,
  lo_none,
  lo_none,
  lo_goto 169,
  lo_none,
  lo_none,
  lo_iload 1 522,
  lo_iret 84 true]
set_option maxRecDepth 100000 in
theorem tl_L_isAtRest : ∀ pc, lz_Tl (tL_isAtRest.getD pc lo_none) := by
  refine lz_Tl_mem ?_
  unfold tL_isAtRest
  refine List.forall_mem_cons.mpr ⟨(lo_pushI_tl _ _), ?_⟩
  refine List.forall_mem_cons.mpr ⟨(lo_istore_tl _ _), ?_⟩
  refine List.forall_mem_cons.mpr ⟨(lo_pushI_tl _ _), ?_⟩
  refine List.forall_mem_cons.mpr ⟨(lo_istore_tl _ _), ?_⟩
  refine List.forall_mem_cons.mpr ⟨(lo_iload_tl _ _), ?_⟩
  refine List.forall_mem_cons.mpr ⟨(lo_aload_tl _ _), ?_⟩
  refine List.forall_mem_cons.mpr ⟨(lo_callv_tl _ _ _ _), ?_⟩
  refine List.forall_mem_cons.mpr ⟨lo_none_tl, ?_⟩
  refine List.forall_mem_cons.mpr ⟨lo_none_tl, ?_⟩
  refine List.forall_mem_cons.mpr ⟨(lo_icmp_tl _ _ _), ?_⟩
  refine List.forall_mem_cons.mpr ⟨lo_none_tl, ?_⟩
  refine List.forall_mem_cons.mpr ⟨lo_none_tl, ?_⟩
  refine List.forall_mem_cons.mpr ⟨(lo_iload_tl _ _), ?_⟩
  refine List.forall_mem_cons.mpr ⟨(lo_if_tl _ _ _), ?_⟩
  refine List.forall_mem_cons.mpr ⟨lo_none_tl, ?_⟩
  refine List.forall_mem_cons.mpr ⟨lo_none_tl, ?_⟩
  refine List.forall_mem_cons.mpr ⟨(lo_aload_tl _ _), ?_⟩
  refine List.forall_mem_cons.mpr ⟨(lo_iload_tl _ _), ?_⟩
  refine List.forall_mem_cons.mpr ⟨(lo_callv_tl _ _ _ _), ?_⟩
  refine List.forall_mem_cons.mpr ⟨lo_none_tl, ?_⟩
  refine List.forall_mem_cons.mpr ⟨lo_none_tl, ?_⟩
  refine List.forall_mem_cons.mpr ⟨(lo_pushI_tl _ _), ?_⟩
  refine List.forall_mem_cons.mpr ⟨(lo_icmp_tl _ _ _), ?_⟩
  refine List.forall_mem_cons.mpr ⟨lo_none_tl, ?_⟩
  refine List.forall_mem_cons.mpr ⟨lo_none_tl, ?_⟩
  refine List.forall_mem_cons.mpr ⟨(lo_aload_tl _ _), ?_⟩
  refine List.forall_mem_cons.mpr ⟨(lo_iload_tl _ _), ?_⟩
  refine List.forall_mem_cons.mpr ⟨(lo_callv_tl _ _ _ _), ?_⟩
  refine List.forall_mem_cons.mpr ⟨lo_none_tl, ?_⟩
  refine List.forall_mem_cons.mpr ⟨lo_none_tl, ?_⟩
  refine List.forall_mem_cons.mpr ⟨(lo_pushI_tl _ _), ?_⟩
  refine List.forall_mem_cons.mpr ⟨(lo_icmp_tl _ _ _), ?_⟩
  refine List.forall_mem_cons.mpr ⟨lo_none_tl, ?_⟩
  refine List.forall_mem_cons.mpr ⟨lo_none_tl, ?_⟩
  refine List.forall_mem_cons.mpr ⟨(lo_aload_tl _ _), ?_⟩
  refine List.forall_mem_cons.mpr ⟨(lo_pushI_tl _ _), ?_⟩
  refine List.forall_mem_cons.mpr ⟨lo_none_tl, ?_⟩
  refine List.forall_mem_cons.mpr ⟨(lo_iload_tl _ _), ?_⟩
  refine List.forall_mem_cons.mpr ⟨(lo_pushI_tl _ _), ?_⟩
  refine List.forall_mem_cons.mpr ⟨(lo_pushI_tl _ _), ?_⟩
  refine List.forall_mem_cons.mpr ⟨(lo_pushI_tl _ _), ?_⟩
  refine List.forall_mem_cons.mpr ⟨(lo_pushI_tl _ _), ?_⟩
  refine List.forall_mem_cons.mpr ⟨(lo_pushI_tl _ _), ?_⟩
  refine List.forall_mem_cons.mpr ⟨(lo_calls_tl _ _ _ _ _), ?_⟩
  refine List.forall_mem_cons.mpr ⟨lo_none_tl, ?_⟩
  refine List.forall_mem_cons.mpr ⟨lo_none_tl, ?_⟩
  refine List.forall_mem_cons.mpr ⟨(lo_if_tl _ _ _), ?_⟩
  refine List.forall_mem_cons.mpr ⟨lo_none_tl, ?_⟩
  refine List.forall_mem_cons.mpr ⟨lo_none_tl, ?_⟩
  refine List.forall_mem_cons.mpr ⟨(lo_pushI_tl _ _), ?_⟩
  refine List.forall_mem_cons.mpr ⟨(lo_goto_tl _), ?_⟩
  refine List.forall_mem_cons.mpr ⟨lo_none_tl, ?_⟩
  refine List.forall_mem_cons.mpr ⟨lo_none_tl, ?_⟩
  refine List.forall_mem_cons.mpr ⟨(lo_pushI_tl _ _), ?_⟩
  refine List.forall_mem_cons.mpr ⟨(lo_istore_tl _ _), ?_⟩
  refine List.forall_mem_cons.mpr ⟨(lo_iinc_tl _ _ _), ?_⟩
  refine List.forall_mem_cons.mpr ⟨lo_none_tl, ?_⟩
  refine List.forall_mem_cons.mpr ⟨lo_none_tl, ?_⟩
  refine List.forall_mem_cons.mpr ⟨(lo_goto_tl _), ?_⟩
  refine List.forall_mem_cons.mpr ⟨lo_none_tl, ?_⟩
  refine List.forall_mem_cons.mpr ⟨lo_none_tl, ?_⟩
  refine List.forall_mem_cons.mpr ⟨(lo_pushI_tl _ _), ?_⟩
  refine List.forall_mem_cons.mpr ⟨(lo_istore_tl _ _), ?_⟩
  refine List.forall_mem_cons.mpr ⟨(lo_pushI_tl _ _), ?_⟩
  refine List.forall_mem_cons.mpr ⟨(lo_istore_tl _ _), ?_⟩
  refine List.forall_mem_cons.mpr ⟨(lo_iload_tl _ _), ?_⟩
  refine List.forall_mem_cons.mpr ⟨(lo_pushI_tl _ _), ?_⟩
  refine List.forall_mem_cons.mpr ⟨lo_none_tl, ?_⟩
  refine List.forall_mem_cons.mpr ⟨(lo_icmp_tl _ _ _), ?_⟩
  refine List.forall_mem_cons.mpr ⟨lo_none_tl, ?_⟩
  refine List.forall_mem_cons.mpr ⟨lo_none_tl, ?_⟩
  refine List.forall_mem_cons.mpr ⟨(lo_iload_tl _ _), ?_⟩
  refine List.forall_mem_cons.mpr ⟨(lo_if_tl _ _ _), ?_⟩
  refine List.forall_mem_cons.mpr ⟨lo_none_tl, ?_⟩
  refine List.forall_mem_cons.mpr ⟨lo_none_tl, ?_⟩
  refine List.forall_mem_cons.mpr ⟨(lo_iload_tl _ _), ?_⟩
  refine List.forall_mem_cons.mpr ⟨(lo_aload_tl _ _), ?_⟩
  refine List.forall_mem_cons.mpr ⟨(lo_callv_tl _ _ _ _), ?_⟩
  refine List.forall_mem_cons.mpr ⟨lo_none_tl, ?_⟩
  refine List.forall_mem_cons.mpr ⟨lo_none_tl, ?_⟩
  refine List.forall_mem_cons.mpr ⟨(lo_icmp_tl _ _ _), ?_⟩
  refine List.forall_mem_cons.mpr ⟨lo_none_tl, ?_⟩
  refine List.forall_mem_cons.mpr ⟨lo_none_tl, ?_⟩
  refine List.forall_mem_cons.mpr ⟨(lo_aload_tl _ _), ?_⟩
  refine List.forall_mem_cons.mpr ⟨(lo_callv_tl _ _ _ _), ?_⟩
  refine List.forall_mem_cons.mpr ⟨lo_none_tl, ?_⟩
  refine List.forall_mem_cons.mpr ⟨lo_none_tl, ?_⟩
  refine List.forall_mem_cons.mpr ⟨(lo_pushI_tl _ _), ?_⟩
  refine List.forall_mem_cons.mpr ⟨lo_none_tl, ?_⟩
  refine List.forall_mem_cons.mpr ⟨lo_none_tl, ?_⟩
  refine List.forall_mem_cons.mpr ⟨(lo_icmp_tl _ _ _), ?_⟩
  refine List.forall_mem_cons.mpr ⟨lo_none_tl, ?_⟩
  refine List.forall_mem_cons.mpr ⟨lo_none_tl, ?_⟩
  refine List.forall_mem_cons.mpr ⟨(lo_aload_tl _ _), ?_⟩
  refine List.forall_mem_cons.mpr ⟨(lo_callv_tl _ _ _ _), ?_⟩
  refine List.forall_mem_cons.mpr ⟨lo_none_tl, ?_⟩
  refine List.forall_mem_cons.mpr ⟨lo_none_tl, ?_⟩
  refine List.forall_mem_cons.mpr ⟨(lo_istore_tl _ _), ?_⟩
  refine List.forall_mem_cons.mpr ⟨(lo_aload_tl _ _), ?_⟩
  refine List.forall_mem_cons.mpr ⟨(lo_pushI_tl _ _), ?_⟩
  refine List.forall_mem_cons.mpr ⟨lo_none_tl, ?_⟩
  refine List.forall_mem_cons.mpr ⟨(lo_pushI_tl _ _), ?_⟩
  refine List.forall_mem_cons.mpr ⟨(lo_pushI_tl _ _), ?_⟩
  refine List.forall_mem_cons.mpr ⟨(lo_pushI_tl _ _), ?_⟩
  refine List.forall_mem_cons.mpr ⟨(lo_pushI_tl _ _), ?_⟩
  refine List.forall_mem_cons.mpr ⟨(lo_pushI_tl _ _), ?_⟩
  refine List.forall_mem_cons.mpr ⟨(lo_pushI_tl _ _), ?_⟩
  refine List.forall_mem_cons.mpr ⟨(lo_calls_tl _ _ _ _ _), ?_⟩
  refine List.forall_mem_cons.mpr ⟨lo_none_tl, ?_⟩
  refine List.forall_mem_cons.mpr ⟨lo_none_tl, ?_⟩
  refine List.forall_mem_cons.mpr ⟨(lo_aload_tl _ _), ?_⟩
  refine List.forall_mem_cons.mpr ⟨(lo_callv_tl _ _ _ _), ?_⟩
  refine List.forall_mem_cons.mpr ⟨lo_none_tl, ?_⟩
  refine List.forall_mem_cons.mpr ⟨lo_none_tl, ?_⟩
  refine List.forall_mem_cons.mpr ⟨(lo_iload_tl _ _), ?_⟩
  refine List.forall_mem_cons.mpr ⟨(lo_ii_tl _ _), ?_⟩
  refine List.forall_mem_cons.mpr ⟨(lo_icmp_tl _ _ _), ?_⟩
  refine List.forall_mem_cons.mpr ⟨lo_none_tl, ?_⟩
  refine List.forall_mem_cons.mpr ⟨lo_none_tl, ?_⟩
  refine List.forall_mem_cons.mpr ⟨(lo_aload_tl _ _), ?_⟩
  refine List.forall_mem_cons.mpr ⟨(lo_pushI_tl _ _), ?_⟩
  refine List.forall_mem_cons.mpr ⟨lo_none_tl, ?_⟩
  refine List.forall_mem_cons.mpr ⟨(lo_pushI_tl _ _), ?_⟩
  refine List.forall_mem_cons.mpr ⟨(lo_pushI_tl _ _), ?_⟩
  refine List.forall_mem_cons.mpr ⟨(lo_pushI_tl _ _), ?_⟩
  refine List.forall_mem_cons.mpr ⟨(lo_pushI_tl _ _), ?_⟩
  refine List.forall_mem_cons.mpr ⟨(lo_pushI_tl _ _), ?_⟩
  refine List.forall_mem_cons.mpr ⟨(lo_pushI_tl _ _), ?_⟩
  refine List.forall_mem_cons.mpr ⟨(lo_calls_tl _ _ _ _ _), ?_⟩
  refine List.forall_mem_cons.mpr ⟨lo_none_tl, ?_⟩
  refine List.forall_mem_cons.mpr ⟨lo_none_tl, ?_⟩
  refine List.forall_mem_cons.mpr ⟨(lo_if_tl _ _ _), ?_⟩
  refine List.forall_mem_cons.mpr ⟨lo_none_tl, ?_⟩
  refine List.forall_mem_cons.mpr ⟨lo_none_tl, ?_⟩
  refine List.forall_mem_cons.mpr ⟨(lo_pushI_tl _ _), ?_⟩
  refine List.forall_mem_cons.mpr ⟨(lo_goto_tl _), ?_⟩
  refine List.forall_mem_cons.mpr ⟨lo_none_tl, ?_⟩
  refine List.forall_mem_cons.mpr ⟨lo_none_tl, ?_⟩
  refine List.forall_mem_cons.mpr ⟨(lo_pushI_tl _ _), ?_⟩
  refine List.forall_mem_cons.mpr ⟨(lo_istore_tl _ _), ?_⟩
  refine List.forall_mem_cons.mpr ⟨(lo_iinc_tl _ _ _), ?_⟩
  refine List.forall_mem_cons.mpr ⟨lo_none_tl, ?_⟩
  refine List.forall_mem_cons.mpr ⟨lo_none_tl, ?_⟩
  refine List.forall_mem_cons.mpr ⟨(lo_goto_tl _), ?_⟩
  refine List.forall_mem_cons.mpr ⟨lo_none_tl, ?_⟩
  refine List.forall_mem_cons.mpr ⟨lo_none_tl, ?_⟩
  refine List.forall_mem_cons.mpr ⟨(lo_iload_tl _ _), ?_⟩
  refine List.forall_mem_cons.mpr ⟨(lo_if_tl _ _ _), ?_⟩
  refine List.forall_mem_cons.mpr ⟨lo_none_tl, ?_⟩
  refine List.forall_mem_cons.mpr ⟨lo_none_tl, ?_⟩
  refine List.forall_mem_cons.mpr ⟨(lo_iload_tl _ _), ?_⟩
  refine List.forall_mem_cons.mpr ⟨(lo_aload_tl _ _), ?_⟩
  refine List.forall_mem_cons.mpr ⟨(lo_callv_tl _ _ _ _), ?_⟩
  refine List.forall_mem_cons.mpr ⟨lo_none_tl, ?_⟩
  refine List.forall_mem_cons.mpr ⟨lo_none_tl, ?_⟩
  refine List.forall_mem_cons.mpr ⟨(lo_icmp_tl _ _ _), ?_⟩
  refine List.forall_mem_cons.mpr ⟨lo_none_tl, ?_⟩
  refine List.forall_mem_cons.mpr ⟨lo_none_tl, ?_⟩
  refine List.forall_mem_cons.mpr ⟨(lo_aload_tl _ _), ?_⟩
  refine List.forall_mem_cons.mpr ⟨(lo_callv_tl _ _ _ _), ?_⟩
  refine List.forall_mem_cons.mpr ⟨lo_none_tl, ?_⟩
  refine List.forall_mem_cons.mpr ⟨lo_none_tl, ?_⟩
  refine List.forall_mem_cons.mpr ⟨(lo_if_tl _ _ _), ?_⟩
  refine List.forall_mem_cons.mpr ⟨lo_none_tl, ?_⟩
  refine List.forall_mem_cons.mpr ⟨lo_none_tl, ?_⟩
  refine List.forall_mem_cons.mpr ⟨(lo_iload_tl _ _), ?_⟩
  refine List.forall_mem_cons.mpr ⟨(lo_iret_tl _ _), ?_⟩
  refine List.forall_mem_cons.mpr ⟨(lo_pushI_tl _ _), ?_⟩
  refine List.forall_mem_cons.mpr ⟨(lo_istore_tl _ _), ?_⟩
  refine List.forall_mem_cons.mpr ⟨(lo_iload_tl _ _), ?_⟩
  refine List.forall_mem_cons.mpr ⟨(lo_aload_tl _ _), ?_⟩
  refine List.forall_mem_cons.mpr ⟨(lo_callv_tl _ _ _ _), ?_⟩
  refine List.forall_mem_cons.mpr ⟨lo_none_tl, ?_⟩
  refine List.forall_mem_cons.mpr ⟨lo_none_tl, ?_⟩
  refine List.forall_mem_cons.mpr ⟨(lo_icmp_tl _ _ _), ?_⟩
  refine List.forall_mem_cons.mpr ⟨lo_none_tl, ?_⟩
  refine List.forall_mem_cons.mpr ⟨lo_none_tl, ?_⟩
  refine List.forall_mem_cons.mpr ⟨(lo_iload_tl _ _), ?_⟩
  refine List.forall_mem_cons.mpr ⟨(lo_if_tl _ _ _), ?_⟩
  refine List.forall_mem_cons.mpr ⟨lo_none_tl, ?_⟩
  refine List.forall_mem_cons.mpr ⟨lo_none_tl, ?_⟩
  refine List.forall_mem_cons.mpr ⟨(lo_aload_tl _ _), ?_⟩
  refine List.forall_mem_cons.mpr ⟨(lo_iload_tl _ _), ?_⟩
  refine List.forall_mem_cons.mpr ⟨(lo_callv_tl _ _ _ _), ?_⟩
  refine List.forall_mem_cons.mpr ⟨lo_none_tl, ?_⟩
  refine List.forall_mem_cons.mpr ⟨lo_none_tl, ?_⟩
  refine List.forall_mem_cons.mpr ⟨(lo_istore_tl _ _), ?_⟩
  refine List.forall_mem_cons.mpr ⟨lo_none_tl, ?_⟩
  refine List.forall_mem_cons.mpr ⟨(lo_pushI_tl _ _), ?_⟩
  refine List.forall_mem_cons.mpr ⟨(lo_istore_tl _ _), ?_⟩
  refine List.forall_mem_cons.mpr ⟨lo_none_tl, ?_⟩
  refine List.forall_mem_cons.mpr ⟨(lo_pushI_tl _ _), ?_⟩
  refine List.forall_mem_cons.mpr ⟨(lo_istore_tl _ _), ?_⟩
  refine List.forall_mem_cons.mpr ⟨lo_none_tl, ?_⟩
  refine List.forall_mem_cons.mpr ⟨(lo_pushI_tl _ _), ?_⟩
  refine List.forall_mem_cons.mpr ⟨(lo_istore_tl _ _), ?_⟩
  refine List.forall_mem_cons.mpr ⟨lo_none_tl, ?_⟩
  refine List.forall_mem_cons.mpr ⟨(lo_iload_tl _ _), ?_⟩
  refine List.forall_mem_cons.mpr ⟨lo_none_tl, ?_⟩
  refine List.forall_mem_cons.mpr ⟨(lo_aload_tl _ _), ?_⟩
  refine List.forall_mem_cons.mpr ⟨(lo_callv_tl _ _ _ _), ?_⟩
  refine List.forall_mem_cons.mpr ⟨lo_none_tl, ?_⟩
  refine List.forall_mem_cons.mpr ⟨lo_none_tl, ?_⟩
  refine List.forall_mem_cons.mpr ⟨(lo_icmp_tl _ _ _), ?_⟩
  refine List.forall_mem_cons.mpr ⟨lo_none_tl, ?_⟩
  refine List.forall_mem_cons.mpr ⟨lo_none_tl, ?_⟩
  refine List.forall_mem_cons.mpr ⟨(lo_aload_tl _ _), ?_⟩
  refine List.forall_mem_cons.mpr ⟨(lo_iload_tl _ _), ?_⟩
  refine List.forall_mem_cons.mpr ⟨lo_none_tl, ?_⟩
  refine List.forall_mem_cons.mpr ⟨(lo_callv_tl _ _ _ _), ?_⟩
  refine List.forall_mem_cons.mpr ⟨lo_none_tl, ?_⟩
  refine List.forall_mem_cons.mpr ⟨lo_none_tl, ?_⟩
  refine List.forall_mem_cons.mpr ⟨(lo_pushI_tl _ _), ?_⟩
  refine List.forall_mem_cons.mpr ⟨(lo_icmp_tl _ _ _), ?_⟩
  refine List.forall_mem_cons.mpr ⟨lo_none_tl, ?_⟩
  refine List.forall_mem_cons.mpr ⟨lo_none_tl, ?_⟩
  refine List.forall_mem_cons.mpr ⟨(lo_aload_tl _ _), ?_⟩
  refine List.forall_mem_cons.mpr ⟨(lo_iload_tl _ _), ?_⟩
  refine List.forall_mem_cons.mpr ⟨lo_none_tl, ?_⟩
  refine List.forall_mem_cons.mpr ⟨(lo_callv_tl _ _ _ _), ?_⟩
  refine List.forall_mem_cons.mpr ⟨lo_none_tl, ?_⟩
  refine List.forall_mem_cons.mpr ⟨lo_none_tl, ?_⟩
  refine List.forall_mem_cons.mpr ⟨(lo_if_tl _ _ _), ?_⟩
  refine List.forall_mem_cons.mpr ⟨lo_none_tl, ?_⟩
  refine List.forall_mem_cons.mpr ⟨lo_none_tl, ?_⟩
  refine List.forall_mem_cons.mpr ⟨(lo_pushI_tl _ _), ?_⟩
  refine List.forall_mem_cons.mpr ⟨(lo_goto_tl _), ?_⟩
  refine List.forall_mem_cons.mpr ⟨lo_none_tl, ?_⟩
  refine List.forall_mem_cons.mpr ⟨lo_none_tl, ?_⟩
  refine List.forall_mem_cons.mpr ⟨(lo_pushI_tl _ _), ?_⟩
  refine List.forall_mem_cons.mpr ⟨(lo_istore_tl _ _), ?_⟩
  refine List.forall_mem_cons.mpr ⟨lo_none_tl, ?_⟩
  refine List.forall_mem_cons.mpr ⟨(lo_iload_tl _ _), ?_⟩
  refine List.forall_mem_cons.mpr ⟨lo_none_tl, ?_⟩
  refine List.forall_mem_cons.mpr ⟨(lo_iload_tl _ _), ?_⟩
  refine List.forall_mem_cons.mpr ⟨lo_none_tl, ?_⟩
  refine List.forall_mem_cons.mpr ⟨(lo_if_tl _ _ _), ?_⟩
  refine List.forall_mem_cons.mpr ⟨lo_none_tl, ?_⟩
  refine List.forall_mem_cons.mpr ⟨lo_none_tl, ?_⟩
  refine List.forall_mem_cons.mpr ⟨(lo_aload_tl _ _), ?_⟩
  refine List.forall_mem_cons.mpr ⟨(lo_iload_tl _ _), ?_⟩
  refine List.forall_mem_cons.mpr ⟨lo_none_tl, ?_⟩
  refine List.forall_mem_cons.mpr ⟨(lo_callv_tl _ _ _ _), ?_⟩
  refine List.forall_mem_cons.mpr ⟨lo_none_tl, ?_⟩
  refine List.forall_mem_cons.mpr ⟨lo_none_tl, ?_⟩
  refine List.forall_mem_cons.mpr ⟨(lo_iload_tl _ _), ?_⟩
  refine List.forall_mem_cons.mpr ⟨(lo_icmp_tl _ _ _), ?_⟩
  refine List.forall_mem_cons.mpr ⟨lo_none_tl, ?_⟩
  refine List.forall_mem_cons.mpr ⟨lo_none_tl, ?_⟩
  refine List.forall_mem_cons.mpr ⟨(lo_pushI_tl _ _), ?_⟩
  refine List.forall_mem_cons.mpr ⟨(lo_goto_tl _), ?_⟩
  refine List.forall_mem_cons.mpr ⟨lo_none_tl, ?_⟩
  refine List.forall_mem_cons.mpr ⟨lo_none_tl, ?_⟩
  refine List.forall_mem_cons.mpr ⟨(lo_pushI_tl _ _), ?_⟩
  refine List.forall_mem_cons.mpr ⟨(lo_ii_tl _ _), ?_⟩
  refine List.forall_mem_cons.mpr ⟨(lo_istore_tl _ _), ?_⟩
  refine List.forall_mem_cons.mpr ⟨lo_none_tl, ?_⟩
  refine List.forall_mem_cons.mpr ⟨(lo_iload_tl _ _), ?_⟩
  refine List.forall_mem_cons.mpr ⟨lo_none_tl, ?_⟩
  refine List.forall_mem_cons.mpr ⟨(lo_iload_tl _ _), ?_⟩
  refine List.forall_mem_cons.mpr ⟨lo_none_tl, ?_⟩
  refine List.forall_mem_cons.mpr ⟨(lo_if_tl _ _ _), ?_⟩
  refine List.forall_mem_cons.mpr ⟨lo_none_tl, ?_⟩
  refine List.forall_mem_cons.mpr ⟨lo_none_tl, ?_⟩
  refine List.forall_mem_cons.mpr ⟨(lo_aload_tl _ _), ?_⟩
  refine List.forall_mem_cons.mpr ⟨(lo_iload_tl _ _), ?_⟩
  refine List.forall_mem_cons.mpr ⟨lo_none_tl, ?_⟩
  refine List.forall_mem_cons.mpr ⟨(lo_callv_tl _ _ _ _), ?_⟩
  refine List.forall_mem_cons.mpr ⟨lo_none_tl, ?_⟩
  refine List.forall_mem_cons.mpr ⟨lo_none_tl, ?_⟩
  refine List.forall_mem_cons.mpr ⟨(lo_iload_tl _ _), ?_⟩
  refine List.forall_mem_cons.mpr ⟨(lo_icmp_tl _ _ _), ?_⟩
  refine List.forall_mem_cons.mpr ⟨lo_none_tl, ?_⟩
  refine List.forall_mem_cons.mpr ⟨lo_none_tl, ?_⟩
  refine List.forall_mem_cons.mpr ⟨(lo_aload_tl _ _), ?_⟩
  refine List.forall_mem_cons.mpr ⟨(lo_iload_tl _ _), ?_⟩
  refine List.forall_mem_cons.mpr ⟨lo_none_tl, ?_⟩
  refine List.forall_mem_cons.mpr ⟨(lo_callv_tl _ _ _ _), ?_⟩
  refine List.forall_mem_cons.mpr ⟨lo_none_tl, ?_⟩
  refine List.forall_mem_cons.mpr ⟨lo_none_tl, ?_⟩
  refine List.forall_mem_cons.mpr ⟨(lo_pushI_tl _ _), ?_⟩
  refine List.forall_mem_cons.mpr ⟨(lo_icmp_tl _ _ _), ?_⟩
  refine List.forall_mem_cons.mpr ⟨lo_none_tl, ?_⟩
  refine List.forall_mem_cons.mpr ⟨lo_none_tl, ?_⟩
  refine List.forall_mem_cons.mpr ⟨(lo_pushI_tl _ _), ?_⟩
  refine List.forall_mem_cons.mpr ⟨(lo_goto_tl _), ?_⟩
  refine List.forall_mem_cons.mpr ⟨lo_none_tl, ?_⟩
  refine List.forall_mem_cons.mpr ⟨lo_none_tl, ?_⟩
  refine List.forall_mem_cons.mpr ⟨(lo_pushI_tl _ _), ?_⟩
  refine List.forall_mem_cons.mpr ⟨(lo_ii_tl _ _), ?_⟩
  refine List.forall_mem_cons.mpr ⟨(lo_istore_tl _ _), ?_⟩
  refine List.forall_mem_cons.mpr ⟨lo_none_tl, ?_⟩
  refine List.forall_mem_cons.mpr ⟨(lo_iload_tl _ _), ?_⟩
  refine List.forall_mem_cons.mpr ⟨(lo_if_tl _ _ _), ?_⟩
  refine List.forall_mem_cons.mpr ⟨lo_none_tl, ?_⟩
  refine List.forall_mem_cons.mpr ⟨lo_none_tl, ?_⟩
  refine List.forall_mem_cons.mpr ⟨(lo_iload_tl _ _), ?_⟩
  refine List.forall_mem_cons.mpr ⟨lo_none_tl, ?_⟩
  refine List.forall_mem_cons.mpr ⟨(lo_pushI_tl _ _), ?_⟩
  refine List.forall_mem_cons.mpr ⟨(lo_icmp_tl _ _ _), ?_⟩
  refine List.forall_mem_cons.mpr ⟨lo_none_tl, ?_⟩
  refine List.forall_mem_cons.mpr ⟨lo_none_tl, ?_⟩
  refine List.forall_mem_cons.mpr ⟨(lo_aload_tl _ _), ?_⟩
  refine List.forall_mem_cons.mpr ⟨(lo_iload_tl _ _), ?_⟩
  refine List.forall_mem_cons.mpr ⟨(lo_callv_tl _ _ _ _), ?_⟩
  refine List.forall_mem_cons.mpr ⟨lo_none_tl, ?_⟩
  refine List.forall_mem_cons.mpr ⟨lo_none_tl, ?_⟩
  refine List.forall_mem_cons.mpr ⟨(lo_if_tl _ _ _), ?_⟩
  refine List.forall_mem_cons.mpr ⟨lo_none_tl, ?_⟩
  refine List.forall_mem_cons.mpr ⟨lo_none_tl, ?_⟩
  refine List.forall_mem_cons.mpr ⟨(lo_aload_tl _ _), ?_⟩
  refine List.forall_mem_cons.mpr ⟨(lo_iload_tl _ _), ?_⟩
  refine List.forall_mem_cons.mpr ⟨(lo_iload_tl _ _), ?_⟩
  refine List.forall_mem_cons.mpr ⟨lo_none_tl, ?_⟩
  refine List.forall_mem_cons.mpr ⟨(lo_callv_tl _ _ _ _), ?_⟩
  refine List.forall_mem_cons.mpr ⟨lo_none_tl, ?_⟩
  refine List.forall_mem_cons.mpr ⟨lo_none_tl, ?_⟩
  refine List.forall_mem_cons.mpr ⟨(lo_iload_tl _ _), ?_⟩
  refine List.forall_mem_cons.mpr ⟨lo_none_tl, ?_⟩
  refine List.forall_mem_cons.mpr ⟨(lo_if_tl _ _ _), ?_⟩
  refine List.forall_mem_cons.mpr ⟨lo_none_tl, ?_⟩
  refine List.forall_mem_cons.mpr ⟨lo_none_tl, ?_⟩
  refine List.forall_mem_cons.mpr ⟨(lo_aload_tl _ _), ?_⟩
  refine List.forall_mem_cons.mpr ⟨(lo_iload_tl _ _), ?_⟩
  refine List.forall_mem_cons.mpr ⟨lo_none_tl, ?_⟩
  refine List.forall_mem_cons.mpr ⟨(lo_callv_tl _ _ _ _), ?_⟩
  refine List.forall_mem_cons.mpr ⟨lo_none_tl, ?_⟩
  refine List.forall_mem_cons.mpr ⟨lo_none_tl, ?_⟩
  refine List.forall_mem_cons.mpr ⟨(lo_pushI_tl _ _), ?_⟩
  refine List.forall_mem_cons.mpr ⟨(lo_icmp_tl _ _ _), ?_⟩
  refine List.forall_mem_cons.mpr ⟨lo_none_tl, ?_⟩
  refine List.forall_mem_cons.mpr ⟨lo_none_tl, ?_⟩
  refine List.forall_mem_cons.mpr ⟨(lo_aload_tl _ _), ?_⟩
  refine List.forall_mem_cons.mpr ⟨(lo_iload_tl _ _), ?_⟩
  refine List.forall_mem_cons.mpr ⟨lo_none_tl, ?_⟩
  refine List.forall_mem_cons.mpr ⟨(lo_pushI_tl _ _), ?_⟩
  refine List.forall_mem_cons.mpr ⟨(lo_callv_tl _ _ _ _), ?_⟩
  refine List.forall_mem_cons.mpr ⟨lo_none_tl, ?_⟩
  refine List.forall_mem_cons.mpr ⟨lo_none_tl, ?_⟩
  refine List.forall_mem_cons.mpr ⟨(lo_aload_tl _ _), ?_⟩
  refine List.forall_mem_cons.mpr ⟨(lo_iload_tl _ _), ?_⟩
  refine List.forall_mem_cons.mpr ⟨(lo_pushI_tl _ _), ?_⟩
  refine List.forall_mem_cons.mpr ⟨(lo_callv_tl _ _ _ _), ?_⟩
  refine List.forall_mem_cons.mpr ⟨lo_none_tl, ?_⟩
  refine List.forall_mem_cons.mpr ⟨lo_none_tl, ?_⟩
  refine List.forall_mem_cons.mpr ⟨(lo_icmp_tl _ _ _), ?_⟩
  refine List.forall_mem_cons.mpr ⟨lo_none_tl, ?_⟩
  refine List.forall_mem_cons.mpr ⟨lo_none_tl, ?_⟩
  refine List.forall_mem_cons.mpr ⟨(lo_pushI_tl _ _), ?_⟩
  refine List.forall_mem_cons.mpr ⟨(lo_goto_tl _), ?_⟩
  refine List.forall_mem_cons.mpr ⟨lo_none_tl, ?_⟩
  refine List.forall_mem_cons.mpr ⟨lo_none_tl, ?_⟩
  refine List.forall_mem_cons.mpr ⟨(lo_pushI_tl _ _), ?_⟩
  refine List.forall_mem_cons.mpr ⟨(lo_icmp_tl _ _ _), ?_⟩
  refine List.forall_mem_cons.mpr ⟨lo_none_tl, ?_⟩
  refine List.forall_mem_cons.mpr ⟨lo_none_tl, ?_⟩
  refine List.forall_mem_cons.mpr ⟨(lo_pushI_tl _ _), ?_⟩
  refine List.forall_mem_cons.mpr ⟨(lo_goto_tl _), ?_⟩
  refine List.forall_mem_cons.mpr ⟨lo_none_tl, ?_⟩
  refine List.forall_mem_cons.mpr ⟨lo_none_tl, ?_⟩
  refine List.forall_mem_cons.mpr ⟨(lo_pushI_tl _ _), ?_⟩
  refine List.forall_mem_cons.mpr ⟨(lo_istore_tl _ _), ?_⟩
  refine List.forall_mem_cons.mpr ⟨(lo_iinc_tl _ _ _), ?_⟩
  refine List.forall_mem_cons.mpr ⟨lo_none_tl, ?_⟩
  refine List.forall_mem_cons.mpr ⟨lo_none_tl, ?_⟩
  refine List.forall_mem_cons.mpr ⟨(lo_goto_tl _), ?_⟩
  refine List.forall_mem_cons.mpr ⟨lo_none_tl, ?_⟩
  refine List.forall_mem_cons.mpr ⟨lo_none_tl, ?_⟩
  refine List.forall_mem_cons.mpr ⟨(lo_aload_tl _ _), ?_⟩
  refine List.forall_mem_cons.mpr ⟨(lo_iload_tl _ _), ?_⟩
  refine List.forall_mem_cons.mpr ⟨(lo_callv_tl _ _ _ _), ?_⟩
  refine List.forall_mem_cons.mpr ⟨lo_none_tl, ?_⟩
  refine List.forall_mem_cons.mpr ⟨lo_none_tl, ?_⟩
  refine List.forall_mem_cons.mpr ⟨(lo_if_tl _ _ _), ?_⟩
  refine List.forall_mem_cons.mpr ⟨lo_none_tl, ?_⟩
  refine List.forall_mem_cons.mpr ⟨lo_none_tl, ?_⟩
  refine List.forall_mem_cons.mpr ⟨(lo_pushI_tl _ _), ?_⟩
  refine List.forall_mem_cons.mpr ⟨(lo_goto_tl _), ?_⟩
  refine List.forall_mem_cons.mpr ⟨lo_none_tl, ?_⟩
  refine List.forall_mem_cons.mpr ⟨lo_none_tl, ?_⟩
  refine List.forall_mem_cons.mpr ⟨(lo_pushI_tl _ _), ?_⟩
  refine List.forall_mem_cons.mpr ⟨(lo_istore_tl _ _), ?_⟩
  refine List.forall_mem_cons.mpr ⟨lo_none_tl, ?_⟩
  refine List.forall_mem_cons.mpr ⟨(lo_iload_tl _ _), ?_⟩
  refine List.forall_mem_cons.mpr ⟨(lo_if_tl _ _ _), ?_⟩
  refine List.forall_mem_cons.mpr ⟨lo_none_tl, ?_⟩
  refine List.forall_mem_cons.mpr ⟨lo_none_tl, ?_⟩
  refine List.forall_mem_cons.mpr ⟨(lo_iload_tl _ _), ?_⟩
  refine List.forall_mem_cons.mpr ⟨lo_none_tl, ?_⟩
  refine List.forall_mem_cons.mpr ⟨(lo_pushI_tl _ _), ?_⟩
  refine List.forall_mem_cons.mpr ⟨(lo_icmp_tl _ _ _), ?_⟩
  refine List.forall_mem_cons.mpr ⟨lo_none_tl, ?_⟩
  refine List.forall_mem_cons.mpr ⟨lo_none_tl, ?_⟩
  refine List.forall_mem_cons.mpr ⟨(lo_iload_tl _ _), ?_⟩
  refine List.forall_mem_cons.mpr ⟨lo_none_tl, ?_⟩
  refine List.forall_mem_cons.mpr ⟨(lo_if_tl _ _ _), ?_⟩
  refine List.forall_mem_cons.mpr ⟨lo_none_tl, ?_⟩
  refine List.forall_mem_cons.mpr ⟨lo_none_tl, ?_⟩
  refine List.forall_mem_cons.mpr ⟨(lo_iload_tl _ _), ?_⟩
  refine List.forall_mem_cons.mpr ⟨lo_none_tl, ?_⟩
  refine List.forall_mem_cons.mpr ⟨(lo_aload_tl _ _), ?_⟩
  refine List.forall_mem_cons.mpr ⟨(lo_iload_tl _ _), ?_⟩
  refine List.forall_mem_cons.mpr ⟨(lo_pushI_tl _ _), ?_⟩
  refine List.forall_mem_cons.mpr ⟨(lo_callv_tl _ _ _ _), ?_⟩
  refine List.forall_mem_cons.mpr ⟨lo_none_tl, ?_⟩
  refine List.forall_mem_cons.mpr ⟨lo_none_tl, ?_⟩
  refine List.forall_mem_cons.mpr ⟨(lo_icmp_tl _ _ _), ?_⟩
  refine List.forall_mem_cons.mpr ⟨lo_none_tl, ?_⟩
  refine List.forall_mem_cons.mpr ⟨lo_none_tl, ?_⟩
  refine List.forall_mem_cons.mpr ⟨(lo_iload_tl _ _), ?_⟩
  refine List.forall_mem_cons.mpr ⟨lo_none_tl, ?_⟩
  refine List.forall_mem_cons.mpr ⟨(lo_iload_tl _ _), ?_⟩
  refine List.forall_mem_cons.mpr ⟨lo_none_tl, ?_⟩
  refine List.forall_mem_cons.mpr ⟨(lo_icmp_tl _ _ _), ?_⟩
  refine List.forall_mem_cons.mpr ⟨lo_none_tl, ?_⟩
  refine List.forall_mem_cons.mpr ⟨lo_none_tl, ?_⟩
  refine List.forall_mem_cons.mpr ⟨(lo_iload_tl _ _), ?_⟩
  refine List.forall_mem_cons.mpr ⟨lo_none_tl, ?_⟩
  refine List.forall_mem_cons.mpr ⟨(lo_if_tl _ _ _), ?_⟩
  refine List.forall_mem_cons.mpr ⟨lo_none_tl, ?_⟩
  refine List.forall_mem_cons.mpr ⟨lo_none_tl, ?_⟩
  refine List.forall_mem_cons.mpr ⟨(lo_iload_tl _ _), ?_⟩
  refine List.forall_mem_cons.mpr ⟨lo_none_tl, ?_⟩
  refine List.forall_mem_cons.mpr ⟨(lo_if_tl _ _ _), ?_⟩
  refine List.forall_mem_cons.mpr ⟨lo_none_tl, ?_⟩
  refine List.forall_mem_cons.mpr ⟨lo_none_tl, ?_⟩
  refine List.forall_mem_cons.mpr ⟨(lo_aload_tl _ _), ?_⟩
  refine List.forall_mem_cons.mpr ⟨(lo_iload_tl _ _), ?_⟩
  refine List.forall_mem_cons.mpr ⟨(lo_pushI_tl _ _), ?_⟩
  refine List.forall_mem_cons.mpr ⟨(lo_callv_tl _ _ _ _), ?_⟩
  refine List.forall_mem_cons.mpr ⟨lo_none_tl, ?_⟩
  refine List.forall_mem_cons.mpr ⟨lo_none_tl, ?_⟩
  refine List.forall_mem_cons.mpr ⟨(lo_pushI_tl _ _), ?_⟩
  refine List.forall_mem_cons.mpr ⟨(lo_icmp_tl _ _ _), ?_⟩
  refine List.forall_mem_cons.mpr ⟨lo_none_tl, ?_⟩
  refine List.forall_mem_cons.mpr ⟨lo_none_tl, ?_⟩
  refine List.forall_mem_cons.mpr ⟨(lo_aload_tl _ _), ?_⟩
  refine List.forall_mem_cons.mpr ⟨(lo_iload_tl _ _), ?_⟩
  refine List.forall_mem_cons.mpr ⟨(lo_pushI_tl _ _), ?_⟩
  refine List.forall_mem_cons.mpr ⟨(lo_callv_tl _ _ _ _), ?_⟩
  refine List.forall_mem_cons.mpr ⟨lo_none_tl, ?_⟩
  refine List.forall_mem_cons.mpr ⟨lo_none_tl, ?_⟩
  refine List.forall_mem_cons.mpr ⟨(lo_if_tl _ _ _), ?_⟩
  refine List.forall_mem_cons.mpr ⟨lo_none_tl, ?_⟩
  refine List.forall_mem_cons.mpr ⟨lo_none_tl, ?_⟩
  refine List.forall_mem_cons.mpr ⟨(lo_aload_tl _ _), ?_⟩
  refine List.forall_mem_cons.mpr ⟨(lo_iload_tl _ _), ?_⟩
  refine List.forall_mem_cons.mpr ⟨(lo_pushI_tl _ _), ?_⟩
  refine List.forall_mem_cons.mpr ⟨(lo_callv_tl _ _ _ _), ?_⟩
  refine List.forall_mem_cons.mpr ⟨lo_none_tl, ?_⟩
  refine List.forall_mem_cons.mpr ⟨lo_none_tl, ?_⟩
  refine List.forall_mem_cons.mpr ⟨(lo_pushI_tl _ _), ?_⟩
  refine List.forall_mem_cons.mpr ⟨(lo_icmp_tl _ _ _), ?_⟩
  refine List.forall_mem_cons.mpr ⟨lo_none_tl, ?_⟩
  refine List.forall_mem_cons.mpr ⟨lo_none_tl, ?_⟩
  refine List.forall_mem_cons.mpr ⟨(lo_aload_tl _ _), ?_⟩
  refine List.forall_mem_cons.mpr ⟨(lo_iload_tl _ _), ?_⟩
  refine List.forall_mem_cons.mpr ⟨(lo_pushI_tl _ _), ?_⟩
  refine List.forall_mem_cons.mpr ⟨(lo_callv_tl _ _ _ _), ?_⟩
  refine List.forall_mem_cons.mpr ⟨lo_none_tl, ?_⟩
  refine List.forall_mem_cons.mpr ⟨lo_none_tl, ?_⟩
  refine List.forall_mem_cons.mpr ⟨(lo_aload_tl _ _), ?_⟩
  refine List.forall_mem_cons.mpr ⟨(lo_iload_tl _ _), ?_⟩
  refine List.forall_mem_cons.mpr ⟨(lo_pushI_tl _ _), ?_⟩
  refine List.forall_mem_cons.mpr ⟨(lo_callv_tl _ _ _ _), ?_⟩
  refine List.forall_mem_cons.mpr ⟨lo_none_tl, ?_⟩
  refine List.forall_mem_cons.mpr ⟨lo_none_tl, ?_⟩
  refine List.forall_mem_cons.mpr ⟨(lo_icmp_tl _ _ _), ?_⟩
  refine List.forall_mem_cons.mpr ⟨lo_none_tl, ?_⟩
  refine List.forall_mem_cons.mpr ⟨lo_none_tl, ?_⟩
  refine List.forall_mem_cons.mpr ⟨(lo_pushI_tl _ _), ?_⟩
  refine List.forall_mem_cons.mpr ⟨(lo_goto_tl _), ?_⟩
  refine List.forall_mem_cons.mpr ⟨lo_none_tl, ?_⟩
  refine List.forall_mem_cons.mpr ⟨lo_none_tl, ?_⟩
  refine List.forall_mem_cons.mpr ⟨(lo_pushI_tl _ _), ?_⟩
  refine List.forall_mem_cons.mpr ⟨(lo_istore_tl _ _), ?_⟩
  refine List.forall_mem_cons.mpr ⟨(lo_iload_tl _ _), ?_⟩
  refine List.forall_mem_cons.mpr ⟨(lo_if_tl _ _ _), ?_⟩
  refine List.forall_mem_cons.mpr ⟨lo_none_tl, ?_⟩
  refine List.forall_mem_cons.mpr ⟨lo_none_tl, ?_⟩
  refine List.forall_mem_cons.mpr ⟨(lo_aload_tl _ _), ?_⟩
  refine List.forall_mem_cons.mpr ⟨(lo_iload_tl _ _), ?_⟩
  refine List.forall_mem_cons.mpr ⟨(lo_callv_tl _ _ _ _), ?_⟩
  refine List.forall_mem_cons.mpr ⟨lo_none_tl, ?_⟩
  refine List.forall_mem_cons.mpr ⟨lo_none_tl, ?_⟩
  refine List.forall_mem_cons.mpr ⟨(lo_if_tl _ _ _), ?_⟩
  refine List.forall_mem_cons.mpr ⟨lo_none_tl, ?_⟩
  refine List.forall_mem_cons.mpr ⟨lo_none_tl, ?_⟩
  refine List.forall_mem_cons.mpr ⟨(lo_aload_tl _ _), ?_⟩
  refine List.forall_mem_cons.mpr ⟨(lo_aload_tl _ _), ?_⟩
  refine List.forall_mem_cons.mpr ⟨(lo_iload_tl _ _), ?_⟩
  refine List.forall_mem_cons.mpr ⟨(lo_callv_tl _ _ _ _), ?_⟩
  refine List.forall_mem_cons.mpr ⟨lo_none_tl, ?_⟩
  refine List.forall_mem_cons.mpr ⟨lo_none_tl, ?_⟩
  refine List.forall_mem_cons.mpr ⟨(lo_callv_tl _ _ _ _), ?_⟩
  refine List.forall_mem_cons.mpr ⟨lo_none_tl, ?_⟩
  refine List.forall_mem_cons.mpr ⟨lo_none_tl, ?_⟩
  refine List.forall_mem_cons.mpr ⟨(lo_pushI_tl _ _), ?_⟩
  refine List.forall_mem_cons.mpr ⟨(lo_icmp_tl _ _ _), ?_⟩
  refine List.forall_mem_cons.mpr ⟨lo_none_tl, ?_⟩
  refine List.forall_mem_cons.mpr ⟨lo_none_tl, ?_⟩
  refine List.forall_mem_cons.mpr ⟨(lo_aload_tl _ _), ?_⟩
  refine List.forall_mem_cons.mpr ⟨(lo_iload_tl _ _), ?_⟩
  refine List.forall_mem_cons.mpr ⟨(lo_callv_tl _ _ _ _), ?_⟩
  refine List.forall_mem_cons.mpr ⟨lo_none_tl, ?_⟩
  refine List.forall_mem_cons.mpr ⟨lo_none_tl, ?_⟩
  refine List.forall_mem_cons.mpr ⟨(lo_if_tl _ _ _), ?_⟩
  refine List.forall_mem_cons.mpr ⟨lo_none_tl, ?_⟩
  refine List.forall_mem_cons.mpr ⟨lo_none_tl, ?_⟩
  refine List.forall_mem_cons.mpr ⟨(lo_pushI_tl _ _), ?_⟩
  refine List.forall_mem_cons.mpr ⟨(lo_goto_tl _), ?_⟩
  refine List.forall_mem_cons.mpr ⟨lo_none_tl, ?_⟩
  refine List.forall_mem_cons.mpr ⟨lo_none_tl, ?_⟩
  refine List.forall_mem_cons.mpr ⟨(lo_pushI_tl _ _), ?_⟩
  refine List.forall_mem_cons.mpr ⟨(lo_istore_tl _ _), ?_⟩
  refine List.forall_mem_cons.mpr ⟨(lo_iinc_tl _ _ _), ?_⟩
  refine List.forall_mem_cons.mpr ⟨lo_none_tl, ?_⟩
  refine List.forall_mem_cons.mpr ⟨lo_none_tl, ?_⟩
  refine List.forall_mem_cons.mpr ⟨(lo_goto_tl _), ?_⟩
  refine List.forall_mem_cons.mpr ⟨lo_none_tl, ?_⟩
  refine List.forall_mem_cons.mpr ⟨lo_none_tl, ?_⟩
  refine List.forall_mem_cons.mpr ⟨(lo_iload_tl _ _), ?_⟩
  refine List.forall_mem_cons.mpr ⟨(lo_iret_tl _ _), ?_⟩
  exact fun _ h => absurd h List.not_mem_nil
noncomputable def fL_isAtRest : lzFn := lz_fn tL_isAtRest 9
set_option maxRecDepth 100000 in
set_option maxHeartbeats 4000000 in
theorem mm_L_isAtRest {l : Launch} {D : va_G} {cA : Nat → ClassId} {ad : Nat → Nat} {Ex : (Nat → Prop) → State → Heap → Prop} {sc : List Int32} (Wd : lzWd l D cA ad Ex sc) : lz_C l D zzCl cA ad zzSC Ex yL_isAtRest (Cond.code yL_isAtRest cL_isAtRest 9 (some .boolean)) 9 221 84 fL_isAtRest := by
  refine lz_meth (plainFor_of_name (by decide)) Wd.1.2.1 Wd.1.2.2.1 (fun p e R s m args below meth c rr X => ?_)
  unfold tL_isAtRest
  refine lz_cons (k' := 1) rfl (lk_iconst X dL_isAtRest_0 (by decide) rfl) ?_
  refine lz_cons (k' := 2) rfl (lk_istore_n X dL_isAtRest_1 rfl (by decide) rfl) ?_
  refine lz_cons (k' := 3) rfl (lk_iconst X dL_isAtRest_2 (by decide) rfl) ?_
  refine lz_cons (k' := 4) rfl (lk_istore_n X dL_isAtRest_3 rfl (by decide) rfl) ?_
  refine lz_cons (k' := 5) rfl (lk_iload_n X dL_isAtRest_4 rfl rfl) ?_
  refine lz_cons (k' := 6) rfl (lk_aload_n X dL_isAtRest_5 rfl rfl) ?_
  refine lz_cons (k' := 7) rfl (lk_callv X kc_155 (mm_X11_objects Wd.1) (by decide) dL_isAtRest_6 rfl) ?_
  refine lz_cons (k' := 8) rfl (lz_Ok_none _ _) ?_
  refine lz_cons (k' := 9) rfl (lz_Ok_none _ _) ?_
  refine lz_cons (k' := 10) rfl (lk_icmp_ge X dL_isAtRest_9 (by decide) rfl) ?_
  refine lz_cons (k' := 11) rfl (lz_Ok_none _ _) ?_
  refine lz_cons (k' := 12) rfl (lz_Ok_none _ _) ?_
  refine lz_cons (k' := 13) rfl (lk_iload_n X dL_isAtRest_12 rfl rfl) ?_
  refine lz_cons (k' := 14) rfl (lk_if_eq X dL_isAtRest_13 (by decide) rfl) ?_
  refine lz_cons (k' := 15) rfl (lz_Ok_none _ _) ?_
  refine lz_cons (k' := 16) rfl (lz_Ok_none _ _) ?_
  refine lz_cons (k' := 17) rfl (lk_aload_n X dL_isAtRest_16 rfl rfl) ?_
  refine lz_cons (k' := 18) rfl (lk_iload_n X dL_isAtRest_17 rfl rfl) ?_
  refine lz_cons (k' := 19) rfl (lk_callv X kc_83 (mm_X11_kindOf Wd.1) (by decide) dL_isAtRest_18 rfl) ?_
  refine lz_cons (k' := 20) rfl (lz_Ok_none _ _) ?_
  refine lz_cons (k' := 21) rfl (lz_Ok_none _ _) ?_
  refine lz_cons (k' := 22) rfl (lk_iconst X dL_isAtRest_21 (by decide) rfl) ?_
  refine lz_cons (k' := 23) rfl (lk_icmp_ne X dL_isAtRest_22 (by decide) rfl) ?_
  refine lz_cons (k' := 24) rfl (lz_Ok_none _ _) ?_
  refine lz_cons (k' := 25) rfl (lz_Ok_none _ _) ?_
  refine lz_cons (k' := 26) rfl (lk_aload_n X dL_isAtRest_25 rfl rfl) ?_
  refine lz_cons (k' := 27) rfl (lk_iload_n X dL_isAtRest_26 rfl rfl) ?_
  refine lz_cons (k' := 28) rfl (lk_callv X kc_98 (mm_X11_goingOf Wd.1) (by decide) dL_isAtRest_27 rfl) ?_
  refine lz_cons (k' := 29) rfl (lz_Ok_none _ _) ?_
  refine lz_cons (k' := 30) rfl (lz_Ok_none _ _) ?_
  refine lz_cons (k' := 31) rfl (lk_iconst X dL_isAtRest_30 (by decide) rfl) ?_
  refine lz_cons (k' := 32) rfl (lk_icmp_eq X dL_isAtRest_31 (by decide) rfl) ?_
  refine lz_cons (k' := 33) rfl (lz_Ok_none _ _) ?_
  refine lz_cons (k' := 34) rfl (lz_Ok_none _ _) ?_
  refine lz_cons (k' := 35) rfl (lk_aload_n X dL_isAtRest_34 rfl rfl) ?_
  refine lz_cons (k' := 36) rfl (lk_bipush X dL_isAtRest_35 (by decide) rfl) ?_
  refine lz_cons (k' := 37) rfl (lz_Ok_none _ _) ?_
  refine lz_cons (k' := 38) rfl (lk_iload_n X dL_isAtRest_37 rfl rfl) ?_
  refine lz_cons (k' := 39) rfl (lk_iconst X dL_isAtRest_38 (by decide) rfl) ?_
  refine lz_cons (k' := 40) rfl (lk_iconst X dL_isAtRest_39 (by decide) rfl) ?_
  refine lz_cons (k' := 41) rfl (lk_iconst X dL_isAtRest_40 (by decide) rfl) ?_
  refine lz_cons (k' := 42) rfl (lk_iconst X dL_isAtRest_41 (by decide) rfl) ?_
  refine lz_cons (k' := 43) rfl (lk_iconst X dL_isAtRest_42 (by decide) rfl) ?_
  refine lz_cons (k' := 44) rfl (lk_calls X kl_168 (mm_L_act Wd) (by decide) dL_isAtRest_43 rfl) ?_
  refine lz_cons (k' := 45) rfl (lz_Ok_none _ _) ?_
  refine lz_cons (k' := 46) rfl (lz_Ok_none _ _) ?_
  refine lz_cons (k' := 47) rfl (lk_if_lt X dL_isAtRest_46 (by decide) rfl) ?_
  refine lz_cons (k' := 48) rfl (lz_Ok_none _ _) ?_
  refine lz_cons (k' := 49) rfl (lz_Ok_none _ _) ?_
  refine lz_cons (k' := 50) rfl (lk_iconst X dL_isAtRest_49 (by decide) rfl) ?_
  refine lz_cons (k' := 51) rfl (lk_goto X dL_isAtRest_50 (by decide)) ?_
  refine lz_cons (k' := 52) rfl (lz_Ok_none _ _) ?_
  refine lz_cons (k' := 53) rfl (lz_Ok_none _ _) ?_
  refine lz_cons (k' := 54) rfl (lk_iconst X dL_isAtRest_53 (by decide) rfl) ?_
  refine lz_cons (k' := 55) rfl (lk_istore_n X dL_isAtRest_54 rfl (by decide) rfl) ?_
  refine lz_cons (k' := 56) rfl (lk_iinc X dL_isAtRest_55 (by decide) (by decide) rfl) ?_
  refine lz_cons (k' := 57) rfl (lz_Ok_none _ _) ?_
  refine lz_cons (k' := 58) rfl (lz_Ok_none _ _) ?_
  refine lz_cons (k' := 59) rfl (lk_goto X dL_isAtRest_58 (by decide)) ?_
  refine lz_cons (k' := 60) rfl (lz_Ok_none _ _) ?_
  refine lz_cons (k' := 61) rfl (lz_Ok_none _ _) ?_
  refine lz_cons (k' := 62) rfl (lk_iconst X dL_isAtRest_61 (by decide) rfl) ?_
  refine lz_cons (k' := 63) rfl (lk_istore_n X dL_isAtRest_62 rfl (by decide) rfl) ?_
  refine lz_cons (k' := 64) rfl (lk_iconst X dL_isAtRest_63 (by decide) rfl) ?_
  refine lz_cons (k' := 65) rfl (lk_istore_n X dL_isAtRest_64 rfl (by decide) rfl) ?_
  refine lz_cons (k' := 66) rfl (lk_iload_n X dL_isAtRest_65 rfl rfl) ?_
  refine lz_cons (k' := 67) rfl (lk_bipush X dL_isAtRest_66 (by decide) rfl) ?_
  refine lz_cons (k' := 68) rfl (lz_Ok_none _ _) ?_
  refine lz_cons (k' := 69) rfl (lk_icmp_ge X dL_isAtRest_68 (by decide) rfl) ?_
  refine lz_cons (k' := 70) rfl (lz_Ok_none _ _) ?_
  refine lz_cons (k' := 71) rfl (lz_Ok_none _ _) ?_
  refine lz_cons (k' := 72) rfl (lk_iload_n X dL_isAtRest_71 rfl rfl) ?_
  refine lz_cons (k' := 73) rfl (lk_if_eq X dL_isAtRest_72 (by decide) rfl) ?_
  refine lz_cons (k' := 74) rfl (lz_Ok_none _ _) ?_
  refine lz_cons (k' := 75) rfl (lz_Ok_none _ _) ?_
  refine lz_cons (k' := 76) rfl (lk_iload_n X dL_isAtRest_75 rfl rfl) ?_
  refine lz_cons (k' := 77) rfl (lk_aload_n X dL_isAtRest_76 rfl rfl) ?_
  refine lz_cons (k' := 78) rfl (lk_callv X kc_151 (mm_X11_version Wd.1) (by decide) dL_isAtRest_77 rfl) ?_
  refine lz_cons (k' := 79) rfl (lz_Ok_none _ _) ?_
  refine lz_cons (k' := 80) rfl (lz_Ok_none _ _) ?_
  refine lz_cons (k' := 81) rfl (lk_icmp_eq X dL_isAtRest_80 (by decide) rfl) ?_
  refine lz_cons (k' := 82) rfl (lz_Ok_none _ _) ?_
  refine lz_cons (k' := 83) rfl (lz_Ok_none _ _) ?_
  refine lz_cons (k' := 84) rfl (lk_aload_n X dL_isAtRest_83 rfl rfl) ?_
  refine lz_cons (k' := 85) rfl (lk_callv X kc_151 (mm_X11_version Wd.1) (by decide) dL_isAtRest_84 rfl) ?_
  refine lz_cons (k' := 86) rfl (lz_Ok_none _ _) ?_
  refine lz_cons (k' := 87) rfl (lz_Ok_none _ _) ?_
  refine lz_cons (k' := 88) rfl (lk_sipush X dL_isAtRest_87 (by decide) rfl) ?_
  refine lz_cons (k' := 89) rfl (lz_Ok_none _ _) ?_
  refine lz_cons (k' := 90) rfl (lz_Ok_none _ _) ?_
  refine lz_cons (k' := 91) rfl (lk_icmp_ge X dL_isAtRest_90 (by decide) rfl) ?_
  refine lz_cons (k' := 92) rfl (lz_Ok_none _ _) ?_
  refine lz_cons (k' := 93) rfl (lz_Ok_none _ _) ?_
  refine lz_cons (k' := 94) rfl (lk_aload_n X dL_isAtRest_93 rfl rfl) ?_
  refine lz_cons (k' := 95) rfl (lk_callv X kc_151 (mm_X11_version Wd.1) (by decide) dL_isAtRest_94 rfl) ?_
  refine lz_cons (k' := 96) rfl (lz_Ok_none _ _) ?_
  refine lz_cons (k' := 97) rfl (lz_Ok_none _ _) ?_
  refine lz_cons (k' := 98) rfl (lk_istore_n X dL_isAtRest_97 rfl (by decide) rfl) ?_
  refine lz_cons (k' := 99) rfl (lk_aload_n X dL_isAtRest_98 rfl rfl) ?_
  refine lz_cons (k' := 100) rfl (lk_bipush X dL_isAtRest_99 (by decide) rfl) ?_
  refine lz_cons (k' := 101) rfl (lz_Ok_none _ _) ?_
  refine lz_cons (k' := 102) rfl (lk_iconst X dL_isAtRest_101 (by decide) rfl) ?_
  refine lz_cons (k' := 103) rfl (lk_iconst X dL_isAtRest_102 (by decide) rfl) ?_
  refine lz_cons (k' := 104) rfl (lk_iconst X dL_isAtRest_103 (by decide) rfl) ?_
  refine lz_cons (k' := 105) rfl (lk_iconst X dL_isAtRest_104 (by decide) rfl) ?_
  refine lz_cons (k' := 106) rfl (lk_iconst X dL_isAtRest_105 (by decide) rfl) ?_
  refine lz_cons (k' := 107) rfl (lk_iconst X dL_isAtRest_106 (by decide) rfl) ?_
  refine lz_cons (k' := 108) rfl (lk_calls X kl_168 (mm_L_act Wd) (by decide) dL_isAtRest_107 rfl) ?_
  refine lz_cons (k' := 109) rfl (lz_Ok_none _ _) ?_
  refine lz_cons (k' := 110) rfl (lz_Ok_none _ _) ?_
  refine lz_cons (k' := 111) rfl (lk_aload_n X dL_isAtRest_110 rfl rfl) ?_
  refine lz_cons (k' := 112) rfl (lk_callv X kc_151 (mm_X11_version Wd.1) (by decide) dL_isAtRest_111 rfl) ?_
  refine lz_cons (k' := 113) rfl (lz_Ok_none _ _) ?_
  refine lz_cons (k' := 114) rfl (lz_Ok_none _ _) ?_
  refine lz_cons (k' := 115) rfl (lk_iload_n X dL_isAtRest_114 rfl rfl) ?_
  refine lz_cons (k' := 116) rfl (lk_isub X dL_isAtRest_115 rfl) ?_
  refine lz_cons (k' := 117) rfl (lk_icmp_ne X dL_isAtRest_116 (by decide) rfl) ?_
  refine lz_cons (k' := 118) rfl (lz_Ok_none _ _) ?_
  refine lz_cons (k' := 119) rfl (lz_Ok_none _ _) ?_
  refine lz_cons (k' := 120) rfl (lk_aload_n X dL_isAtRest_119 rfl rfl) ?_
  refine lz_cons (k' := 121) rfl (lk_bipush X dL_isAtRest_120 (by decide) rfl) ?_
  refine lz_cons (k' := 122) rfl (lz_Ok_none _ _) ?_
  refine lz_cons (k' := 123) rfl (lk_iconst X dL_isAtRest_122 (by decide) rfl) ?_
  refine lz_cons (k' := 124) rfl (lk_iconst X dL_isAtRest_123 (by decide) rfl) ?_
  refine lz_cons (k' := 125) rfl (lk_iconst X dL_isAtRest_124 (by decide) rfl) ?_
  refine lz_cons (k' := 126) rfl (lk_iconst X dL_isAtRest_125 (by decide) rfl) ?_
  refine lz_cons (k' := 127) rfl (lk_iconst X dL_isAtRest_126 (by decide) rfl) ?_
  refine lz_cons (k' := 128) rfl (lk_iconst X dL_isAtRest_127 (by decide) rfl) ?_
  refine lz_cons (k' := 129) rfl (lk_calls X kl_168 (mm_L_act Wd) (by decide) dL_isAtRest_128 rfl) ?_
  refine lz_cons (k' := 130) rfl (lz_Ok_none _ _) ?_
  refine lz_cons (k' := 131) rfl (lz_Ok_none _ _) ?_
  refine lz_cons (k' := 132) rfl (lk_if_le X dL_isAtRest_131 (by decide) rfl) ?_
  refine lz_cons (k' := 133) rfl (lz_Ok_none _ _) ?_
  refine lz_cons (k' := 134) rfl (lz_Ok_none _ _) ?_
  refine lz_cons (k' := 135) rfl (lk_iconst X dL_isAtRest_134 (by decide) rfl) ?_
  refine lz_cons (k' := 136) rfl (lk_goto X dL_isAtRest_135 (by decide)) ?_
  refine lz_cons (k' := 137) rfl (lz_Ok_none _ _) ?_
  refine lz_cons (k' := 138) rfl (lz_Ok_none _ _) ?_
  refine lz_cons (k' := 139) rfl (lk_iconst X dL_isAtRest_138 (by decide) rfl) ?_
  refine lz_cons (k' := 140) rfl (lk_istore_n X dL_isAtRest_139 rfl (by decide) rfl) ?_
  refine lz_cons (k' := 141) rfl (lk_iinc X dL_isAtRest_140 (by decide) (by decide) rfl) ?_
  refine lz_cons (k' := 142) rfl (lz_Ok_none _ _) ?_
  refine lz_cons (k' := 143) rfl (lz_Ok_none _ _) ?_
  refine lz_cons (k' := 144) rfl (lk_goto X dL_isAtRest_143 (by decide)) ?_
  refine lz_cons (k' := 145) rfl (lz_Ok_none _ _) ?_
  refine lz_cons (k' := 146) rfl (lz_Ok_none _ _) ?_
  refine lz_cons (k' := 147) rfl (lk_iload_n X dL_isAtRest_146 rfl rfl) ?_
  refine lz_cons (k' := 148) rfl (lk_if_eq X dL_isAtRest_147 (by decide) rfl) ?_
  refine lz_cons (k' := 149) rfl (lz_Ok_none _ _) ?_
  refine lz_cons (k' := 150) rfl (lz_Ok_none _ _) ?_
  refine lz_cons (k' := 151) rfl (lk_iload_n X dL_isAtRest_150 rfl rfl) ?_
  refine lz_cons (k' := 152) rfl (lk_aload_n X dL_isAtRest_151 rfl rfl) ?_
  refine lz_cons (k' := 153) rfl (lk_callv X kc_151 (mm_X11_version Wd.1) (by decide) dL_isAtRest_152 rfl) ?_
  refine lz_cons (k' := 154) rfl (lz_Ok_none _ _) ?_
  refine lz_cons (k' := 155) rfl (lz_Ok_none _ _) ?_
  refine lz_cons (k' := 156) rfl (lk_icmp_ne X dL_isAtRest_155 (by decide) rfl) ?_
  refine lz_cons (k' := 157) rfl (lz_Ok_none _ _) ?_
  refine lz_cons (k' := 158) rfl (lz_Ok_none _ _) ?_
  refine lz_cons (k' := 159) rfl (lk_aload_n X dL_isAtRest_158 rfl rfl) ?_
  refine lz_cons (k' := 160) rfl (lk_callv X kc_164 (mm_X11_isSettled Wd.1) (by decide) dL_isAtRest_159 rfl) ?_
  refine lz_cons (k' := 161) rfl (lz_Ok_none _ _) ?_
  refine lz_cons (k' := 162) rfl (lz_Ok_none _ _) ?_
  refine lz_cons (k' := 163) rfl (lk_if_ne X dL_isAtRest_162 (by decide) rfl) ?_
  refine lz_cons (k' := 164) rfl (lz_Ok_none _ _) ?_
  refine lz_cons (k' := 165) rfl (lz_Ok_none _ _) ?_
  refine lz_cons (k' := 166) rfl (lk_iload_n X dL_isAtRest_165 rfl rfl) ?_
  refine lz_cons (k' := 167) rfl (lk_iret X rfl dL_isAtRest_166) ?_
  refine lz_cons (k' := 168) rfl (lk_iconst X dL_isAtRest_167 (by decide) rfl) ?_
  refine lz_cons (k' := 169) rfl (lk_istore_n X dL_isAtRest_168 rfl (by decide) rfl) ?_
  refine lz_cons (k' := 170) rfl (lk_iload_n X dL_isAtRest_169 rfl rfl) ?_
  refine lz_cons (k' := 171) rfl (lk_aload_n X dL_isAtRest_170 rfl rfl) ?_
  refine lz_cons (k' := 172) rfl (lk_callv X kc_155 (mm_X11_objects Wd.1) (by decide) dL_isAtRest_171 rfl) ?_
  refine lz_cons (k' := 173) rfl (lz_Ok_none _ _) ?_
  refine lz_cons (k' := 174) rfl (lz_Ok_none _ _) ?_
  refine lz_cons (k' := 175) rfl (lk_icmp_ge X dL_isAtRest_174 (by decide) rfl) ?_
  refine lz_cons (k' := 176) rfl (lz_Ok_none _ _) ?_
  refine lz_cons (k' := 177) rfl (lz_Ok_none _ _) ?_
  refine lz_cons (k' := 178) rfl (lk_iload_n X dL_isAtRest_177 rfl rfl) ?_
  refine lz_cons (k' := 179) rfl (lk_if_eq X dL_isAtRest_178 (by decide) rfl) ?_
  refine lz_cons (k' := 180) rfl (lz_Ok_none _ _) ?_
  refine lz_cons (k' := 181) rfl (lz_Ok_none _ _) ?_
  refine lz_cons (k' := 182) rfl (lk_aload_n X dL_isAtRest_181 rfl rfl) ?_
  refine lz_cons (k' := 183) rfl (lk_iload_n X dL_isAtRest_182 rfl rfl) ?_
  refine lz_cons (k' := 184) rfl (lk_callv X kc_83 (mm_X11_kindOf Wd.1) (by decide) dL_isAtRest_183 rfl) ?_
  refine lz_cons (k' := 185) rfl (lz_Ok_none _ _) ?_
  refine lz_cons (k' := 186) rfl (lz_Ok_none _ _) ?_
  refine lz_cons (k' := 187) rfl (lk_istore X dL_isAtRest_186 (by decide) rfl) ?_
  refine lz_cons (k' := 188) rfl (lz_Ok_none _ _) ?_
  refine lz_cons (k' := 189) rfl (lk_iconst X dL_isAtRest_188 (by decide) rfl) ?_
  refine lz_cons (k' := 190) rfl (lk_istore X dL_isAtRest_189 (by decide) rfl) ?_
  refine lz_cons (k' := 191) rfl (lz_Ok_none _ _) ?_
  refine lz_cons (k' := 192) rfl (lk_iconst X dL_isAtRest_191 (by decide) rfl) ?_
  refine lz_cons (k' := 193) rfl (lk_istore X dL_isAtRest_192 (by decide) rfl) ?_
  refine lz_cons (k' := 194) rfl (lz_Ok_none _ _) ?_
  refine lz_cons (k' := 195) rfl (lk_iconst X dL_isAtRest_194 (by decide) rfl) ?_
  refine lz_cons (k' := 196) rfl (lk_istore X dL_isAtRest_195 (by decide) rfl) ?_
  refine lz_cons (k' := 197) rfl (lz_Ok_none _ _) ?_
  refine lz_cons (k' := 198) rfl (lk_iload X dL_isAtRest_197 rfl) ?_
  refine lz_cons (k' := 199) rfl (lz_Ok_none _ _) ?_
  refine lz_cons (k' := 200) rfl (lk_aload_n X dL_isAtRest_199 rfl rfl) ?_
  refine lz_cons (k' := 201) rfl (lk_callv X kc_155 (mm_X11_objects Wd.1) (by decide) dL_isAtRest_200 rfl) ?_
  refine lz_cons (k' := 202) rfl (lz_Ok_none _ _) ?_
  refine lz_cons (k' := 203) rfl (lz_Ok_none _ _) ?_
  refine lz_cons (k' := 204) rfl (lk_icmp_ge X dL_isAtRest_203 (by decide) rfl) ?_
  refine lz_cons (k' := 205) rfl (lz_Ok_none _ _) ?_
  refine lz_cons (k' := 206) rfl (lz_Ok_none _ _) ?_
  refine lz_cons (k' := 207) rfl (lk_aload_n X dL_isAtRest_206 rfl rfl) ?_
  refine lz_cons (k' := 208) rfl (lk_iload X dL_isAtRest_207 rfl) ?_
  refine lz_cons (k' := 209) rfl (lz_Ok_none _ _) ?_
  refine lz_cons (k' := 210) rfl (lk_callv X kc_83 (mm_X11_kindOf Wd.1) (by decide) dL_isAtRest_209 rfl) ?_
  refine lz_cons (k' := 211) rfl (lz_Ok_none _ _) ?_
  refine lz_cons (k' := 212) rfl (lz_Ok_none _ _) ?_
  refine lz_cons (k' := 213) rfl (lk_iconst X dL_isAtRest_212 (by decide) rfl) ?_
  refine lz_cons (k' := 214) rfl (lk_icmp_ne X dL_isAtRest_213 (by decide) rfl) ?_
  refine lz_cons (k' := 215) rfl (lz_Ok_none _ _) ?_
  refine lz_cons (k' := 216) rfl (lz_Ok_none _ _) ?_
  refine lz_cons (k' := 217) rfl (lk_aload_n X dL_isAtRest_216 rfl rfl) ?_
  refine lz_cons (k' := 218) rfl (lk_iload X dL_isAtRest_217 rfl) ?_
  refine lz_cons (k' := 219) rfl (lz_Ok_none _ _) ?_
  refine lz_cons (k' := 220) rfl (lk_callv X kc_98 (mm_X11_goingOf Wd.1) (by decide) dL_isAtRest_219 rfl) ?_
  refine lz_cons (k' := 221) rfl (lz_Ok_none _ _) ?_
  refine lz_cons (k' := 222) rfl (lz_Ok_none _ _) ?_
  refine lz_cons (k' := 223) rfl (lk_if_ne X dL_isAtRest_222 (by decide) rfl) ?_
  refine lz_cons (k' := 224) rfl (lz_Ok_none _ _) ?_
  refine lz_cons (k' := 225) rfl (lz_Ok_none _ _) ?_
  refine lz_cons (k' := 226) rfl (lk_iconst X dL_isAtRest_225 (by decide) rfl) ?_
  refine lz_cons (k' := 227) rfl (lk_goto X dL_isAtRest_226 (by decide)) ?_
  refine lz_cons (k' := 228) rfl (lz_Ok_none _ _) ?_
  refine lz_cons (k' := 229) rfl (lz_Ok_none _ _) ?_
  refine lz_cons (k' := 230) rfl (lk_iconst X dL_isAtRest_229 (by decide) rfl) ?_
  refine lz_cons (k' := 231) rfl (lk_istore X dL_isAtRest_230 (by decide) rfl) ?_
  refine lz_cons (k' := 232) rfl (lz_Ok_none _ _) ?_
  refine lz_cons (k' := 233) rfl (lk_iload X dL_isAtRest_232 rfl) ?_
  refine lz_cons (k' := 234) rfl (lz_Ok_none _ _) ?_
  refine lz_cons (k' := 235) rfl (lk_iload X dL_isAtRest_234 rfl) ?_
  refine lz_cons (k' := 236) rfl (lz_Ok_none _ _) ?_
  refine lz_cons (k' := 237) rfl (lk_if_eq X dL_isAtRest_236 (by decide) rfl) ?_
  refine lz_cons (k' := 238) rfl (lz_Ok_none _ _) ?_
  refine lz_cons (k' := 239) rfl (lz_Ok_none _ _) ?_
  refine lz_cons (k' := 240) rfl (lk_aload_n X dL_isAtRest_239 rfl rfl) ?_
  refine lz_cons (k' := 241) rfl (lk_iload X dL_isAtRest_240 rfl) ?_
  refine lz_cons (k' := 242) rfl (lz_Ok_none _ _) ?_
  refine lz_cons (k' := 243) rfl (lk_callv X kc_101 (mm_X11_ownerOf Wd.1) (by decide) dL_isAtRest_242 rfl) ?_
  refine lz_cons (k' := 244) rfl (lz_Ok_none _ _) ?_
  refine lz_cons (k' := 245) rfl (lz_Ok_none _ _) ?_
  refine lz_cons (k' := 246) rfl (lk_iload_n X dL_isAtRest_245 rfl rfl) ?_
  refine lz_cons (k' := 247) rfl (lk_icmp_ne X dL_isAtRest_246 (by decide) rfl) ?_
  refine lz_cons (k' := 248) rfl (lz_Ok_none _ _) ?_
  refine lz_cons (k' := 249) rfl (lz_Ok_none _ _) ?_
  refine lz_cons (k' := 250) rfl (lk_iconst X dL_isAtRest_249 (by decide) rfl) ?_
  refine lz_cons (k' := 251) rfl (lk_goto X dL_isAtRest_250 (by decide)) ?_
  refine lz_cons (k' := 252) rfl (lz_Ok_none _ _) ?_
  refine lz_cons (k' := 253) rfl (lz_Ok_none _ _) ?_
  refine lz_cons (k' := 254) rfl (lk_iconst X dL_isAtRest_253 (by decide) rfl) ?_
  refine lz_cons (k' := 255) rfl (lk_iadd X dL_isAtRest_254 rfl) ?_
  refine lz_cons (k' := 256) rfl (lk_istore X dL_isAtRest_255 (by decide) rfl) ?_
  refine lz_cons (k' := 257) rfl (lz_Ok_none _ _) ?_
  refine lz_cons (k' := 258) rfl (lk_iload X dL_isAtRest_257 rfl) ?_
  refine lz_cons (k' := 259) rfl (lz_Ok_none _ _) ?_
  refine lz_cons (k' := 260) rfl (lk_iload X dL_isAtRest_259 rfl) ?_
  refine lz_cons (k' := 261) rfl (lz_Ok_none _ _) ?_
  refine lz_cons (k' := 262) rfl (lk_if_eq X dL_isAtRest_261 (by decide) rfl) ?_
  refine lz_cons (k' := 263) rfl (lz_Ok_none _ _) ?_
  refine lz_cons (k' := 264) rfl (lz_Ok_none _ _) ?_
  refine lz_cons (k' := 265) rfl (lk_aload_n X dL_isAtRest_264 rfl rfl) ?_
  refine lz_cons (k' := 266) rfl (lk_iload X dL_isAtRest_265 rfl) ?_
  refine lz_cons (k' := 267) rfl (lz_Ok_none _ _) ?_
  refine lz_cons (k' := 268) rfl (lk_callv X kc_101 (mm_X11_ownerOf Wd.1) (by decide) dL_isAtRest_267 rfl) ?_
  refine lz_cons (k' := 269) rfl (lz_Ok_none _ _) ?_
  refine lz_cons (k' := 270) rfl (lz_Ok_none _ _) ?_
  refine lz_cons (k' := 271) rfl (lk_iload_n X dL_isAtRest_270 rfl rfl) ?_
  refine lz_cons (k' := 272) rfl (lk_icmp_ne X dL_isAtRest_271 (by decide) rfl) ?_
  refine lz_cons (k' := 273) rfl (lz_Ok_none _ _) ?_
  refine lz_cons (k' := 274) rfl (lz_Ok_none _ _) ?_
  refine lz_cons (k' := 275) rfl (lk_aload_n X dL_isAtRest_274 rfl rfl) ?_
  refine lz_cons (k' := 276) rfl (lk_iload X dL_isAtRest_275 rfl) ?_
  refine lz_cons (k' := 277) rfl (lz_Ok_none _ _) ?_
  refine lz_cons (k' := 278) rfl (lk_callv X kc_104 (mm_X11_phaseOf Wd.1) (by decide) dL_isAtRest_277 rfl) ?_
  refine lz_cons (k' := 279) rfl (lz_Ok_none _ _) ?_
  refine lz_cons (k' := 280) rfl (lz_Ok_none _ _) ?_
  refine lz_cons (k' := 281) rfl (lk_iconst X dL_isAtRest_280 (by decide) rfl) ?_
  refine lz_cons (k' := 282) rfl (lk_icmp_ge X dL_isAtRest_281 (by decide) rfl) ?_
  refine lz_cons (k' := 283) rfl (lz_Ok_none _ _) ?_
  refine lz_cons (k' := 284) rfl (lz_Ok_none _ _) ?_
  refine lz_cons (k' := 285) rfl (lk_iconst X dL_isAtRest_284 (by decide) rfl) ?_
  refine lz_cons (k' := 286) rfl (lk_goto X dL_isAtRest_285 (by decide)) ?_
  refine lz_cons (k' := 287) rfl (lz_Ok_none _ _) ?_
  refine lz_cons (k' := 288) rfl (lz_Ok_none _ _) ?_
  refine lz_cons (k' := 289) rfl (lk_iconst X dL_isAtRest_288 (by decide) rfl) ?_
  refine lz_cons (k' := 290) rfl (lk_iadd X dL_isAtRest_289 rfl) ?_
  refine lz_cons (k' := 291) rfl (lk_istore X dL_isAtRest_290 (by decide) rfl) ?_
  refine lz_cons (k' := 292) rfl (lz_Ok_none _ _) ?_
  refine lz_cons (k' := 293) rfl (lk_iload_n X dL_isAtRest_292 rfl rfl) ?_
  refine lz_cons (k' := 294) rfl (lk_if_eq X dL_isAtRest_293 (by decide) rfl) ?_
  refine lz_cons (k' := 295) rfl (lz_Ok_none _ _) ?_
  refine lz_cons (k' := 296) rfl (lz_Ok_none _ _) ?_
  refine lz_cons (k' := 297) rfl (lk_iload X dL_isAtRest_296 rfl) ?_
  refine lz_cons (k' := 298) rfl (lz_Ok_none _ _) ?_
  refine lz_cons (k' := 299) rfl (lk_iconst X dL_isAtRest_298 (by decide) rfl) ?_
  refine lz_cons (k' := 300) rfl (lk_icmp_ne X dL_isAtRest_299 (by decide) rfl) ?_
  refine lz_cons (k' := 301) rfl (lz_Ok_none _ _) ?_
  refine lz_cons (k' := 302) rfl (lz_Ok_none _ _) ?_
  refine lz_cons (k' := 303) rfl (lk_aload_n X dL_isAtRest_302 rfl rfl) ?_
  refine lz_cons (k' := 304) rfl (lk_iload_n X dL_isAtRest_303 rfl rfl) ?_
  refine lz_cons (k' := 305) rfl (lk_callv X kc_98 (mm_X11_goingOf Wd.1) (by decide) dL_isAtRest_304 rfl) ?_
  refine lz_cons (k' := 306) rfl (lz_Ok_none _ _) ?_
  refine lz_cons (k' := 307) rfl (lz_Ok_none _ _) ?_
  refine lz_cons (k' := 308) rfl (lk_if_gt X dL_isAtRest_307 (by decide) rfl) ?_
  refine lz_cons (k' := 309) rfl (lz_Ok_none _ _) ?_
  refine lz_cons (k' := 310) rfl (lz_Ok_none _ _) ?_
  refine lz_cons (k' := 311) rfl (lk_aload_n X dL_isAtRest_310 rfl rfl) ?_
  refine lz_cons (k' := 312) rfl (lk_iload_n X dL_isAtRest_311 rfl rfl) ?_
  refine lz_cons (k' := 313) rfl (lk_iload X dL_isAtRest_312 rfl) ?_
  refine lz_cons (k' := 314) rfl (lz_Ok_none _ _) ?_
  refine lz_cons (k' := 315) rfl (lk_callv X kc_113 (mm_X11_isBehind Wd.1) (by decide) dL_isAtRest_314 rfl) ?_
  refine lz_cons (k' := 316) rfl (lz_Ok_none _ _) ?_
  refine lz_cons (k' := 317) rfl (lz_Ok_none _ _) ?_
  refine lz_cons (k' := 318) rfl (lk_iload X dL_isAtRest_317 rfl) ?_
  refine lz_cons (k' := 319) rfl (lz_Ok_none _ _) ?_
  refine lz_cons (k' := 320) rfl (lk_if_eq X dL_isAtRest_319 (by decide) rfl) ?_
  refine lz_cons (k' := 321) rfl (lz_Ok_none _ _) ?_
  refine lz_cons (k' := 322) rfl (lz_Ok_none _ _) ?_
  refine lz_cons (k' := 323) rfl (lk_aload_n X dL_isAtRest_322 rfl rfl) ?_
  refine lz_cons (k' := 324) rfl (lk_iload X dL_isAtRest_323 rfl) ?_
  refine lz_cons (k' := 325) rfl (lz_Ok_none _ _) ?_
  refine lz_cons (k' := 326) rfl (lk_callv X kc_104 (mm_X11_phaseOf Wd.1) (by decide) dL_isAtRest_325 rfl) ?_
  refine lz_cons (k' := 327) rfl (lz_Ok_none _ _) ?_
  refine lz_cons (k' := 328) rfl (lz_Ok_none _ _) ?_
  refine lz_cons (k' := 329) rfl (lk_iconst X dL_isAtRest_328 (by decide) rfl) ?_
  refine lz_cons (k' := 330) rfl (lk_icmp_ne X dL_isAtRest_329 (by decide) rfl) ?_
  refine lz_cons (k' := 331) rfl (lz_Ok_none _ _) ?_
  refine lz_cons (k' := 332) rfl (lz_Ok_none _ _) ?_
  refine lz_cons (k' := 333) rfl (lk_aload_n X dL_isAtRest_332 rfl rfl) ?_
  refine lz_cons (k' := 334) rfl (lk_iload X dL_isAtRest_333 rfl) ?_
  refine lz_cons (k' := 335) rfl (lz_Ok_none _ _) ?_
  refine lz_cons (k' := 336) rfl (lk_iconst X dL_isAtRest_335 (by decide) rfl) ?_
  refine lz_cons (k' := 337) rfl (lk_callv X kc_86 (mm_X11_field Wd.1) (by decide) dL_isAtRest_336 rfl) ?_
  refine lz_cons (k' := 338) rfl (lz_Ok_none _ _) ?_
  refine lz_cons (k' := 339) rfl (lz_Ok_none _ _) ?_
  refine lz_cons (k' := 340) rfl (lk_aload_n X dL_isAtRest_339 rfl rfl) ?_
  refine lz_cons (k' := 341) rfl (lk_iload_n X dL_isAtRest_340 rfl rfl) ?_
  refine lz_cons (k' := 342) rfl (lk_iconst X dL_isAtRest_341 (by decide) rfl) ?_
  refine lz_cons (k' := 343) rfl (lk_callv X kc_86 (mm_X11_field Wd.1) (by decide) dL_isAtRest_342 rfl) ?_
  refine lz_cons (k' := 344) rfl (lz_Ok_none _ _) ?_
  refine lz_cons (k' := 345) rfl (lz_Ok_none _ _) ?_
  refine lz_cons (k' := 346) rfl (lk_icmp_ne X dL_isAtRest_345 (by decide) rfl) ?_
  refine lz_cons (k' := 347) rfl (lz_Ok_none _ _) ?_
  refine lz_cons (k' := 348) rfl (lz_Ok_none _ _) ?_
  refine lz_cons (k' := 349) rfl (lk_iconst X dL_isAtRest_348 (by decide) rfl) ?_
  refine lz_cons (k' := 350) rfl (lk_goto X dL_isAtRest_349 (by decide)) ?_
  refine lz_cons (k' := 351) rfl (lz_Ok_none _ _) ?_
  refine lz_cons (k' := 352) rfl (lz_Ok_none _ _) ?_
  refine lz_cons (k' := 353) rfl (lk_iconst X dL_isAtRest_352 (by decide) rfl) ?_
  refine lz_cons (k' := 354) rfl (lk_icmp_ne X dL_isAtRest_353 (by decide) rfl) ?_
  refine lz_cons (k' := 355) rfl (lz_Ok_none _ _) ?_
  refine lz_cons (k' := 356) rfl (lz_Ok_none _ _) ?_
  refine lz_cons (k' := 357) rfl (lk_iconst X dL_isAtRest_356 (by decide) rfl) ?_
  refine lz_cons (k' := 358) rfl (lk_goto X dL_isAtRest_357 (by decide)) ?_
  refine lz_cons (k' := 359) rfl (lz_Ok_none _ _) ?_
  refine lz_cons (k' := 360) rfl (lz_Ok_none _ _) ?_
  refine lz_cons (k' := 361) rfl (lk_iconst X dL_isAtRest_360 (by decide) rfl) ?_
  refine lz_cons (k' := 362) rfl (lk_istore_n X dL_isAtRest_361 rfl (by decide) rfl) ?_
  refine lz_cons (k' := 363) rfl (lk_iinc X dL_isAtRest_362 (by decide) (by decide) rfl) ?_
  refine lz_cons (k' := 364) rfl (lz_Ok_none _ _) ?_
  refine lz_cons (k' := 365) rfl (lz_Ok_none _ _) ?_
  refine lz_cons (k' := 366) rfl (lk_goto X dL_isAtRest_365 (by decide)) ?_
  refine lz_cons (k' := 367) rfl (lz_Ok_none _ _) ?_
  refine lz_cons (k' := 368) rfl (lz_Ok_none _ _) ?_
  refine lz_cons (k' := 369) rfl (lk_aload_n X dL_isAtRest_368 rfl rfl) ?_
  refine lz_cons (k' := 370) rfl (lk_iload_n X dL_isAtRest_369 rfl rfl) ?_
  refine lz_cons (k' := 371) rfl (lk_callv X kc_98 (mm_X11_goingOf Wd.1) (by decide) dL_isAtRest_370 rfl) ?_
  refine lz_cons (k' := 372) rfl (lz_Ok_none _ _) ?_
  refine lz_cons (k' := 373) rfl (lz_Ok_none _ _) ?_
  refine lz_cons (k' := 374) rfl (lk_if_ne X dL_isAtRest_373 (by decide) rfl) ?_
  refine lz_cons (k' := 375) rfl (lz_Ok_none _ _) ?_
  refine lz_cons (k' := 376) rfl (lz_Ok_none _ _) ?_
  refine lz_cons (k' := 377) rfl (lk_iconst X dL_isAtRest_376 (by decide) rfl) ?_
  refine lz_cons (k' := 378) rfl (lk_goto X dL_isAtRest_377 (by decide)) ?_
  refine lz_cons (k' := 379) rfl (lz_Ok_none _ _) ?_
  refine lz_cons (k' := 380) rfl (lz_Ok_none _ _) ?_
  refine lz_cons (k' := 381) rfl (lk_iconst X dL_isAtRest_380 (by decide) rfl) ?_
  refine lz_cons (k' := 382) rfl (lk_istore X dL_isAtRest_381 (by decide) rfl) ?_
  refine lz_cons (k' := 383) rfl (lz_Ok_none _ _) ?_
  refine lz_cons (k' := 384) rfl (lk_iload_n X dL_isAtRest_383 rfl rfl) ?_
  refine lz_cons (k' := 385) rfl (lk_if_eq X dL_isAtRest_384 (by decide) rfl) ?_
  refine lz_cons (k' := 386) rfl (lz_Ok_none _ _) ?_
  refine lz_cons (k' := 387) rfl (lz_Ok_none _ _) ?_
  refine lz_cons (k' := 388) rfl (lk_iload X dL_isAtRest_387 rfl) ?_
  refine lz_cons (k' := 389) rfl (lz_Ok_none _ _) ?_
  refine lz_cons (k' := 390) rfl (lk_iconst X dL_isAtRest_389 (by decide) rfl) ?_
  refine lz_cons (k' := 391) rfl (lk_icmp_ne X dL_isAtRest_390 (by decide) rfl) ?_
  refine lz_cons (k' := 392) rfl (lz_Ok_none _ _) ?_
  refine lz_cons (k' := 393) rfl (lz_Ok_none _ _) ?_
  refine lz_cons (k' := 394) rfl (lk_iload X dL_isAtRest_393 rfl) ?_
  refine lz_cons (k' := 395) rfl (lz_Ok_none _ _) ?_
  refine lz_cons (k' := 396) rfl (lk_if_eq X dL_isAtRest_395 (by decide) rfl) ?_
  refine lz_cons (k' := 397) rfl (lz_Ok_none _ _) ?_
  refine lz_cons (k' := 398) rfl (lz_Ok_none _ _) ?_
  refine lz_cons (k' := 399) rfl (lk_iload X dL_isAtRest_398 rfl) ?_
  refine lz_cons (k' := 400) rfl (lz_Ok_none _ _) ?_
  refine lz_cons (k' := 401) rfl (lk_aload_n X dL_isAtRest_400 rfl rfl) ?_
  refine lz_cons (k' := 402) rfl (lk_iload_n X dL_isAtRest_401 rfl rfl) ?_
  refine lz_cons (k' := 403) rfl (lk_iconst X dL_isAtRest_402 (by decide) rfl) ?_
  refine lz_cons (k' := 404) rfl (lk_callv X kc_86 (mm_X11_field Wd.1) (by decide) dL_isAtRest_403 rfl) ?_
  refine lz_cons (k' := 405) rfl (lz_Ok_none _ _) ?_
  refine lz_cons (k' := 406) rfl (lz_Ok_none _ _) ?_
  refine lz_cons (k' := 407) rfl (lk_icmp_ne X dL_isAtRest_406 (by decide) rfl) ?_
  refine lz_cons (k' := 408) rfl (lz_Ok_none _ _) ?_
  refine lz_cons (k' := 409) rfl (lz_Ok_none _ _) ?_
  refine lz_cons (k' := 410) rfl (lk_iload X dL_isAtRest_409 rfl) ?_
  refine lz_cons (k' := 411) rfl (lz_Ok_none _ _) ?_
  refine lz_cons (k' := 412) rfl (lk_iload X dL_isAtRest_411 rfl) ?_
  refine lz_cons (k' := 413) rfl (lz_Ok_none _ _) ?_
  refine lz_cons (k' := 414) rfl (lk_icmp_ne X dL_isAtRest_413 (by decide) rfl) ?_
  refine lz_cons (k' := 415) rfl (lz_Ok_none _ _) ?_
  refine lz_cons (k' := 416) rfl (lz_Ok_none _ _) ?_
  refine lz_cons (k' := 417) rfl (lk_iload X dL_isAtRest_416 rfl) ?_
  refine lz_cons (k' := 418) rfl (lz_Ok_none _ _) ?_
  refine lz_cons (k' := 419) rfl (lk_if_ne X dL_isAtRest_418 (by decide) rfl) ?_
  refine lz_cons (k' := 420) rfl (lz_Ok_none _ _) ?_
  refine lz_cons (k' := 421) rfl (lz_Ok_none _ _) ?_
  refine lz_cons (k' := 422) rfl (lk_iload X dL_isAtRest_421 rfl) ?_
  refine lz_cons (k' := 423) rfl (lz_Ok_none _ _) ?_
  refine lz_cons (k' := 424) rfl (lk_if_eq X dL_isAtRest_423 (by decide) rfl) ?_
  refine lz_cons (k' := 425) rfl (lz_Ok_none _ _) ?_
  refine lz_cons (k' := 426) rfl (lz_Ok_none _ _) ?_
  refine lz_cons (k' := 427) rfl (lk_aload_n X dL_isAtRest_426 rfl rfl) ?_
  refine lz_cons (k' := 428) rfl (lk_iload_n X dL_isAtRest_427 rfl rfl) ?_
  refine lz_cons (k' := 429) rfl (lk_iconst X dL_isAtRest_428 (by decide) rfl) ?_
  refine lz_cons (k' := 430) rfl (lk_callv X kc_86 (mm_X11_field Wd.1) (by decide) dL_isAtRest_429 rfl) ?_
  refine lz_cons (k' := 431) rfl (lz_Ok_none _ _) ?_
  refine lz_cons (k' := 432) rfl (lz_Ok_none _ _) ?_
  refine lz_cons (k' := 433) rfl (lk_iconst X dL_isAtRest_432 (by decide) rfl) ?_
  refine lz_cons (k' := 434) rfl (lk_icmp_eq X dL_isAtRest_433 (by decide) rfl) ?_
  refine lz_cons (k' := 435) rfl (lz_Ok_none _ _) ?_
  refine lz_cons (k' := 436) rfl (lz_Ok_none _ _) ?_
  refine lz_cons (k' := 437) rfl (lk_aload_n X dL_isAtRest_436 rfl rfl) ?_
  refine lz_cons (k' := 438) rfl (lk_iload_n X dL_isAtRest_437 rfl rfl) ?_
  refine lz_cons (k' := 439) rfl (lk_iconst X dL_isAtRest_438 (by decide) rfl) ?_
  refine lz_cons (k' := 440) rfl (lk_callv X kc_86 (mm_X11_field Wd.1) (by decide) dL_isAtRest_439 rfl) ?_
  refine lz_cons (k' := 441) rfl (lz_Ok_none _ _) ?_
  refine lz_cons (k' := 442) rfl (lz_Ok_none _ _) ?_
  refine lz_cons (k' := 443) rfl (lk_if_eq X dL_isAtRest_442 (by decide) rfl) ?_
  refine lz_cons (k' := 444) rfl (lz_Ok_none _ _) ?_
  refine lz_cons (k' := 445) rfl (lz_Ok_none _ _) ?_
  refine lz_cons (k' := 446) rfl (lk_aload_n X dL_isAtRest_445 rfl rfl) ?_
  refine lz_cons (k' := 447) rfl (lk_iload_n X dL_isAtRest_446 rfl rfl) ?_
  refine lz_cons (k' := 448) rfl (lk_iconst X dL_isAtRest_447 (by decide) rfl) ?_
  refine lz_cons (k' := 449) rfl (lk_callv X kc_86 (mm_X11_field Wd.1) (by decide) dL_isAtRest_448 rfl) ?_
  refine lz_cons (k' := 450) rfl (lz_Ok_none _ _) ?_
  refine lz_cons (k' := 451) rfl (lz_Ok_none _ _) ?_
  refine lz_cons (k' := 452) rfl (lk_iconst X dL_isAtRest_451 (by decide) rfl) ?_
  refine lz_cons (k' := 453) rfl (lk_icmp_lt X dL_isAtRest_452 (by decide) rfl) ?_
  refine lz_cons (k' := 454) rfl (lz_Ok_none _ _) ?_
  refine lz_cons (k' := 455) rfl (lz_Ok_none _ _) ?_
  refine lz_cons (k' := 456) rfl (lk_aload_n X dL_isAtRest_455 rfl rfl) ?_
  refine lz_cons (k' := 457) rfl (lk_iload_n X dL_isAtRest_456 rfl rfl) ?_
  refine lz_cons (k' := 458) rfl (lk_iconst X dL_isAtRest_457 (by decide) rfl) ?_
  refine lz_cons (k' := 459) rfl (lk_callv X kc_86 (mm_X11_field Wd.1) (by decide) dL_isAtRest_458 rfl) ?_
  refine lz_cons (k' := 460) rfl (lz_Ok_none _ _) ?_
  refine lz_cons (k' := 461) rfl (lz_Ok_none _ _) ?_
  refine lz_cons (k' := 462) rfl (lk_aload_n X dL_isAtRest_461 rfl rfl) ?_
  refine lz_cons (k' := 463) rfl (lk_iload_n X dL_isAtRest_462 rfl rfl) ?_
  refine lz_cons (k' := 464) rfl (lk_iconst X dL_isAtRest_463 (by decide) rfl) ?_
  refine lz_cons (k' := 465) rfl (lk_callv X kc_86 (mm_X11_field Wd.1) (by decide) dL_isAtRest_464 rfl) ?_
  refine lz_cons (k' := 466) rfl (lz_Ok_none _ _) ?_
  refine lz_cons (k' := 467) rfl (lz_Ok_none _ _) ?_
  refine lz_cons (k' := 468) rfl (lk_icmp_gt X dL_isAtRest_467 (by decide) rfl) ?_
  refine lz_cons (k' := 469) rfl (lz_Ok_none _ _) ?_
  refine lz_cons (k' := 470) rfl (lz_Ok_none _ _) ?_
  refine lz_cons (k' := 471) rfl (lk_iconst X dL_isAtRest_470 (by decide) rfl) ?_
  refine lz_cons (k' := 472) rfl (lk_goto X dL_isAtRest_471 (by decide)) ?_
  refine lz_cons (k' := 473) rfl (lz_Ok_none _ _) ?_
  refine lz_cons (k' := 474) rfl (lz_Ok_none _ _) ?_
  refine lz_cons (k' := 475) rfl (lk_iconst X dL_isAtRest_474 (by decide) rfl) ?_
  refine lz_cons (k' := 476) rfl (lk_istore_n X dL_isAtRest_475 rfl (by decide) rfl) ?_
  refine lz_cons (k' := 477) rfl (lk_iload_n X dL_isAtRest_476 rfl rfl) ?_
  refine lz_cons (k' := 478) rfl (lk_if_eq X dL_isAtRest_477 (by decide) rfl) ?_
  refine lz_cons (k' := 479) rfl (lz_Ok_none _ _) ?_
  refine lz_cons (k' := 480) rfl (lz_Ok_none _ _) ?_
  refine lz_cons (k' := 481) rfl (lk_aload_n X dL_isAtRest_480 rfl rfl) ?_
  refine lz_cons (k' := 482) rfl (lk_iload_n X dL_isAtRest_481 rfl rfl) ?_
  refine lz_cons (k' := 483) rfl (lk_callv X kc_101 (mm_X11_ownerOf Wd.1) (by decide) dL_isAtRest_482 rfl) ?_
  refine lz_cons (k' := 484) rfl (lz_Ok_none _ _) ?_
  refine lz_cons (k' := 485) rfl (lz_Ok_none _ _) ?_
  refine lz_cons (k' := 486) rfl (lk_if_lt X dL_isAtRest_485 (by decide) rfl) ?_
  refine lz_cons (k' := 487) rfl (lz_Ok_none _ _) ?_
  refine lz_cons (k' := 488) rfl (lz_Ok_none _ _) ?_
  refine lz_cons (k' := 489) rfl (lk_aload_n X dL_isAtRest_488 rfl rfl) ?_
  refine lz_cons (k' := 490) rfl (lk_aload_n X dL_isAtRest_489 rfl rfl) ?_
  refine lz_cons (k' := 491) rfl (lk_iload_n X dL_isAtRest_490 rfl rfl) ?_
  refine lz_cons (k' := 492) rfl (lk_callv X kc_101 (mm_X11_ownerOf Wd.1) (by decide) dL_isAtRest_491 rfl) ?_
  refine lz_cons (k' := 493) rfl (lz_Ok_none _ _) ?_
  refine lz_cons (k' := 494) rfl (lz_Ok_none _ _) ?_
  refine lz_cons (k' := 495) rfl (lk_callv X kc_98 (mm_X11_goingOf Wd.1) (by decide) dL_isAtRest_494 rfl) ?_
  refine lz_cons (k' := 496) rfl (lz_Ok_none _ _) ?_
  refine lz_cons (k' := 497) rfl (lz_Ok_none _ _) ?_
  refine lz_cons (k' := 498) rfl (lk_iconst X dL_isAtRest_497 (by decide) rfl) ?_
  refine lz_cons (k' := 499) rfl (lk_icmp_lt X dL_isAtRest_498 (by decide) rfl) ?_
  refine lz_cons (k' := 500) rfl (lz_Ok_none _ _) ?_
  refine lz_cons (k' := 501) rfl (lz_Ok_none _ _) ?_
  refine lz_cons (k' := 502) rfl (lk_aload_n X dL_isAtRest_501 rfl rfl) ?_
  refine lz_cons (k' := 503) rfl (lk_iload_n X dL_isAtRest_502 rfl rfl) ?_
  refine lz_cons (k' := 504) rfl (lk_callv X kc_98 (mm_X11_goingOf Wd.1) (by decide) dL_isAtRest_503 rfl) ?_
  refine lz_cons (k' := 505) rfl (lz_Ok_none _ _) ?_
  refine lz_cons (k' := 506) rfl (lz_Ok_none _ _) ?_
  refine lz_cons (k' := 507) rfl (lk_if_le X dL_isAtRest_506 (by decide) rfl) ?_
  refine lz_cons (k' := 508) rfl (lz_Ok_none _ _) ?_
  refine lz_cons (k' := 509) rfl (lz_Ok_none _ _) ?_
  refine lz_cons (k' := 510) rfl (lk_iconst X dL_isAtRest_509 (by decide) rfl) ?_
  refine lz_cons (k' := 511) rfl (lk_goto X dL_isAtRest_510 (by decide)) ?_
  refine lz_cons (k' := 512) rfl (lz_Ok_none _ _) ?_
  refine lz_cons (k' := 513) rfl (lz_Ok_none _ _) ?_
  refine lz_cons (k' := 514) rfl (lk_iconst X dL_isAtRest_513 (by decide) rfl) ?_
  refine lz_cons (k' := 515) rfl (lk_istore_n X dL_isAtRest_514 rfl (by decide) rfl) ?_
  refine lz_cons (k' := 516) rfl (lk_iinc X dL_isAtRest_515 (by decide) (by decide) rfl) ?_
  refine lz_cons (k' := 517) rfl (lz_Ok_none _ _) ?_
  refine lz_cons (k' := 518) rfl (lz_Ok_none _ _) ?_
  refine lz_cons (k' := 519) rfl (lk_goto X dL_isAtRest_518 (by decide)) ?_
  refine lz_cons (k' := 520) rfl (lz_Ok_none _ _) ?_
  refine lz_cons (k' := 521) rfl (lz_Ok_none _ _) ?_
  refine lz_cons (k' := 522) rfl (lk_iload_n X dL_isAtRest_521 rfl rfl) ?_
  refine lz_cons (k' := 523) rfl (lk_iret X rfl dL_isAtRest_522) ?_
  exact trivial
noncomputable def tL_isWorked : List lzOp := [
  lo_aload 0 1,
  lo_callv fX11_version 0 2641 4,
  lo_none,
  lo_none,
  lo_istore 2 5,
  lo_aload 0 6,
  lo_iload 1 7,
  lo_pushI 0 8,
  lo_callv fX11_queued 2 2641 11,
  lo_none,
  lo_none,
  lo_istore 3 12,
  lo_aload 0 13,
  lo_calls fL_all 1 1320 2641 16,
  lo_none,
  lo_none,
  lo_lstore 4 18,
  lo_none,
  lo_aload 0 19,
  lo_callv fX11_objects 0 2641 22,
  lo_none,
  lo_none,
  lo_istore 6 24,
  lo_none,
  lo_aload 0 25,
  lo_pushI 10 27,
  lo_none,
  lo_iload 1 28,
  lo_pushI 0 29,
  lo_pushI 0 30,
  lo_pushI 0 31,
  lo_pushI 0 32,
  lo_pushI 0 33,
  lo_calls fL_act 8 1 2641 36,
  lo_none,
  lo_none,
  lo_istore 7 38,
  lo_none,
  lo_iload 7 40,
  lo_none,
  lo_if (fun x => decide (¬ x = 0)) 59 43,
  lo_none,
  lo_none,
  lo_aload 0 44,
  lo_calls fL_all 1 1320 2641 47,
  lo_none,
  lo_none,
  lo_lload 4 49,
  lo_none,
  lo_lcmp 50,
  lo_if (fun x => decide (¬ x = 0)) 57 53,
  lo_none,
  lo_none,
  lo_pushI 1 54,
  lo_goto 58,
  lo_none,
  lo_none,
  lo_pushI 0 58,
  lo_iret 2641 true,
  lo_pushI 0 60,
  lo_istore 8 62,
  lo_none,
  lo_iload 2 63,
  lo_pushI 1 64,
  lo_ii (fun x y => x + y) 65,
  lo_istore 9 67,
  lo_none,
  lo_iload 9 69,
  lo_none,
  lo_aload 0 70,
  lo_callv fX11_version 0 2641 73,
  lo_none,
  lo_none,
  lo_icmp (fun x y => decide (y < x)) 103 76,
  lo_none,
  lo_none,
  lo_iload 8 78,
  lo_none,
  lo_aload 0 79,
  lo_iload 9 81,
  lo_none,
  lo_callv fX11_objectOf 1 2641 84,
  lo_none,
  lo_none,
  lo_iload 6 86,
  lo_none,
  lo_icmp (fun x y => decide (x < y)) 93 89,
  lo_none,
  lo_none,
  lo_pushI 1 90,
  lo_goto 94,
  lo_none,
  lo_none,
  lo_pushI 0 94,
  lo_ii (fun x y => x + y) 95,
  lo_istore 8 97,
  lo_none,
  lo_iinc 9 1 100,
  lo_none,
  lo_none,
  lo_goto 67,
  lo_none,
  lo_none,
  lo_iload 7 105,
  lo_none,
  lo_pushI 1 106,
  lo_icmp (fun x y => decide (x < y)) 172 109,
  lo_none,
  lo_none,
  lo_iload 7 111,
  lo_none,
  lo_pushI 3 112,
  lo_icmp (fun x y => decide (y < x)) 172 115,
  lo_none,
  lo_none,
  lo_iload 3 116,
  lo_if (fun x => decide (x < 0)) 172 119,
  lo_none,
  lo_none,
  lo_aload 0 120,
  lo_callv fX11_version 0 2641 123,
  lo_none,
  lo_none,
  lo_iload 2 124,
  lo_icmp (fun x y => decide (x < y)) 172 127,
  lo_none,
  lo_none,
  lo_aload 0 128,
  lo_callv fX11_objects 0 2641 131,
  lo_none,
  lo_none,
  lo_iload 6 133,
  lo_none,
  lo_iload 8 135,
  lo_none,
  lo_ii (fun x y => x + y) 136,
  lo_icmp (fun x y => decide (¬ x = y)) 172 139,
  lo_none,
  lo_none,
  lo_iload 8 141,
  lo_none,
  lo_pushI 1 142,
  lo_icmp (fun x y => decide (y < x)) 172 145,
  lo_none,
  lo_none,
  lo_iload 7 147,
  lo_none,
  lo_pushI 2 148,
  lo_icmp (fun x y => decide (¬ x = y)) 168 151,
  lo_none,
  lo_none,
  lo_aload 0 152,
  lo_callv fX11_version 0 2641 155,
  lo_none,
  lo_none,
  lo_iload 2 156,
  lo_icmp (fun x y => decide (¬ x = y)) 172 159,
  lo_none,
  lo_none,
  lo_aload 0 160,
  lo_callv fX11_objects 0 2641 163,
  lo_none,
  lo_none,
  lo_iload 6 165,
  lo_none,
  lo_icmp (fun x y => decide (¬ x = y)) 172 168,
  lo_none,
  lo_none,
  lo_pushI 1 169,
  lo_goto 173,
  lo_none,
  lo_none,
  lo_pushI 0 173,
  lo_iret 2641 true]
set_option maxRecDepth 100000 in
theorem tl_L_isWorked : ∀ pc, lz_Tl (tL_isWorked.getD pc lo_none) := by
  refine lz_Tl_mem ?_
  unfold tL_isWorked
  refine List.forall_mem_cons.mpr ⟨(lo_aload_tl _ _), ?_⟩
  refine List.forall_mem_cons.mpr ⟨(lo_callv_tl _ _ _ _), ?_⟩
  refine List.forall_mem_cons.mpr ⟨lo_none_tl, ?_⟩
  refine List.forall_mem_cons.mpr ⟨lo_none_tl, ?_⟩
  refine List.forall_mem_cons.mpr ⟨(lo_istore_tl _ _), ?_⟩
  refine List.forall_mem_cons.mpr ⟨(lo_aload_tl _ _), ?_⟩
  refine List.forall_mem_cons.mpr ⟨(lo_iload_tl _ _), ?_⟩
  refine List.forall_mem_cons.mpr ⟨(lo_pushI_tl _ _), ?_⟩
  refine List.forall_mem_cons.mpr ⟨(lo_callv_tl _ _ _ _), ?_⟩
  refine List.forall_mem_cons.mpr ⟨lo_none_tl, ?_⟩
  refine List.forall_mem_cons.mpr ⟨lo_none_tl, ?_⟩
  refine List.forall_mem_cons.mpr ⟨(lo_istore_tl _ _), ?_⟩
  refine List.forall_mem_cons.mpr ⟨(lo_aload_tl _ _), ?_⟩
  refine List.forall_mem_cons.mpr ⟨(lo_calls_tl _ _ _ _ _), ?_⟩
  refine List.forall_mem_cons.mpr ⟨lo_none_tl, ?_⟩
  refine List.forall_mem_cons.mpr ⟨lo_none_tl, ?_⟩
  refine List.forall_mem_cons.mpr ⟨(lo_lstore_tl _ _), ?_⟩
  refine List.forall_mem_cons.mpr ⟨lo_none_tl, ?_⟩
  refine List.forall_mem_cons.mpr ⟨(lo_aload_tl _ _), ?_⟩
  refine List.forall_mem_cons.mpr ⟨(lo_callv_tl _ _ _ _), ?_⟩
  refine List.forall_mem_cons.mpr ⟨lo_none_tl, ?_⟩
  refine List.forall_mem_cons.mpr ⟨lo_none_tl, ?_⟩
  refine List.forall_mem_cons.mpr ⟨(lo_istore_tl _ _), ?_⟩
  refine List.forall_mem_cons.mpr ⟨lo_none_tl, ?_⟩
  refine List.forall_mem_cons.mpr ⟨(lo_aload_tl _ _), ?_⟩
  refine List.forall_mem_cons.mpr ⟨(lo_pushI_tl _ _), ?_⟩
  refine List.forall_mem_cons.mpr ⟨lo_none_tl, ?_⟩
  refine List.forall_mem_cons.mpr ⟨(lo_iload_tl _ _), ?_⟩
  refine List.forall_mem_cons.mpr ⟨(lo_pushI_tl _ _), ?_⟩
  refine List.forall_mem_cons.mpr ⟨(lo_pushI_tl _ _), ?_⟩
  refine List.forall_mem_cons.mpr ⟨(lo_pushI_tl _ _), ?_⟩
  refine List.forall_mem_cons.mpr ⟨(lo_pushI_tl _ _), ?_⟩
  refine List.forall_mem_cons.mpr ⟨(lo_pushI_tl _ _), ?_⟩
  refine List.forall_mem_cons.mpr ⟨(lo_calls_tl _ _ _ _ _), ?_⟩
  refine List.forall_mem_cons.mpr ⟨lo_none_tl, ?_⟩
  refine List.forall_mem_cons.mpr ⟨lo_none_tl, ?_⟩
  refine List.forall_mem_cons.mpr ⟨(lo_istore_tl _ _), ?_⟩
  refine List.forall_mem_cons.mpr ⟨lo_none_tl, ?_⟩
  refine List.forall_mem_cons.mpr ⟨(lo_iload_tl _ _), ?_⟩
  refine List.forall_mem_cons.mpr ⟨lo_none_tl, ?_⟩
  refine List.forall_mem_cons.mpr ⟨(lo_if_tl _ _ _), ?_⟩
  refine List.forall_mem_cons.mpr ⟨lo_none_tl, ?_⟩
  refine List.forall_mem_cons.mpr ⟨lo_none_tl, ?_⟩
  refine List.forall_mem_cons.mpr ⟨(lo_aload_tl _ _), ?_⟩
  refine List.forall_mem_cons.mpr ⟨(lo_calls_tl _ _ _ _ _), ?_⟩
  refine List.forall_mem_cons.mpr ⟨lo_none_tl, ?_⟩
  refine List.forall_mem_cons.mpr ⟨lo_none_tl, ?_⟩
  refine List.forall_mem_cons.mpr ⟨(lo_lload_tl _ _), ?_⟩
  refine List.forall_mem_cons.mpr ⟨lo_none_tl, ?_⟩
  refine List.forall_mem_cons.mpr ⟨(lo_lcmp_tl _), ?_⟩
  refine List.forall_mem_cons.mpr ⟨(lo_if_tl _ _ _), ?_⟩
  refine List.forall_mem_cons.mpr ⟨lo_none_tl, ?_⟩
  refine List.forall_mem_cons.mpr ⟨lo_none_tl, ?_⟩
  refine List.forall_mem_cons.mpr ⟨(lo_pushI_tl _ _), ?_⟩
  refine List.forall_mem_cons.mpr ⟨(lo_goto_tl _), ?_⟩
  refine List.forall_mem_cons.mpr ⟨lo_none_tl, ?_⟩
  refine List.forall_mem_cons.mpr ⟨lo_none_tl, ?_⟩
  refine List.forall_mem_cons.mpr ⟨(lo_pushI_tl _ _), ?_⟩
  refine List.forall_mem_cons.mpr ⟨(lo_iret_tl _ _), ?_⟩
  refine List.forall_mem_cons.mpr ⟨(lo_pushI_tl _ _), ?_⟩
  refine List.forall_mem_cons.mpr ⟨(lo_istore_tl _ _), ?_⟩
  refine List.forall_mem_cons.mpr ⟨lo_none_tl, ?_⟩
  refine List.forall_mem_cons.mpr ⟨(lo_iload_tl _ _), ?_⟩
  refine List.forall_mem_cons.mpr ⟨(lo_pushI_tl _ _), ?_⟩
  refine List.forall_mem_cons.mpr ⟨(lo_ii_tl _ _), ?_⟩
  refine List.forall_mem_cons.mpr ⟨(lo_istore_tl _ _), ?_⟩
  refine List.forall_mem_cons.mpr ⟨lo_none_tl, ?_⟩
  refine List.forall_mem_cons.mpr ⟨(lo_iload_tl _ _), ?_⟩
  refine List.forall_mem_cons.mpr ⟨lo_none_tl, ?_⟩
  refine List.forall_mem_cons.mpr ⟨(lo_aload_tl _ _), ?_⟩
  refine List.forall_mem_cons.mpr ⟨(lo_callv_tl _ _ _ _), ?_⟩
  refine List.forall_mem_cons.mpr ⟨lo_none_tl, ?_⟩
  refine List.forall_mem_cons.mpr ⟨lo_none_tl, ?_⟩
  refine List.forall_mem_cons.mpr ⟨(lo_icmp_tl _ _ _), ?_⟩
  refine List.forall_mem_cons.mpr ⟨lo_none_tl, ?_⟩
  refine List.forall_mem_cons.mpr ⟨lo_none_tl, ?_⟩
  refine List.forall_mem_cons.mpr ⟨(lo_iload_tl _ _), ?_⟩
  refine List.forall_mem_cons.mpr ⟨lo_none_tl, ?_⟩
  refine List.forall_mem_cons.mpr ⟨(lo_aload_tl _ _), ?_⟩
  refine List.forall_mem_cons.mpr ⟨(lo_iload_tl _ _), ?_⟩
  refine List.forall_mem_cons.mpr ⟨lo_none_tl, ?_⟩
  refine List.forall_mem_cons.mpr ⟨(lo_callv_tl _ _ _ _), ?_⟩
  refine List.forall_mem_cons.mpr ⟨lo_none_tl, ?_⟩
  refine List.forall_mem_cons.mpr ⟨lo_none_tl, ?_⟩
  refine List.forall_mem_cons.mpr ⟨(lo_iload_tl _ _), ?_⟩
  refine List.forall_mem_cons.mpr ⟨lo_none_tl, ?_⟩
  refine List.forall_mem_cons.mpr ⟨(lo_icmp_tl _ _ _), ?_⟩
  refine List.forall_mem_cons.mpr ⟨lo_none_tl, ?_⟩
  refine List.forall_mem_cons.mpr ⟨lo_none_tl, ?_⟩
  refine List.forall_mem_cons.mpr ⟨(lo_pushI_tl _ _), ?_⟩
  refine List.forall_mem_cons.mpr ⟨(lo_goto_tl _), ?_⟩
  refine List.forall_mem_cons.mpr ⟨lo_none_tl, ?_⟩
  refine List.forall_mem_cons.mpr ⟨lo_none_tl, ?_⟩
  refine List.forall_mem_cons.mpr ⟨(lo_pushI_tl _ _), ?_⟩
  refine List.forall_mem_cons.mpr ⟨(lo_ii_tl _ _), ?_⟩
  refine List.forall_mem_cons.mpr ⟨(lo_istore_tl _ _), ?_⟩
  refine List.forall_mem_cons.mpr ⟨lo_none_tl, ?_⟩
  refine List.forall_mem_cons.mpr ⟨(lo_iinc_tl _ _ _), ?_⟩
  refine List.forall_mem_cons.mpr ⟨lo_none_tl, ?_⟩
  refine List.forall_mem_cons.mpr ⟨lo_none_tl, ?_⟩
  refine List.forall_mem_cons.mpr ⟨(lo_goto_tl _), ?_⟩
  refine List.forall_mem_cons.mpr ⟨lo_none_tl, ?_⟩
  refine List.forall_mem_cons.mpr ⟨lo_none_tl, ?_⟩
  refine List.forall_mem_cons.mpr ⟨(lo_iload_tl _ _), ?_⟩
  refine List.forall_mem_cons.mpr ⟨lo_none_tl, ?_⟩
  refine List.forall_mem_cons.mpr ⟨(lo_pushI_tl _ _), ?_⟩
  refine List.forall_mem_cons.mpr ⟨(lo_icmp_tl _ _ _), ?_⟩
  refine List.forall_mem_cons.mpr ⟨lo_none_tl, ?_⟩
  refine List.forall_mem_cons.mpr ⟨lo_none_tl, ?_⟩
  refine List.forall_mem_cons.mpr ⟨(lo_iload_tl _ _), ?_⟩
  refine List.forall_mem_cons.mpr ⟨lo_none_tl, ?_⟩
  refine List.forall_mem_cons.mpr ⟨(lo_pushI_tl _ _), ?_⟩
  refine List.forall_mem_cons.mpr ⟨(lo_icmp_tl _ _ _), ?_⟩
  refine List.forall_mem_cons.mpr ⟨lo_none_tl, ?_⟩
  refine List.forall_mem_cons.mpr ⟨lo_none_tl, ?_⟩
  refine List.forall_mem_cons.mpr ⟨(lo_iload_tl _ _), ?_⟩
  refine List.forall_mem_cons.mpr ⟨(lo_if_tl _ _ _), ?_⟩
  refine List.forall_mem_cons.mpr ⟨lo_none_tl, ?_⟩
  refine List.forall_mem_cons.mpr ⟨lo_none_tl, ?_⟩
  refine List.forall_mem_cons.mpr ⟨(lo_aload_tl _ _), ?_⟩
  refine List.forall_mem_cons.mpr ⟨(lo_callv_tl _ _ _ _), ?_⟩
  refine List.forall_mem_cons.mpr ⟨lo_none_tl, ?_⟩
  refine List.forall_mem_cons.mpr ⟨lo_none_tl, ?_⟩
  refine List.forall_mem_cons.mpr ⟨(lo_iload_tl _ _), ?_⟩
  refine List.forall_mem_cons.mpr ⟨(lo_icmp_tl _ _ _), ?_⟩
  refine List.forall_mem_cons.mpr ⟨lo_none_tl, ?_⟩
  refine List.forall_mem_cons.mpr ⟨lo_none_tl, ?_⟩
  refine List.forall_mem_cons.mpr ⟨(lo_aload_tl _ _), ?_⟩
  refine List.forall_mem_cons.mpr ⟨(lo_callv_tl _ _ _ _), ?_⟩
  refine List.forall_mem_cons.mpr ⟨lo_none_tl, ?_⟩
  refine List.forall_mem_cons.mpr ⟨lo_none_tl, ?_⟩
  refine List.forall_mem_cons.mpr ⟨(lo_iload_tl _ _), ?_⟩
  refine List.forall_mem_cons.mpr ⟨lo_none_tl, ?_⟩
  refine List.forall_mem_cons.mpr ⟨(lo_iload_tl _ _), ?_⟩
  refine List.forall_mem_cons.mpr ⟨lo_none_tl, ?_⟩
  refine List.forall_mem_cons.mpr ⟨(lo_ii_tl _ _), ?_⟩
  refine List.forall_mem_cons.mpr ⟨(lo_icmp_tl _ _ _), ?_⟩
  refine List.forall_mem_cons.mpr ⟨lo_none_tl, ?_⟩
  refine List.forall_mem_cons.mpr ⟨lo_none_tl, ?_⟩
  refine List.forall_mem_cons.mpr ⟨(lo_iload_tl _ _), ?_⟩
  refine List.forall_mem_cons.mpr ⟨lo_none_tl, ?_⟩
  refine List.forall_mem_cons.mpr ⟨(lo_pushI_tl _ _), ?_⟩
  refine List.forall_mem_cons.mpr ⟨(lo_icmp_tl _ _ _), ?_⟩
  refine List.forall_mem_cons.mpr ⟨lo_none_tl, ?_⟩
  refine List.forall_mem_cons.mpr ⟨lo_none_tl, ?_⟩
  refine List.forall_mem_cons.mpr ⟨(lo_iload_tl _ _), ?_⟩
  refine List.forall_mem_cons.mpr ⟨lo_none_tl, ?_⟩
  refine List.forall_mem_cons.mpr ⟨(lo_pushI_tl _ _), ?_⟩
  refine List.forall_mem_cons.mpr ⟨(lo_icmp_tl _ _ _), ?_⟩
  refine List.forall_mem_cons.mpr ⟨lo_none_tl, ?_⟩
  refine List.forall_mem_cons.mpr ⟨lo_none_tl, ?_⟩
  refine List.forall_mem_cons.mpr ⟨(lo_aload_tl _ _), ?_⟩
  refine List.forall_mem_cons.mpr ⟨(lo_callv_tl _ _ _ _), ?_⟩
  refine List.forall_mem_cons.mpr ⟨lo_none_tl, ?_⟩
  refine List.forall_mem_cons.mpr ⟨lo_none_tl, ?_⟩
  refine List.forall_mem_cons.mpr ⟨(lo_iload_tl _ _), ?_⟩
  refine List.forall_mem_cons.mpr ⟨(lo_icmp_tl _ _ _), ?_⟩
  refine List.forall_mem_cons.mpr ⟨lo_none_tl, ?_⟩
  refine List.forall_mem_cons.mpr ⟨lo_none_tl, ?_⟩
  refine List.forall_mem_cons.mpr ⟨(lo_aload_tl _ _), ?_⟩
  refine List.forall_mem_cons.mpr ⟨(lo_callv_tl _ _ _ _), ?_⟩
  refine List.forall_mem_cons.mpr ⟨lo_none_tl, ?_⟩
  refine List.forall_mem_cons.mpr ⟨lo_none_tl, ?_⟩
  refine List.forall_mem_cons.mpr ⟨(lo_iload_tl _ _), ?_⟩
  refine List.forall_mem_cons.mpr ⟨lo_none_tl, ?_⟩
  refine List.forall_mem_cons.mpr ⟨(lo_icmp_tl _ _ _), ?_⟩
  refine List.forall_mem_cons.mpr ⟨lo_none_tl, ?_⟩
  refine List.forall_mem_cons.mpr ⟨lo_none_tl, ?_⟩
  refine List.forall_mem_cons.mpr ⟨(lo_pushI_tl _ _), ?_⟩
  refine List.forall_mem_cons.mpr ⟨(lo_goto_tl _), ?_⟩
  refine List.forall_mem_cons.mpr ⟨lo_none_tl, ?_⟩
  refine List.forall_mem_cons.mpr ⟨lo_none_tl, ?_⟩
  refine List.forall_mem_cons.mpr ⟨(lo_pushI_tl _ _), ?_⟩
  refine List.forall_mem_cons.mpr ⟨(lo_iret_tl _ _), ?_⟩
  exact fun _ h => absurd h List.not_mem_nil
noncomputable def fL_isWorked : lzFn := lz_fn tL_isWorked 10
set_option maxRecDepth 100000 in
set_option maxHeartbeats 4000000 in
theorem mm_L_isWorked {l : Launch} {D : va_G} {cA : Nat → ClassId} {ad : Nat → Nat} {Ex : (Nat → Prop) → State → Heap → Prop} {sc : List Int32} (Wd : lzWd l D cA ad Ex sc) : lz_C l D zzCl cA ad zzSC Ex yL_isWorked (Cond.code yL_isWorked cL_isWorked 10 (some .boolean)) 11 221 2641 fL_isWorked := by
  refine lz_meth (plainFor_of_name (by decide)) Wd.1.2.1 Wd.1.2.2.1 (fun p e R s m args below meth c rr X => ?_)
  unfold tL_isWorked
  refine lz_cons (k' := 1) rfl (lk_aload_n X dL_isWorked_0 rfl rfl) ?_
  refine lz_cons (k' := 2) rfl (lk_callv X kc_151 (mm_X11_version Wd.1) (by decide) dL_isWorked_1 rfl) ?_
  refine lz_cons (k' := 3) rfl (lz_Ok_none _ _) ?_
  refine lz_cons (k' := 4) rfl (lz_Ok_none _ _) ?_
  refine lz_cons (k' := 5) rfl (lk_istore_n X dL_isWorked_4 rfl (by decide) rfl) ?_
  refine lz_cons (k' := 6) rfl (lk_aload_n X dL_isWorked_5 rfl rfl) ?_
  refine lz_cons (k' := 7) rfl (lk_iload_n X dL_isWorked_6 rfl rfl) ?_
  refine lz_cons (k' := 8) rfl (lk_iconst X dL_isWorked_7 (by decide) rfl) ?_
  refine lz_cons (k' := 9) rfl (lk_callv X kc_126 (mm_X11_queued Wd.1) (by decide) dL_isWorked_8 rfl) ?_
  refine lz_cons (k' := 10) rfl (lz_Ok_none _ _) ?_
  refine lz_cons (k' := 11) rfl (lz_Ok_none _ _) ?_
  refine lz_cons (k' := 12) rfl (lk_istore_n X dL_isWorked_11 rfl (by decide) rfl) ?_
  refine lz_cons (k' := 13) rfl (lk_aload_n X dL_isWorked_12 rfl rfl) ?_
  refine lz_cons (k' := 14) rfl (lk_calls X kl_172 (mm_L_all Wd) (by decide) dL_isWorked_13 rfl) ?_
  refine lz_cons (k' := 15) rfl (lz_Ok_none _ _) ?_
  refine lz_cons (k' := 16) rfl (lz_Ok_none _ _) ?_
  refine lz_cons (k' := 17) rfl (lk_lstore X dL_isWorked_16 (by decide) rfl) ?_
  refine lz_cons (k' := 18) rfl (lz_Ok_none _ _) ?_
  refine lz_cons (k' := 19) rfl (lk_aload_n X dL_isWorked_18 rfl rfl) ?_
  refine lz_cons (k' := 20) rfl (lk_callv X kc_155 (mm_X11_objects Wd.1) (by decide) dL_isWorked_19 rfl) ?_
  refine lz_cons (k' := 21) rfl (lz_Ok_none _ _) ?_
  refine lz_cons (k' := 22) rfl (lz_Ok_none _ _) ?_
  refine lz_cons (k' := 23) rfl (lk_istore X dL_isWorked_22 (by decide) rfl) ?_
  refine lz_cons (k' := 24) rfl (lz_Ok_none _ _) ?_
  refine lz_cons (k' := 25) rfl (lk_aload_n X dL_isWorked_24 rfl rfl) ?_
  refine lz_cons (k' := 26) rfl (lk_bipush X dL_isWorked_25 (by decide) rfl) ?_
  refine lz_cons (k' := 27) rfl (lz_Ok_none _ _) ?_
  refine lz_cons (k' := 28) rfl (lk_iload_n X dL_isWorked_27 rfl rfl) ?_
  refine lz_cons (k' := 29) rfl (lk_iconst X dL_isWorked_28 (by decide) rfl) ?_
  refine lz_cons (k' := 30) rfl (lk_iconst X dL_isWorked_29 (by decide) rfl) ?_
  refine lz_cons (k' := 31) rfl (lk_iconst X dL_isWorked_30 (by decide) rfl) ?_
  refine lz_cons (k' := 32) rfl (lk_iconst X dL_isWorked_31 (by decide) rfl) ?_
  refine lz_cons (k' := 33) rfl (lk_iconst X dL_isWorked_32 (by decide) rfl) ?_
  refine lz_cons (k' := 34) rfl (lk_calls X kl_168 (mm_L_act Wd) (by decide) dL_isWorked_33 rfl) ?_
  refine lz_cons (k' := 35) rfl (lz_Ok_none _ _) ?_
  refine lz_cons (k' := 36) rfl (lz_Ok_none _ _) ?_
  refine lz_cons (k' := 37) rfl (lk_istore X dL_isWorked_36 (by decide) rfl) ?_
  refine lz_cons (k' := 38) rfl (lz_Ok_none _ _) ?_
  refine lz_cons (k' := 39) rfl (lk_iload X dL_isWorked_38 rfl) ?_
  refine lz_cons (k' := 40) rfl (lz_Ok_none _ _) ?_
  refine lz_cons (k' := 41) rfl (lk_if_ne X dL_isWorked_40 (by decide) rfl) ?_
  refine lz_cons (k' := 42) rfl (lz_Ok_none _ _) ?_
  refine lz_cons (k' := 43) rfl (lz_Ok_none _ _) ?_
  refine lz_cons (k' := 44) rfl (lk_aload_n X dL_isWorked_43 rfl rfl) ?_
  refine lz_cons (k' := 45) rfl (lk_calls X kl_172 (mm_L_all Wd) (by decide) dL_isWorked_44 rfl) ?_
  refine lz_cons (k' := 46) rfl (lz_Ok_none _ _) ?_
  refine lz_cons (k' := 47) rfl (lz_Ok_none _ _) ?_
  refine lz_cons (k' := 48) rfl (lk_lload X dL_isWorked_47 rfl) ?_
  refine lz_cons (k' := 49) rfl (lz_Ok_none _ _) ?_
  refine lz_cons (k' := 50) rfl (lk_lcmp X dL_isWorked_49 rfl) ?_
  refine lz_cons (k' := 51) rfl (lk_if_ne X dL_isWorked_50 (by decide) rfl) ?_
  refine lz_cons (k' := 52) rfl (lz_Ok_none _ _) ?_
  refine lz_cons (k' := 53) rfl (lz_Ok_none _ _) ?_
  refine lz_cons (k' := 54) rfl (lk_iconst X dL_isWorked_53 (by decide) rfl) ?_
  refine lz_cons (k' := 55) rfl (lk_goto X dL_isWorked_54 (by decide)) ?_
  refine lz_cons (k' := 56) rfl (lz_Ok_none _ _) ?_
  refine lz_cons (k' := 57) rfl (lz_Ok_none _ _) ?_
  refine lz_cons (k' := 58) rfl (lk_iconst X dL_isWorked_57 (by decide) rfl) ?_
  refine lz_cons (k' := 59) rfl (lk_iret X rfl dL_isWorked_58) ?_
  refine lz_cons (k' := 60) rfl (lk_iconst X dL_isWorked_59 (by decide) rfl) ?_
  refine lz_cons (k' := 61) rfl (lk_istore X dL_isWorked_60 (by decide) rfl) ?_
  refine lz_cons (k' := 62) rfl (lz_Ok_none _ _) ?_
  refine lz_cons (k' := 63) rfl (lk_iload_n X dL_isWorked_62 rfl rfl) ?_
  refine lz_cons (k' := 64) rfl (lk_iconst X dL_isWorked_63 (by decide) rfl) ?_
  refine lz_cons (k' := 65) rfl (lk_iadd X dL_isWorked_64 rfl) ?_
  refine lz_cons (k' := 66) rfl (lk_istore X dL_isWorked_65 (by decide) rfl) ?_
  refine lz_cons (k' := 67) rfl (lz_Ok_none _ _) ?_
  refine lz_cons (k' := 68) rfl (lk_iload X dL_isWorked_67 rfl) ?_
  refine lz_cons (k' := 69) rfl (lz_Ok_none _ _) ?_
  refine lz_cons (k' := 70) rfl (lk_aload_n X dL_isWorked_69 rfl rfl) ?_
  refine lz_cons (k' := 71) rfl (lk_callv X kc_151 (mm_X11_version Wd.1) (by decide) dL_isWorked_70 rfl) ?_
  refine lz_cons (k' := 72) rfl (lz_Ok_none _ _) ?_
  refine lz_cons (k' := 73) rfl (lz_Ok_none _ _) ?_
  refine lz_cons (k' := 74) rfl (lk_icmp_gt X dL_isWorked_73 (by decide) rfl) ?_
  refine lz_cons (k' := 75) rfl (lz_Ok_none _ _) ?_
  refine lz_cons (k' := 76) rfl (lz_Ok_none _ _) ?_
  refine lz_cons (k' := 77) rfl (lk_iload X dL_isWorked_76 rfl) ?_
  refine lz_cons (k' := 78) rfl (lz_Ok_none _ _) ?_
  refine lz_cons (k' := 79) rfl (lk_aload_n X dL_isWorked_78 rfl rfl) ?_
  refine lz_cons (k' := 80) rfl (lk_iload X dL_isWorked_79 rfl) ?_
  refine lz_cons (k' := 81) rfl (lz_Ok_none _ _) ?_
  refine lz_cons (k' := 82) rfl (lk_callv X kc_120 (mm_X11_objectOf Wd.1) (by decide) dL_isWorked_81 rfl) ?_
  refine lz_cons (k' := 83) rfl (lz_Ok_none _ _) ?_
  refine lz_cons (k' := 84) rfl (lz_Ok_none _ _) ?_
  refine lz_cons (k' := 85) rfl (lk_iload X dL_isWorked_84 rfl) ?_
  refine lz_cons (k' := 86) rfl (lz_Ok_none _ _) ?_
  refine lz_cons (k' := 87) rfl (lk_icmp_lt X dL_isWorked_86 (by decide) rfl) ?_
  refine lz_cons (k' := 88) rfl (lz_Ok_none _ _) ?_
  refine lz_cons (k' := 89) rfl (lz_Ok_none _ _) ?_
  refine lz_cons (k' := 90) rfl (lk_iconst X dL_isWorked_89 (by decide) rfl) ?_
  refine lz_cons (k' := 91) rfl (lk_goto X dL_isWorked_90 (by decide)) ?_
  refine lz_cons (k' := 92) rfl (lz_Ok_none _ _) ?_
  refine lz_cons (k' := 93) rfl (lz_Ok_none _ _) ?_
  refine lz_cons (k' := 94) rfl (lk_iconst X dL_isWorked_93 (by decide) rfl) ?_
  refine lz_cons (k' := 95) rfl (lk_iadd X dL_isWorked_94 rfl) ?_
  refine lz_cons (k' := 96) rfl (lk_istore X dL_isWorked_95 (by decide) rfl) ?_
  refine lz_cons (k' := 97) rfl (lz_Ok_none _ _) ?_
  refine lz_cons (k' := 98) rfl (lk_iinc X dL_isWorked_97 (by decide) (by decide) rfl) ?_
  refine lz_cons (k' := 99) rfl (lz_Ok_none _ _) ?_
  refine lz_cons (k' := 100) rfl (lz_Ok_none _ _) ?_
  refine lz_cons (k' := 101) rfl (lk_goto X dL_isWorked_100 (by decide)) ?_
  refine lz_cons (k' := 102) rfl (lz_Ok_none _ _) ?_
  refine lz_cons (k' := 103) rfl (lz_Ok_none _ _) ?_
  refine lz_cons (k' := 104) rfl (lk_iload X dL_isWorked_103 rfl) ?_
  refine lz_cons (k' := 105) rfl (lz_Ok_none _ _) ?_
  refine lz_cons (k' := 106) rfl (lk_iconst X dL_isWorked_105 (by decide) rfl) ?_
  refine lz_cons (k' := 107) rfl (lk_icmp_lt X dL_isWorked_106 (by decide) rfl) ?_
  refine lz_cons (k' := 108) rfl (lz_Ok_none _ _) ?_
  refine lz_cons (k' := 109) rfl (lz_Ok_none _ _) ?_
  refine lz_cons (k' := 110) rfl (lk_iload X dL_isWorked_109 rfl) ?_
  refine lz_cons (k' := 111) rfl (lz_Ok_none _ _) ?_
  refine lz_cons (k' := 112) rfl (lk_iconst X dL_isWorked_111 (by decide) rfl) ?_
  refine lz_cons (k' := 113) rfl (lk_icmp_gt X dL_isWorked_112 (by decide) rfl) ?_
  refine lz_cons (k' := 114) rfl (lz_Ok_none _ _) ?_
  refine lz_cons (k' := 115) rfl (lz_Ok_none _ _) ?_
  refine lz_cons (k' := 116) rfl (lk_iload_n X dL_isWorked_115 rfl rfl) ?_
  refine lz_cons (k' := 117) rfl (lk_if_lt X dL_isWorked_116 (by decide) rfl) ?_
  refine lz_cons (k' := 118) rfl (lz_Ok_none _ _) ?_
  refine lz_cons (k' := 119) rfl (lz_Ok_none _ _) ?_
  refine lz_cons (k' := 120) rfl (lk_aload_n X dL_isWorked_119 rfl rfl) ?_
  refine lz_cons (k' := 121) rfl (lk_callv X kc_151 (mm_X11_version Wd.1) (by decide) dL_isWorked_120 rfl) ?_
  refine lz_cons (k' := 122) rfl (lz_Ok_none _ _) ?_
  refine lz_cons (k' := 123) rfl (lz_Ok_none _ _) ?_
  refine lz_cons (k' := 124) rfl (lk_iload_n X dL_isWorked_123 rfl rfl) ?_
  refine lz_cons (k' := 125) rfl (lk_icmp_lt X dL_isWorked_124 (by decide) rfl) ?_
  refine lz_cons (k' := 126) rfl (lz_Ok_none _ _) ?_
  refine lz_cons (k' := 127) rfl (lz_Ok_none _ _) ?_
  refine lz_cons (k' := 128) rfl (lk_aload_n X dL_isWorked_127 rfl rfl) ?_
  refine lz_cons (k' := 129) rfl (lk_callv X kc_155 (mm_X11_objects Wd.1) (by decide) dL_isWorked_128 rfl) ?_
  refine lz_cons (k' := 130) rfl (lz_Ok_none _ _) ?_
  refine lz_cons (k' := 131) rfl (lz_Ok_none _ _) ?_
  refine lz_cons (k' := 132) rfl (lk_iload X dL_isWorked_131 rfl) ?_
  refine lz_cons (k' := 133) rfl (lz_Ok_none _ _) ?_
  refine lz_cons (k' := 134) rfl (lk_iload X dL_isWorked_133 rfl) ?_
  refine lz_cons (k' := 135) rfl (lz_Ok_none _ _) ?_
  refine lz_cons (k' := 136) rfl (lk_iadd X dL_isWorked_135 rfl) ?_
  refine lz_cons (k' := 137) rfl (lk_icmp_ne X dL_isWorked_136 (by decide) rfl) ?_
  refine lz_cons (k' := 138) rfl (lz_Ok_none _ _) ?_
  refine lz_cons (k' := 139) rfl (lz_Ok_none _ _) ?_
  refine lz_cons (k' := 140) rfl (lk_iload X dL_isWorked_139 rfl) ?_
  refine lz_cons (k' := 141) rfl (lz_Ok_none _ _) ?_
  refine lz_cons (k' := 142) rfl (lk_iconst X dL_isWorked_141 (by decide) rfl) ?_
  refine lz_cons (k' := 143) rfl (lk_icmp_gt X dL_isWorked_142 (by decide) rfl) ?_
  refine lz_cons (k' := 144) rfl (lz_Ok_none _ _) ?_
  refine lz_cons (k' := 145) rfl (lz_Ok_none _ _) ?_
  refine lz_cons (k' := 146) rfl (lk_iload X dL_isWorked_145 rfl) ?_
  refine lz_cons (k' := 147) rfl (lz_Ok_none _ _) ?_
  refine lz_cons (k' := 148) rfl (lk_iconst X dL_isWorked_147 (by decide) rfl) ?_
  refine lz_cons (k' := 149) rfl (lk_icmp_ne X dL_isWorked_148 (by decide) rfl) ?_
  refine lz_cons (k' := 150) rfl (lz_Ok_none _ _) ?_
  refine lz_cons (k' := 151) rfl (lz_Ok_none _ _) ?_
  refine lz_cons (k' := 152) rfl (lk_aload_n X dL_isWorked_151 rfl rfl) ?_
  refine lz_cons (k' := 153) rfl (lk_callv X kc_151 (mm_X11_version Wd.1) (by decide) dL_isWorked_152 rfl) ?_
  refine lz_cons (k' := 154) rfl (lz_Ok_none _ _) ?_
  refine lz_cons (k' := 155) rfl (lz_Ok_none _ _) ?_
  refine lz_cons (k' := 156) rfl (lk_iload_n X dL_isWorked_155 rfl rfl) ?_
  refine lz_cons (k' := 157) rfl (lk_icmp_ne X dL_isWorked_156 (by decide) rfl) ?_
  refine lz_cons (k' := 158) rfl (lz_Ok_none _ _) ?_
  refine lz_cons (k' := 159) rfl (lz_Ok_none _ _) ?_
  refine lz_cons (k' := 160) rfl (lk_aload_n X dL_isWorked_159 rfl rfl) ?_
  refine lz_cons (k' := 161) rfl (lk_callv X kc_155 (mm_X11_objects Wd.1) (by decide) dL_isWorked_160 rfl) ?_
  refine lz_cons (k' := 162) rfl (lz_Ok_none _ _) ?_
  refine lz_cons (k' := 163) rfl (lz_Ok_none _ _) ?_
  refine lz_cons (k' := 164) rfl (lk_iload X dL_isWorked_163 rfl) ?_
  refine lz_cons (k' := 165) rfl (lz_Ok_none _ _) ?_
  refine lz_cons (k' := 166) rfl (lk_icmp_ne X dL_isWorked_165 (by decide) rfl) ?_
  refine lz_cons (k' := 167) rfl (lz_Ok_none _ _) ?_
  refine lz_cons (k' := 168) rfl (lz_Ok_none _ _) ?_
  refine lz_cons (k' := 169) rfl (lk_iconst X dL_isWorked_168 (by decide) rfl) ?_
  refine lz_cons (k' := 170) rfl (lk_goto X dL_isWorked_169 (by decide)) ?_
  refine lz_cons (k' := 171) rfl (lz_Ok_none _ _) ?_
  refine lz_cons (k' := 172) rfl (lz_Ok_none _ _) ?_
  refine lz_cons (k' := 173) rfl (lk_iconst X dL_isWorked_172 (by decide) rfl) ?_
  refine lz_cons (k' := 174) rfl (lk_iret X rfl dL_isWorked_173) ?_
  exact trivial
end
