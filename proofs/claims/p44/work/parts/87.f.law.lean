section
noncomputable def tL_law (sc : List Int32) : List lzOp := [
  lo_none,
  lo_none,
  lo_none,
  lo_none,
  lo_none,
  lo_none,
  lo_none,
  lo_none,
  lo_none,
  lo_none,
  lo_none,
  lo_none,
  lo_none,
  lo_none,
  lo_none,
  lo_none,
  lo_none,
  lo_pushI 0 18,
  lo_istore 4 20,
  lo_none,
  lo_aload 1 21,
  lo_pushI 0 22,
  lo_calls fL_isRefused 2 3600 727906 25,
  lo_none,
  lo_none,
  lo_if (fun x => decide (x = 0)) 47 28,
  lo_none,
  lo_none,
  lo_aload 1 29,
  lo_pushI 1 30,
  lo_calls fL_isRefused 2 3600 727906 33,
  lo_none,
  lo_none,
  lo_if (fun x => decide (x = 0)) 47 36,
  lo_none,
  lo_none,
  lo_aload 1 37,
  lo_callv fX11_isSettled 0 727906 40,
  lo_none,
  lo_none,
  lo_if (fun x => decide (x = 0)) 47 43,
  lo_none,
  lo_none,
  lo_pushI 1 44,
  lo_goto 48,
  lo_none,
  lo_none,
  lo_pushI 0 48,
  lo_istore 5 50,
  lo_none,
  lo_pushI 0 51,
  lo_istore 6 53,
  lo_none,
  lo_iload 6 55,
  lo_none,
  lo_pushI 110 57,
  lo_none,
  lo_icmp (fun x y => decide (y ≤ x)) 1788 60,
  lo_none,
  lo_none,
  lo_iload 5 62,
  lo_none,
  lo_if (fun x => decide (x = 0)) 1788 65,
  lo_none,
  lo_none,
  lo_aload 1 66,
  lo_callv fX11_version 0 727906 69,
  lo_none,
  lo_none,
  lo_pushI 300 72,
  lo_none,
  lo_none,
  lo_icmp (fun x y => decide (y ≤ x)) 1788 75,
  lo_none,
  lo_none,
  lo_aload 0 76,
  lo_iload 6 78,
  lo_none,
  lo_calls (fL_dice sc) 2 0 727906 81,
  lo_none,
  lo_none,
  lo_istore 7 83,
  lo_none,
  lo_iload 7 85,
  lo_none,
  lo_pushI 32 87,
  lo_none,
  lo_iid (fun x y => x / y) 88,
  lo_istore 8 90,
  lo_none,
  lo_iload 7 92,
  lo_none,
  lo_pushI 32 94,
  lo_none,
  lo_iid (fun x y => x - x / y * y) 95,
  lo_istore 9 97,
  lo_none,
  lo_aload 1 98,
  lo_callv fX11_objects 0 727906 101,
  lo_none,
  lo_none,
  lo_istore 10 103,
  lo_none,
  lo_iload 10 105,
  lo_none,
  lo_if (fun x => decide (¬ x = 0)) 112 108,
  lo_none,
  lo_none,
  lo_pushI 0 109,
  lo_goto 117,
  lo_none,
  lo_none,
  lo_iload 8 114,
  lo_none,
  lo_iload 10 116,
  lo_none,
  lo_iid (fun x y => x - x / y * y) 117,
  lo_istore 11 119,
  lo_none,
  lo_iload 10 121,
  lo_none,
  lo_if (fun x => decide (¬ x = 0)) 128 124,
  lo_none,
  lo_none,
  lo_pushI 0 125,
  lo_goto 134,
  lo_none,
  lo_none,
  lo_aload 1 129,
  lo_iload 11 131,
  lo_none,
  lo_callv fX11_kindOf 1 727906 134,
  lo_none,
  lo_none,
  lo_istore 12 136,
  lo_none,
  lo_aload 1 137,
  lo_callv fX11_version 0 727906 140,
  lo_none,
  lo_none,
  lo_istore 13 142,
  lo_none,
  lo_iload 10 144,
  lo_none,
  lo_pushI 3 145,
  lo_icmp (fun x y => decide (x < y)) 161 148,
  lo_none,
  lo_none,
  lo_iload 9 150,
  lo_none,
  lo_pushI 3 151,
  lo_icmp (fun x y => decide (y ≤ x)) 298 154,
  lo_none,
  lo_none,
  lo_iload 10 156,
  lo_none,
  lo_pushI 16 158,
  lo_none,
  lo_icmp (fun x y => decide (y ≤ x)) 298 161,
  lo_none,
  lo_none,
  lo_iload 10 163,
  lo_none,
  lo_pushI 3 164,
  lo_icmp (fun x y => decide (y ≤ x)) 178 167,
  lo_none,
  lo_none,
  lo_pushI 4 168,
  lo_pushI 1 169,
  lo_iload 10 171,
  lo_none,
  lo_pushI 2 172,
  lo_iid (fun x y => x - x / y * y) 173,
  lo_ii (fun x y => x - y) 174,
  lo_ii (fun x y => x * y) 175,
  lo_goto 196,
  lo_none,
  lo_none,
  lo_iload 8 180,
  lo_none,
  lo_pushI 6 182,
  lo_none,
  lo_iid (fun x y => x - x / y * y) 183,
  lo_pushI 1 184,
  lo_icmp (fun x y => decide (¬ x = y)) 191 187,
  lo_none,
  lo_none,
  lo_pushI 0 188,
  lo_goto 196,
  lo_none,
  lo_none,
  lo_iload 8 193,
  lo_none,
  lo_pushI 6 195,
  lo_none,
  lo_iid (fun x y => x - x / y * y) 196,
  lo_istore 14 198,
  lo_none,
  lo_aload 1 199,
  lo_pushI 0 200,
  lo_iload 8 202,
  lo_none,
  lo_pushI 6 204,
  lo_none,
  lo_iid (fun x y => x / y) 205,
  lo_pushI 4 206,
  lo_iid (fun x y => x - x / y * y) 207,
  lo_iload 14 209,
  lo_none,
  lo_pushI 0 210,
  lo_pushI 0 211,
  lo_pushI 0 212,
  lo_pushI 0 213,
  lo_calls fL_act 8 1 727906 216,
  lo_none,
  lo_none,
  lo_istore 15 218,
  lo_none,
  lo_iload 15 220,
  lo_none,
  lo_pushI (-1273) 223,
  lo_none,
  lo_none,
  lo_icmp (fun x y => decide (¬ x = y)) 240 226,
  lo_none,
  lo_none,
  lo_iload 14 228,
  lo_none,
  lo_pushI 2 229,
  lo_icmp (fun x y => decide (¬ x = y)) 236 232,
  lo_none,
  lo_none,
  lo_pushI 1 233,
  lo_goto 293,
  lo_none,
  lo_none,
  lo_pushI 0 237,
  lo_goto 293,
  lo_none,
  lo_none,
  lo_iload 15 242,
  lo_none,
  lo_iload 10 244,
  lo_none,
  lo_icmp (fun x y => decide (¬ x = y)) 292 247,
  lo_none,
  lo_none,
  lo_aload 1 248,
  lo_iload 10 250,
  lo_none,
  lo_callv fX11_kindOf 1 727906 253,
  lo_none,
  lo_none,
  lo_iload 14 255,
  lo_none,
  lo_icmp (fun x y => decide (¬ x = y)) 292 258,
  lo_none,
  lo_none,
  lo_aload 1 259,
  lo_callv fX11_version 0 727906 262,
  lo_none,
  lo_none,
  lo_iload 13 264,
  lo_none,
  lo_pushI 1 265,
  lo_ii (fun x y => x + y) 266,
  lo_icmp (fun x y => decide (¬ x = y)) 292 269,
  lo_none,
  lo_none,
  lo_aload 1 270,
  lo_iload 10 272,
  lo_none,
  lo_callv fX11_goingOf 1 727906 275,
  lo_none,
  lo_none,
  lo_if (fun x => decide (¬ x = 0)) 292 278,
  lo_none,
  lo_none,
  lo_aload 1 279,
  lo_iload 10 281,
  lo_none,
  lo_callv fX11_ownerOf 1 727906 284,
  lo_none,
  lo_none,
  lo_pushI (-1) 285,
  lo_icmp (fun x y => decide (¬ x = y)) 292 288,
  lo_none,
  lo_none,
  lo_pushI 1 289,
  lo_goto 293,
  lo_none,
  lo_none,
  lo_pushI 0 293,
  lo_istore 5 295,
  lo_none,
  lo_goto 1715,
  lo_none,
  lo_none,
  lo_iload 9 300,
  lo_none,
  lo_pushI 9 302,
  lo_none,
  lo_icmp (fun x y => decide (y ≤ x)) 706 305,
  lo_none,
  lo_none,
  lo_iload 12 307,
  lo_none,
  lo_if (fun x => decide (¬ x = 0)) 321 310,
  lo_none,
  lo_none,
  lo_iload 8 312,
  lo_none,
  lo_pushI 60 314,
  lo_none,
  lo_iid (fun x y => x / y) 315,
  lo_pushI 7 317,
  lo_none,
  lo_iid (fun x y => x - x / y * y) 318,
  lo_goto 385,
  lo_none,
  lo_none,
  lo_iload 12 323,
  lo_none,
  lo_pushI 4 324,
  lo_icmp (fun x y => decide (¬ x = y)) 340 327,
  lo_none,
  lo_none,
  lo_pushI 7 329,
  lo_none,
  lo_iload 8 331,
  lo_none,
  lo_pushI 60 333,
  lo_none,
  lo_iid (fun x y => x / y) 334,
  lo_pushI 3 335,
  lo_iid (fun x y => x - x / y * y) 336,
  lo_ii (fun x y => x + y) 337,
  lo_goto 385,
  lo_none,
  lo_none,
  lo_iload 12 342,
  lo_none,
  lo_pushI 3 343,
  lo_icmp (fun x y => decide (¬ x = y)) 362 346,
  lo_none,
  lo_none,
  lo_iload 8 348,
  lo_none,
  lo_pushI 60 350,
  lo_none,
  lo_iid (fun x y => x / y) 351,
  lo_pushI 3 352,
  lo_iid (fun x y => x - x / y * y) 353,
  lo_pushI 2 354,
  lo_icmp (fun x y => decide (¬ x = y)) 362 357,
  lo_none,
  lo_none,
  lo_pushI 10 359,
  lo_none,
  lo_goto 385,
  lo_none,
  lo_none,
  lo_iload 12 364,
  lo_none,
  lo_pushI 1 365,
  lo_icmp (fun x y => decide (x = y)) 374 368,
  lo_none,
  lo_none,
  lo_iload 12 370,
  lo_none,
  lo_pushI 3 371,
  lo_icmp (fun x y => decide (¬ x = y)) 384 374,
  lo_none,
  lo_none,
  lo_iload 8 376,
  lo_none,
  lo_pushI 60 378,
  lo_none,
  lo_iid (fun x y => x / y) 379,
  lo_pushI 2 380,
  lo_iid (fun x y => x - x / y * y) 381,
  lo_goto 385,
  lo_none,
  lo_none,
  lo_pushI 1 385,
  lo_istore 14 387,
  lo_none,
  lo_iload 14 389,
  lo_none,
  lo_pushI 6 391,
  lo_none,
  lo_icmp (fun x y => decide (¬ x = y)) 406 394,
  lo_none,
  lo_none,
  lo_iload 8 396,
  lo_none,
  lo_pushI 420 399,
  lo_none,
  lo_none,
  lo_iid (fun x y => x / y) 400,
  lo_pushI 100 402,
  lo_none,
  lo_iid (fun x y => x - x / y * y) 403,
  lo_goto 473,
  lo_none,
  lo_none,
  lo_iload 14 408,
  lo_none,
  lo_pushI 4 409,
  lo_icmp (fun x y => decide (x = y)) 419 412,
  lo_none,
  lo_none,
  lo_iload 14 414,
  lo_none,
  lo_pushI 9 416,
  lo_none,
  lo_icmp (fun x y => decide (¬ x = y)) 433 419,
  lo_none,
  lo_none,
  lo_iload 8 421,
  lo_none,
  lo_pushI 420 424,
  lo_none,
  lo_none,
  lo_iid (fun x y => x / y) 425,
  lo_pushI 6 427,
  lo_none,
  lo_iid (fun x y => x - x / y * y) 428,
  lo_pushI 5 429,
  lo_iid (fun x y => x / y) 430,
  lo_goto 473,
  lo_none,
  lo_none,
  lo_iload 14 435,
  lo_none,
  lo_pushI 2 436,
  lo_icmp (fun x y => decide (x = y)) 452 439,
  lo_none,
  lo_none,
  lo_iload 14 441,
  lo_none,
  lo_pushI 3 442,
  lo_icmp (fun x y => decide (x = y)) 452 445,
  lo_none,
  lo_none,
  lo_iload 14 447,
  lo_none,
  lo_pushI 8 449,
  lo_none,
  lo_icmp (fun x y => decide (¬ x = y)) 463 452,
  lo_none,
  lo_none,
  lo_iload 8 454,
  lo_none,
  lo_pushI 420 457,
  lo_none,
  lo_none,
  lo_iid (fun x y => x / y) 458,
  lo_pushI 3 459,
  lo_iid (fun x y => x - x / y * y) 460,
  lo_goto 473,
  lo_none,
  lo_none,
  lo_pushI 1 464,
  lo_iload 8 466,
  lo_none,
  lo_pushI 420 469,
  lo_none,
  lo_none,
  lo_iid (fun x y => x / y) 470,
  lo_pushI 5 471,
  lo_iid (fun x y => x - x / y * y) 472,
  lo_ii (fun x y => x + y) 473,
  lo_istore 15 475,
  lo_none,
  lo_iload 8 477,
  lo_none,
  lo_pushI 7 479,
  lo_none,
  lo_iid (fun x y => x / y) 480,
  lo_pushI 4 481,
  lo_iid (fun x y => x - x / y * y) 482,
  lo_istore 16 484,
  lo_none,
  lo_iload 8 486,
  lo_none,
  lo_pushI 28 488,
  lo_none,
  lo_iid (fun x y => x / y) 489,
  lo_pushI 3 490,
  lo_iid (fun x y => x - x / y * y) 491,
  lo_if (fun x => decide (x ≤ 0)) 498 494,
  lo_none,
  lo_none,
  lo_pushI 1 495,
  lo_goto 499,
  lo_none,
  lo_none,
  lo_pushI 0 499,
  lo_istore 17 501,
  lo_none,
  lo_aload 1 502,
  lo_iload 11 504,
  lo_none,
  lo_iload 14 506,
  lo_none,
  lo_callv fX11_managerOf 2 727906 509,
  lo_none,
  lo_none,
  lo_iload 16 511,
  lo_none,
  lo_icmp (fun x y => decide (¬ x = y)) 518 514,
  lo_none,
  lo_none,
  lo_pushI 1 515,
  lo_goto 519,
  lo_none,
  lo_none,
  lo_pushI 0 519,
  lo_istore 18 521,
  lo_none,
  lo_aload 1 522,
  lo_iload 11 524,
  lo_none,
  lo_iload 14 526,
  lo_none,
  lo_callv fX11_field 2 727906 529,
  lo_none,
  lo_none,
  lo_iload 15 531,
  lo_none,
  lo_icmp (fun x y => decide (¬ x = y)) 543 534,
  lo_none,
  lo_none,
  lo_iload 18 536,
  lo_none,
  lo_if (fun x => decide (x = 0)) 543 539,
  lo_none,
  lo_none,
  lo_pushI 1 540,
  lo_goto 544,
  lo_none,
  lo_none,
  lo_pushI 0 544,
  lo_istore 19 546,
  lo_none,
  lo_aload 1 547,
  lo_pushI 1 548,
  lo_iload 16 550,
  lo_none,
  lo_iload 11 552,
  lo_none,
  lo_iload 14 554,
  lo_none,
  lo_iload 15 556,
  lo_none,
  lo_pushI (-1) 557,
  lo_iload 17 559,
  lo_none,
  lo_if (fun x => decide (x = 0)) 566 562,
  lo_none,
  lo_none,
  lo_pushI 1 563,
  lo_goto 567,
  lo_none,
  lo_none,
  lo_pushI 0 567,
  lo_calls fL_act 8 1 727906 570,
  lo_none,
  lo_none,
  lo_istore 20 572,
  lo_none,
  lo_iload 20 574,
  lo_none,
  lo_if (fun x => decide (0 ≤ x)) 639 577,
  lo_none,
  lo_none,
  lo_iload 20 579,
  lo_none,
  lo_pushI (-1273) 582,
  lo_none,
  lo_none,
  lo_icmp (fun x y => decide (¬ x = y)) 635 585,
  lo_none,
  lo_none,
  lo_aload 1 586,
  lo_callv fX11_version 0 727906 589,
  lo_none,
  lo_none,
  lo_iload 13 591,
  lo_none,
  lo_icmp (fun x y => decide (¬ x = y)) 635 594,
  lo_none,
  lo_none,
  lo_aload 1 595,
  lo_iload 11 597,
  lo_none,
  lo_callv fX11_goingOf 1 727906 600,
  lo_none,
  lo_none,
  lo_pushI 4 601,
  lo_icmp (fun x y => decide (x = y)) 631 604,
  lo_none,
  lo_none,
  lo_iload 18 606,
  lo_none,
  lo_if (fun x => decide (¬ x = 0)) 614 609,
  lo_none,
  lo_none,
  lo_iload 17 611,
  lo_none,
  lo_if (fun x => decide (x = 0)) 631 614,
  lo_none,
  lo_none,
  lo_iload 12 616,
  lo_none,
  lo_if (fun x => decide (¬ x = 0)) 635 619,
  lo_none,
  lo_none,
  lo_iload 14 621,
  lo_none,
  lo_pushI 2 622,
  lo_icmp (fun x y => decide (x = y)) 631 625,
  lo_none,
  lo_none,
  lo_iload 14 627,
  lo_none,
  lo_pushI 3 628,
  lo_icmp (fun x y => decide (¬ x = y)) 635 631,
  lo_none,
  lo_none,
  lo_pushI 1 632,
  lo_goto 701,
  lo_none,
  lo_none,
  lo_pushI 0 636,
  lo_goto 701,
  lo_none,
  lo_none,
  lo_iload 20 641,
  lo_none,
  lo_aload 1 642,
  lo_iload 11 644,
  lo_none,
  lo_callv fX11_versionOf 1 727906 647,
  lo_none,
  lo_none,
  lo_icmp (fun x y => decide (¬ x = y)) 700 650,
  lo_none,
  lo_none,
  lo_aload 1 651,
  lo_iload 11 653,
  lo_none,
  lo_iload 14 655,
  lo_none,
  lo_callv fX11_field 2 727906 658,
  lo_none,
  lo_none,
  lo_iload 15 660,
  lo_none,
  lo_icmp (fun x y => decide (¬ x = y)) 700 663,
  lo_none,
  lo_none,
  lo_aload 1 664,
  lo_iload 11 666,
  lo_none,
  lo_iload 14 668,
  lo_none,
  lo_callv fX11_managerOf 2 727906 671,
  lo_none,
  lo_none,
  lo_iload 16 673,
  lo_none,
  lo_icmp (fun x y => decide (¬ x = y)) 700 676,
  lo_none,
  lo_none,
  lo_aload 1 677,
  lo_callv fX11_version 0 727906 680,
  lo_none,
  lo_none,
  lo_iload 13 682,
  lo_none,
  lo_iload 19 684,
  lo_none,
  lo_if (fun x => decide (x = 0)) 691 687,
  lo_none,
  lo_none,
  lo_pushI 0 688,
  lo_goto 692,
  lo_none,
  lo_none,
  lo_pushI 1 692,
  lo_ii (fun x y => x + y) 693,
  lo_icmp (fun x y => decide (¬ x = y)) 700 696,
  lo_none,
  lo_none,
  lo_pushI 1 697,
  lo_goto 701,
  lo_none,
  lo_none,
  lo_pushI 0 701,
  lo_istore 5 703,
  lo_none,
  lo_goto 1715,
  lo_none,
  lo_none,
  lo_iload 9 708,
  lo_none,
  lo_pushI 9 710,
  lo_none,
  lo_icmp (fun x y => decide (¬ x = y)) 825 713,
  lo_none,
  lo_none,
  lo_aload 1 714,
  lo_iload 11 716,
  lo_none,
  lo_callv fX11_goingOf 1 727906 719,
  lo_none,
  lo_none,
  lo_if (fun x => decide (¬ x = 0)) 726 722,
  lo_none,
  lo_none,
  lo_pushI 1 723,
  lo_goto 727,
  lo_none,
  lo_none,
  lo_pushI 0 727,
  lo_istore 14 729,
  lo_none,
  lo_aload 1 730,
  lo_pushI 3 731,
  lo_iload 11 733,
  lo_none,
  lo_pushI 1 734,
  lo_iload 8 736,
  lo_none,
  lo_pushI 60 738,
  lo_none,
  lo_iid (fun x y => x / y) 739,
  lo_pushI 3 740,
  lo_iid (fun x y => x - x / y * y) 741,
  lo_ii (fun x y => x + y) 742,
  lo_pushI 0 743,
  lo_pushI 0 744,
  lo_pushI 0 745,
  lo_pushI 0 746,
  lo_calls fL_act 8 1 727906 749,
  lo_none,
  lo_none,
  lo_istore 15 751,
  lo_none,
  lo_iload 14 753,
  lo_none,
  lo_if (fun x => decide (x = 0)) 807 756,
  lo_none,
  lo_none,
  lo_iload 15 758,
  lo_none,
  lo_aload 1 759,
  lo_iload 11 761,
  lo_none,
  lo_callv fX11_goingOf 1 727906 764,
  lo_none,
  lo_none,
  lo_icmp (fun x y => decide (¬ x = y)) 803 767,
  lo_none,
  lo_none,
  lo_iload 15 769,
  lo_none,
  lo_if (fun x => decide (x ≤ 0)) 803 772,
  lo_none,
  lo_none,
  lo_iload 15 774,
  lo_none,
  lo_pushI 4 775,
  lo_icmp (fun x y => decide (x < y)) 788 778,
  lo_none,
  lo_none,
  lo_aload 1 779,
  lo_iload 11 781,
  lo_none,
  lo_callv fX11_ownerOf 1 727906 784,
  lo_none,
  lo_none,
  lo_pushI (-1) 785,
  lo_icmp (fun x y => decide (¬ x = y)) 803 788,
  lo_none,
  lo_none,
  lo_aload 1 789,
  lo_callv fX11_version 0 727906 792,
  lo_none,
  lo_none,
  lo_iload 13 794,
  lo_none,
  lo_pushI 1 795,
  lo_ii (fun x y => x + y) 796,
  lo_icmp (fun x y => decide (¬ x = y)) 803 799,
  lo_none,
  lo_none,
  lo_pushI 1 800,
  lo_goto 820,
  lo_none,
  lo_none,
  lo_pushI 0 804,
  lo_goto 820,
  lo_none,
  lo_none,
  lo_iload 15 809,
  lo_none,
  lo_pushI (-1273) 812,
  lo_none,
  lo_none,
  lo_icmp (fun x y => decide (¬ x = y)) 819 815,
  lo_none,
  lo_none,
  lo_pushI 1 816,
  lo_goto 820,
  lo_none,
  lo_none,
  lo_pushI 0 820,
  lo_istore 5 822,
  lo_none,
  lo_goto 1715,
  lo_none,
  lo_none,
  lo_iload 9 827,
  lo_none,
  lo_pushI 10 829,
  lo_none,
  lo_icmp (fun x y => decide (¬ x = y)) 922 832,
  lo_none,
  lo_none,
  lo_aload 1 833,
  lo_pushI 4 834,
  lo_iload 11 836,
  lo_none,
  lo_iload 8 838,
  lo_none,
  lo_pushI 60 840,
  lo_none,
  lo_iid (fun x y => x / y) 841,
  lo_pushI 3 842,
  lo_iid (fun x y => x - x / y * y) 843,
  lo_pushI 2 844,
  lo_iid (fun x y => x / y) 845,
  lo_pushI 0 846,
  lo_pushI 0 847,
  lo_pushI 0 848,
  lo_pushI 0 849,
  lo_calls fL_act 8 1 727906 852,
  lo_none,
  lo_none,
  lo_istore 14 854,
  lo_none,
  lo_iload 14 856,
  lo_none,
  lo_pushI (-1273) 859,
  lo_none,
  lo_none,
  lo_icmp (fun x y => decide (¬ x = y)) 880 862,
  lo_none,
  lo_none,
  lo_aload 1 863,
  lo_iload 11 865,
  lo_none,
  lo_callv fX11_goingOf 1 727906 868,
  lo_none,
  lo_none,
  lo_pushI 4 869,
  lo_icmp (fun x y => decide (¬ x = y)) 876 872,
  lo_none,
  lo_none,
  lo_pushI 1 873,
  lo_goto 917,
  lo_none,
  lo_none,
  lo_pushI 0 877,
  lo_goto 917,
  lo_none,
  lo_none,
  lo_aload 1 881,
  lo_pushI 4 882,
  lo_iload 11 884,
  lo_none,
  lo_iload 8 886,
  lo_none,
  lo_pushI 60 888,
  lo_none,
  lo_iid (fun x y => x / y) 889,
  lo_pushI 3 890,
  lo_iid (fun x y => x - x / y * y) 891,
  lo_pushI 2 892,
  lo_iid (fun x y => x / y) 893,
  lo_pushI 0 894,
  lo_pushI 0 895,
  lo_pushI 0 896,
  lo_pushI 0 897,
  lo_calls fL_act 8 1 727906 900,
  lo_none,
  lo_none,
  lo_iload 8 902,
  lo_none,
  lo_pushI 60 904,
  lo_none,
  lo_iid (fun x y => x / y) 905,
  lo_pushI 3 906,
  lo_iid (fun x y => x - x / y * y) 907,
  lo_pushI 2 908,
  lo_iid (fun x y => x / y) 909,
  lo_icmp (fun x y => decide (¬ x = y)) 916 912,
  lo_none,
  lo_none,
  lo_pushI 1 913,
  lo_goto 917,
  lo_none,
  lo_none,
  lo_pushI 0 917,
  lo_istore 5 919,
  lo_none,
  lo_goto 1715,
  lo_none,
  lo_none,
  lo_iload 9 924,
  lo_none,
  lo_pushI 11 926,
  lo_none,
  lo_icmp (fun x y => decide (¬ x = y)) 1040 929,
  lo_none,
  lo_none,
  lo_iload 12 931,
  lo_none,
  lo_pushI 2 932,
  lo_icmp (fun x y => decide (¬ x = y)) 1040 935,
  lo_none,
  lo_none,
  lo_aload 1 936,
  lo_iload 11 938,
  lo_none,
  lo_callv fX11_goingOf 1 727906 941,
  lo_none,
  lo_none,
  lo_pushI 4 942,
  lo_icmp (fun x y => decide (y ≤ x)) 959 945,
  lo_none,
  lo_none,
  lo_aload 1 946,
  lo_iload 11 948,
  lo_none,
  lo_callv fX11_phaseOf 1 727906 951,
  lo_none,
  lo_none,
  lo_pushI 1 952,
  lo_icmp (fun x y => decide (¬ x = y)) 959 955,
  lo_none,
  lo_none,
  lo_pushI 1 956,
  lo_goto 960,
  lo_none,
  lo_none,
  lo_pushI 0 960,
  lo_istore 14 962,
  lo_none,
  lo_aload 1 963,
  lo_pushI 5 964,
  lo_iload 11 966,
  lo_none,
  lo_iload 8 968,
  lo_none,
  lo_pushI 60 970,
  lo_none,
  lo_iid (fun x y => x / y) 971,
  lo_pushI 2 972,
  lo_iid (fun x y => x - x / y * y) 973,
  lo_pushI 0 974,
  lo_pushI 0 975,
  lo_pushI 0 976,
  lo_pushI 0 977,
  lo_calls fL_act 8 1 727906 980,
  lo_none,
  lo_none,
  lo_istore 15 982,
  lo_none,
  lo_iload 14 984,
  lo_none,
  lo_if (fun x => decide (x = 0)) 1022 987,
  lo_none,
  lo_none,
  lo_iload 15 989,
  lo_none,
  lo_iload 13 991,
  lo_none,
  lo_pushI 1 992,
  lo_ii (fun x y => x + y) 993,
  lo_icmp (fun x y => decide (¬ x = y)) 1018 996,
  lo_none,
  lo_none,
  lo_aload 1 997,
  lo_iload 11 999,
  lo_none,
  lo_callv fX11_phaseOf 1 727906 1002,
  lo_none,
  lo_none,
  lo_pushI 3 1003,
  lo_iload 8 1005,
  lo_none,
  lo_pushI 60 1007,
  lo_none,
  lo_iid (fun x y => x / y) 1008,
  lo_pushI 2 1009,
  lo_iid (fun x y => x - x / y * y) 1010,
  lo_ii (fun x y => x - y) 1011,
  lo_icmp (fun x y => decide (¬ x = y)) 1018 1014,
  lo_none,
  lo_none,
  lo_pushI 1 1015,
  lo_goto 1035,
  lo_none,
  lo_none,
  lo_pushI 0 1019,
  lo_goto 1035,
  lo_none,
  lo_none,
  lo_iload 15 1024,
  lo_none,
  lo_pushI (-1273) 1027,
  lo_none,
  lo_none,
  lo_icmp (fun x y => decide (¬ x = y)) 1034 1030,
  lo_none,
  lo_none,
  lo_pushI 1 1031,
  lo_goto 1035,
  lo_none,
  lo_none,
  lo_pushI 0 1035,
  lo_istore 5 1037,
  lo_none,
  lo_goto 1715,
  lo_none,
  lo_none,
  lo_iload 9 1042,
  lo_none,
  lo_pushI 12 1044,
  lo_none,
  lo_icmp (fun x y => decide (¬ x = y)) 1056 1047,
  lo_none,
  lo_none,
  lo_aload 1 1048,
  lo_calls fL_isAtRest 1 84 727906 1051,
  lo_none,
  lo_none,
  lo_istore 5 1053,
  lo_none,
  lo_goto 1715,
  lo_none,
  lo_none,
  lo_iload 9 1058,
  lo_none,
  lo_pushI 13 1060,
  lo_none,
  lo_icmp (fun x y => decide (¬ x = y)) 1154 1063,
  lo_none,
  lo_none,
  lo_iload 8 1065,
  lo_none,
  lo_pushI 4 1066,
  lo_iid (fun x y => x - x / y * y) 1067,
  lo_istore 14 1069,
  lo_none,
  lo_aload 3 1070,
  lo_iload 14 1072,
  lo_none,
  lo_iald zzSC (zzSTC ++ [sc]) 1073,
  lo_iload 4 1075,
  lo_none,
  lo_icmp (fun x y => decide (y ≤ x)) 1084 1078,
  lo_none,
  lo_none,
  lo_pushI (-1273) 1081,
  lo_none,
  lo_none,
  lo_goto 1107,
  lo_none,
  lo_none,
  lo_aload 3 1085,
  lo_iload 14 1087,
  lo_none,
  lo_iald zzSC (zzSTC ++ [sc]) 1088,
  lo_iload 13 1090,
  lo_none,
  lo_icmp (fun x y => decide (¬ x = y)) 1097 1093,
  lo_none,
  lo_none,
  lo_pushI (-1) 1094,
  lo_goto 1107,
  lo_none,
  lo_none,
  lo_aload 1 1098,
  lo_aload 3 1099,
  lo_iload 14 1101,
  lo_none,
  lo_iald zzSC (zzSTC ++ [sc]) 1102,
  lo_pushI 1 1103,
  lo_ii (fun x y => x + y) 1104,
  lo_callv fX11_objectOf 1 727906 1107,
  lo_none,
  lo_none,
  lo_istore 15 1109,
  lo_none,
  lo_aload 1 1110,
  lo_pushI 13 1112,
  lo_none,
  lo_iload 14 1114,
  lo_none,
  lo_pushI 0 1115,
  lo_pushI 0 1116,
  lo_pushI 0 1117,
  lo_pushI 0 1118,
  lo_pushI 0 1119,
  lo_calls fL_act 8 1 727906 1122,
  lo_none,
  lo_none,
  lo_iload 15 1124,
  lo_none,
  lo_icmp (fun x y => decide (¬ x = y)) 1131 1127,
  lo_none,
  lo_none,
  lo_pushI 1 1128,
  lo_goto 1132,
  lo_none,
  lo_none,
  lo_pushI 0 1132,
  lo_istore 5 1134,
  lo_none,
  lo_aload 3 1135,
  lo_iload 14 1137,
  lo_none,
  lo_dup2 1138,
  lo_iald zzSC (zzSTC ++ [sc]) 1139,
  lo_iload 15 1141,
  lo_none,
  lo_if (fun x => decide (x < 0)) 1148 1144,
  lo_none,
  lo_none,
  lo_pushI 1 1145,
  lo_goto 1149,
  lo_none,
  lo_none,
  lo_pushI 0 1149,
  lo_ii (fun x y => x + y) 1150,
  lo_iast zzSC 1151,
  lo_goto 1715,
  lo_none,
  lo_none,
  lo_iload 9 1156,
  lo_none,
  lo_pushI 14 1158,
  lo_none,
  lo_icmp (fun x y => decide (¬ x = y)) 1243 1161,
  lo_none,
  lo_none,
  lo_iload 8 1163,
  lo_none,
  lo_pushI 4 1164,
  lo_iid (fun x y => x - x / y * y) 1165,
  lo_istore 14 1167,
  lo_none,
  lo_iload 8 1169,
  lo_none,
  lo_pushI 4 1170,
  lo_iid (fun x y => x / y) 1171,
  lo_iload 13 1173,
  lo_none,
  lo_pushI 1 1174,
  lo_ii (fun x y => x + y) 1175,
  lo_iid (fun x y => x - x / y * y) 1176,
  lo_istore 15 1178,
  lo_none,
  lo_aload 1 1179,
  lo_pushI 12 1181,
  lo_none,
  lo_iload 14 1183,
  lo_none,
  lo_iload 15 1185,
  lo_none,
  lo_pushI 0 1186,
  lo_pushI 0 1187,
  lo_pushI 0 1188,
  lo_pushI 0 1189,
  lo_calls fL_act 8 1 727906 1192,
  lo_none,
  lo_none,
  lo_iload 15 1194,
  lo_none,
  lo_iload 4 1196,
  lo_none,
  lo_icmp (fun x y => decide (y ≤ x)) 1205 1199,
  lo_none,
  lo_none,
  lo_pushI (-1273) 1202,
  lo_none,
  lo_none,
  lo_goto 1210,
  lo_none,
  lo_none,
  lo_iload 13 1207,
  lo_none,
  lo_iload 15 1209,
  lo_none,
  lo_ii (fun x y => x - y) 1210,
  lo_icmp (fun x y => decide (¬ x = y)) 1217 1213,
  lo_none,
  lo_none,
  lo_pushI 1 1214,
  lo_goto 1218,
  lo_none,
  lo_none,
  lo_pushI 0 1218,
  lo_istore 5 1220,
  lo_none,
  lo_aload 3 1221,
  lo_iload 14 1223,
  lo_none,
  lo_iload 15 1225,
  lo_none,
  lo_iload 4 1227,
  lo_none,
  lo_icmp (fun x y => decide (y ≤ x)) 1237 1230,
  lo_none,
  lo_none,
  lo_aload 3 1231,
  lo_iload 14 1233,
  lo_none,
  lo_iald zzSC (zzSTC ++ [sc]) 1234,
  lo_goto 1239,
  lo_none,
  lo_none,
  lo_iload 15 1239,
  lo_none,
  lo_iast zzSC 1240,
  lo_goto 1715,
  lo_none,
  lo_none,
  lo_iload 9 1245,
  lo_none,
  lo_pushI 15 1247,
  lo_none,
  lo_icmp (fun x y => decide (¬ x = y)) 1312 1250,
  lo_none,
  lo_none,
  lo_iload 8 1252,
  lo_none,
  lo_pushI 3 1253,
  lo_iid (fun x y => x - x / y * y) 1254,
  lo_if (fun x => decide (¬ x = 0)) 1312 1257,
  lo_none,
  lo_none,
  lo_iload 8 1259,
  lo_none,
  lo_pushI 4 1260,
  lo_iid (fun x y => x / y) 1261,
  lo_iload 13 1263,
  lo_none,
  lo_pushI 1 1264,
  lo_ii (fun x y => x + y) 1265,
  lo_iid (fun x y => x - x / y * y) 1266,
  lo_istore 14 1268,
  lo_none,
  lo_iload 14 1270,
  lo_none,
  lo_iload 4 1272,
  lo_none,
  lo_icmp (fun x y => decide (x ≤ y)) 1280 1275,
  lo_none,
  lo_none,
  lo_iload 14 1277,
  lo_none,
  lo_goto 1282,
  lo_none,
  lo_none,
  lo_iload 4 1282,
  lo_none,
  lo_istore 4 1284,
  lo_none,
  lo_aload 1 1285,
  lo_pushI 14 1287,
  lo_none,
  lo_iload 14 1289,
  lo_none,
  lo_pushI 0 1290,
  lo_pushI 0 1291,
  lo_pushI 0 1292,
  lo_pushI 0 1293,
  lo_pushI 0 1294,
  lo_calls fL_act 8 1 727906 1297,
  lo_none,
  lo_none,
  lo_iload 4 1299,
  lo_none,
  lo_icmp (fun x y => decide (¬ x = y)) 1306 1302,
  lo_none,
  lo_none,
  lo_pushI 1 1303,
  lo_goto 1307,
  lo_none,
  lo_none,
  lo_pushI 0 1307,
  lo_istore 5 1309,
  lo_none,
  lo_goto 1715,
  lo_none,
  lo_none,
  lo_iload 9 1314,
  lo_none,
  lo_pushI 15 1316,
  lo_none,
  lo_icmp (fun x y => decide (¬ x = y)) 1396 1319,
  lo_none,
  lo_none,
  lo_pushI 0 1320,
  lo_istore 14 1322,
  lo_none,
  lo_pushI 0 1323,
  lo_istore 15 1325,
  lo_none,
  lo_iload 15 1327,
  lo_none,
  lo_iload 10 1329,
  lo_none,
  lo_icmp (fun x y => decide (y ≤ x)) 1358 1332,
  lo_none,
  lo_none,
  lo_iload 14 1334,
  lo_none,
  lo_aload 1 1335,
  lo_iload 15 1337,
  lo_none,
  lo_callv fX11_goingOf 1 727906 1340,
  lo_none,
  lo_none,
  lo_pushI 4 1341,
  lo_icmp (fun x y => decide (y ≤ x)) 1348 1344,
  lo_none,
  lo_none,
  lo_pushI 1 1345,
  lo_goto 1349,
  lo_none,
  lo_none,
  lo_pushI 0 1349,
  lo_ii (fun x y => x + y) 1350,
  lo_istore 14 1352,
  lo_none,
  lo_iinc 15 1 1355,
  lo_none,
  lo_none,
  lo_goto 1325,
  lo_none,
  lo_none,
  lo_aload 1 1359,
  lo_pushI 18 1361,
  lo_none,
  lo_iload 8 1363,
  lo_none,
  lo_pushI 4 1364,
  lo_iid (fun x y => x - x / y * y) 1365,
  lo_pushI 0 1366,
  lo_pushI 0 1367,
  lo_pushI 0 1368,
  lo_pushI 0 1369,
  lo_pushI 0 1370,
  lo_calls fL_act 8 1 727906 1373,
  lo_none,
  lo_none,
  lo_iload 14 1375,
  lo_none,
  lo_icmp (fun x y => decide (¬ x = y)) 1382 1378,
  lo_none,
  lo_none,
  lo_pushI 1 1379,
  lo_goto 1383,
  lo_none,
  lo_none,
  lo_pushI 0 1383,
  lo_istore 5 1385,
  lo_none,
  lo_aload 3 1386,
  lo_iload 8 1388,
  lo_none,
  lo_pushI 4 1389,
  lo_iid (fun x y => x - x / y * y) 1390,
  lo_iload 13 1392,
  lo_none,
  lo_iast zzSC 1393,
  lo_goto 1715,
  lo_none,
  lo_none,
  lo_iload 9 1398,
  lo_none,
  lo_pushI 16 1400,
  lo_none,
  lo_icmp (fun x y => decide (¬ x = y)) 1443 1403,
  lo_none,
  lo_none,
  lo_aload 1 1404,
  lo_pushI 15 1406,
  lo_none,
  lo_pushI 1 1407,
  lo_iload 8 1409,
  lo_none,
  lo_pushI 12 1411,
  lo_none,
  lo_iid (fun x y => x - x / y * y) 1412,
  lo_ii (fun x y => x + y) 1413,
  lo_pushI 0 1414,
  lo_pushI 0 1415,
  lo_pushI 0 1416,
  lo_pushI 0 1417,
  lo_pushI 0 1418,
  lo_calls fL_act 8 1 727906 1421,
  lo_none,
  lo_none,
  lo_if (fun x => decide (x ≤ 0)) 1437 1424,
  lo_none,
  lo_none,
  lo_aload 1 1425,
  lo_callv fX11_version 0 727906 1428,
  lo_none,
  lo_none,
  lo_iload 13 1430,
  lo_none,
  lo_icmp (fun x y => decide (x < y)) 1437 1433,
  lo_none,
  lo_none,
  lo_pushI 1 1434,
  lo_goto 1438,
  lo_none,
  lo_none,
  lo_pushI 0 1438,
  lo_istore 5 1440,
  lo_none,
  lo_goto 1715,
  lo_none,
  lo_none,
  lo_iload 9 1445,
  lo_none,
  lo_pushI 17 1447,
  lo_none,
  lo_icmp (fun x y => decide (¬ x = y)) 1568 1450,
  lo_none,
  lo_none,
  lo_iload 12 1452,
  lo_none,
  lo_pushI 4 1453,
  lo_icmp (fun x y => decide (¬ x = y)) 1568 1456,
  lo_none,
  lo_none,
  lo_aload 1 1457,
  lo_iload 11 1459,
  lo_none,
  lo_callv fX11_goingOf 1 727906 1462,
  lo_none,
  lo_none,
  lo_pushI 4 1463,
  lo_icmp (fun x y => decide (¬ x = y)) 1470 1466,
  lo_none,
  lo_none,
  lo_pushI 1 1467,
  lo_goto 1471,
  lo_none,
  lo_none,
  lo_pushI 0 1471,
  lo_istore 14 1473,
  lo_none,
  lo_aload 1 1474,
  lo_iload 11 1476,
  lo_none,
  lo_callv fX11_isReady 1 727906 1479,
  lo_none,
  lo_none,
  lo_if (fun x => decide (x = 0)) 1486 1482,
  lo_none,
  lo_none,
  lo_pushI 1 1483,
  lo_goto 1487,
  lo_none,
  lo_none,
  lo_pushI 0 1487,
  lo_istore 15 1489,
  lo_none,
  lo_aload 1 1490,
  lo_pushI 16 1492,
  lo_none,
  lo_iload 11 1494,
  lo_none,
  lo_pushI 0 1495,
  lo_pushI 0 1496,
  lo_pushI 0 1497,
  lo_pushI 0 1498,
  lo_pushI 0 1499,
  lo_calls fL_act 8 1 727906 1502,
  lo_none,
  lo_none,
  lo_iload 14 1504,
  lo_none,
  lo_if (fun x => decide (x = 0)) 1513 1507,
  lo_none,
  lo_none,
  lo_pushI (-1273) 1510,
  lo_none,
  lo_none,
  lo_goto 1515,
  lo_none,
  lo_none,
  lo_iload 15 1515,
  lo_none,
  lo_icmp (fun x y => decide (¬ x = y)) 1562 1518,
  lo_none,
  lo_none,
  lo_iload 14 1520,
  lo_none,
  lo_if (fun x => decide (¬ x = 0)) 1532 1523,
  lo_none,
  lo_none,
  lo_aload 1 1524,
  lo_iload 11 1526,
  lo_none,
  lo_callv fX11_isReady 1 727906 1529,
  lo_none,
  lo_none,
  lo_if (fun x => decide (x = 0)) 1562 1532,
  lo_none,
  lo_none,
  lo_aload 1 1533,
  lo_callv fX11_version 0 727906 1536,
  lo_none,
  lo_none,
  lo_iload 13 1538,
  lo_none,
  lo_iload 14 1540,
  lo_none,
  lo_if (fun x => decide (¬ x = 0)) 1549 1543,
  lo_none,
  lo_none,
  lo_iload 15 1545,
  lo_none,
  lo_pushI 1 1546,
  lo_icmp (fun x y => decide (¬ x = y)) 1553 1549,
  lo_none,
  lo_none,
  lo_pushI 0 1550,
  lo_goto 1554,
  lo_none,
  lo_none,
  lo_pushI 1 1554,
  lo_ii (fun x y => x + y) 1555,
  lo_icmp (fun x y => decide (¬ x = y)) 1562 1558,
  lo_none,
  lo_none,
  lo_pushI 1 1559,
  lo_goto 1563,
  lo_none,
  lo_none,
  lo_pushI 0 1563,
  lo_istore 5 1565,
  lo_none,
  lo_goto 1715,
  lo_none,
  lo_none,
  lo_iload 9 1570,
  lo_none,
  lo_pushI 25 1572,
  lo_none,
  lo_icmp (fun x y => decide (y ≤ x)) 1704 1575,
  lo_none,
  lo_none,
  lo_iload 8 1577,
  lo_none,
  lo_pushI 8 1579,
  lo_none,
  lo_iid (fun x y => x - x / y * y) 1580,
  lo_istore 14 1582,
  lo_none,
  lo_aload 1 1583,
  lo_iload 14 1585,
  lo_none,
  lo_callv fX11_seen 1 727906 1588,
  lo_none,
  lo_none,
  lo_istore 15 1590,
  lo_none,
  lo_aload 1 1591,
  lo_pushI 9 1593,
  lo_none,
  lo_iload 14 1595,
  lo_none,
  lo_pushI 1 1596,
  lo_iload 8 1598,
  lo_none,
  lo_pushI 8 1600,
  lo_none,
  lo_iid (fun x y => x / y) 1601,
  lo_pushI 30 1603,
  lo_none,
  lo_iid (fun x y => x - x / y * y) 1604,
  lo_ii (fun x y => x + y) 1605,
  lo_pushI 0 1606,
  lo_pushI 0 1607,
  lo_pushI 0 1608,
  lo_pushI 0 1609,
  lo_calls fL_act 8 1 727906 1612,
  lo_none,
  lo_none,
  lo_istore 16 1614,
  lo_none,
  lo_iload 16 1616,
  lo_none,
  lo_if (fun x => decide (x < 0)) 1698 1619,
  lo_none,
  lo_none,
  lo_iload 15 1621,
  lo_none,
  lo_iload 4 1623,
  lo_none,
  lo_icmp (fun x y => decide (y ≤ x)) 1640 1626,
  lo_none,
  lo_none,
  lo_aload 1 1627,
  lo_iload 14 1629,
  lo_none,
  lo_callv fX11_seen 1 727906 1632,
  lo_none,
  lo_none,
  lo_iload 13 1634,
  lo_none,
  lo_icmp (fun x y => decide (¬ x = y)) 1698 1637,
  lo_none,
  lo_none,
  lo_goto 1685,
  lo_none,
  lo_none,
  lo_aload 1 1641,
  lo_iload 14 1643,
  lo_none,
  lo_callv fX11_seen 1 727906 1646,
  lo_none,
  lo_none,
  lo_iload 15 1648,
  lo_none,
  lo_pushI 1 1649,
  lo_ii (fun x y => x + y) 1650,
  lo_iload 8 1652,
  lo_none,
  lo_pushI 8 1654,
  lo_none,
  lo_iid (fun x y => x / y) 1655,
  lo_pushI 30 1657,
  lo_none,
  lo_iid (fun x y => x - x / y * y) 1658,
  lo_ii (fun x y => x + y) 1659,
  lo_iload 13 1661,
  lo_none,
  lo_icmp (fun x y => decide (y ≤ x)) 1680 1664,
  lo_none,
  lo_none,
  lo_iload 15 1666,
  lo_none,
  lo_pushI 1 1667,
  lo_ii (fun x y => x + y) 1668,
  lo_iload 8 1670,
  lo_none,
  lo_pushI 8 1672,
  lo_none,
  lo_iid (fun x y => x / y) 1673,
  lo_pushI 30 1675,
  lo_none,
  lo_iid (fun x y => x - x / y * y) 1676,
  lo_ii (fun x y => x + y) 1677,
  lo_goto 1682,
  lo_none,
  lo_none,
  lo_iload 13 1682,
  lo_none,
  lo_icmp (fun x y => decide (¬ x = y)) 1698 1685,
  lo_none,
  lo_none,
  lo_aload 1 1686,
  lo_callv fX11_version 0 727906 1689,
  lo_none,
  lo_none,
  lo_iload 13 1691,
  lo_none,
  lo_icmp (fun x y => decide (¬ x = y)) 1698 1694,
  lo_none,
  lo_none,
  lo_pushI 1 1695,
  lo_goto 1699,
  lo_none,
  lo_none,
  lo_pushI 0 1699,
  lo_istore 5 1701,
  lo_none,
  lo_goto 1715,
  lo_none,
  lo_none,
  lo_aload 1 1705,
  lo_iload 8 1707,
  lo_none,
  lo_pushI 8 1709,
  lo_none,
  lo_iid (fun x y => x - x / y * y) 1710,
  lo_calls fL_isWorked 2 2641 727906 1713,
  lo_none,
  lo_none,
  lo_istore 5 1715,
  lo_none,
  lo_iload 5 1717,
  lo_none,
  lo_if (fun x => decide (x = 0)) 1779 1720,
  lo_none,
  lo_none,
  lo_iload 6 1722,
  lo_none,
  lo_pushI 3 1723,
  lo_iid (fun x y => x - x / y * y) 1724,
  lo_if (fun x => decide (0 < x)) 1742 1727,
  lo_none,
  lo_none,
  lo_aload 1 1728,
  lo_aload 2 1729,
  lo_calls fL_areVersions 2 2 727906 1732,
  lo_none,
  lo_none,
  lo_if (fun x => decide (x = 0)) 1779 1735,
  lo_none,
  lo_none,
  lo_aload 1 1736,
  lo_calls fL_areObjects 1 1320 727906 1739,
  lo_none,
  lo_none,
  lo_if (fun x => decide (x = 0)) 1779 1742,
  lo_none,
  lo_none,
  lo_iload 6 1744,
  lo_none,
  lo_pushI 2 1745,
  lo_iid (fun x y => x - x / y * y) 1746,
  lo_if (fun x => decide (0 < x)) 1756 1749,
  lo_none,
  lo_none,
  lo_aload 1 1750,
  lo_calls fL_areQueues 1 0 727906 1753,
  lo_none,
  lo_none,
  lo_if (fun x => decide (x = 0)) 1779 1756,
  lo_none,
  lo_none,
  lo_iload 6 1758,
  lo_none,
  lo_pushI 25 1760,
  lo_none,
  lo_iid (fun x y => x - x / y * y) 1761,
  lo_if (fun x => decide (0 < x)) 1775 1764,
  lo_none,
  lo_none,
  lo_aload 1 1765,
  lo_iload 7 1767,
  lo_none,
  lo_pushI 3 1768,
  lo_iid (fun x y => x / y) 1769,
  lo_calls fL_isRefused 2 3600 727906 1772,
  lo_none,
  lo_none,
  lo_if (fun x => decide (x = 0)) 1779 1775,
  lo_none,
  lo_none,
  lo_pushI 1 1776,
  lo_goto 1780,
  lo_none,
  lo_none,
  lo_pushI 0 1780,
  lo_istore 5 1782,
  lo_none,
  lo_iinc 6 1 1785,
  lo_none,
  lo_none,
  lo_goto 53,
  lo_none,
  lo_none,
  lo_iload 5 1790,
  lo_none,
  lo_if (fun x => decide (x = 0)) 1819 1793,
  lo_none,
  lo_none,
  lo_aload 1 1794,
  lo_aload 2 1795,
  lo_calls fL_areVersions 2 2 727906 1798,
  lo_none,
  lo_none,
  lo_if (fun x => decide (x = 0)) 1819 1801,
  lo_none,
  lo_none,
  lo_aload 1 1802,
  lo_calls fL_areQueues 1 0 727906 1805,
  lo_none,
  lo_none,
  lo_if (fun x => decide (x = 0)) 1819 1808,
  lo_none,
  lo_none,
  lo_aload 1 1809,
  lo_calls fL_areObjects 1 1320 727906 1812,
  lo_none,
  lo_none,
  lo_if (fun x => decide (x = 0)) 1819 1815,
  lo_none,
  lo_none,
  lo_pushI 1 1816,
  lo_goto 1820,
  lo_none,
  lo_none,
  lo_pushI 0 1820,
  lo_iret 727906 true]
set_option maxRecDepth 100000 in
theorem tl_L_law (sc : List Int32) : ∀ pc, lz_Tl ((tL_law sc).getD pc lo_none) := by
  refine lz_Tl_mem ?_
  unfold tL_law
  refine List.forall_mem_cons.mpr ⟨lo_none_tl, ?_⟩
  refine List.forall_mem_cons.mpr ⟨lo_none_tl, ?_⟩
  refine List.forall_mem_cons.mpr ⟨lo_none_tl, ?_⟩
  refine List.forall_mem_cons.mpr ⟨lo_none_tl, ?_⟩
  refine List.forall_mem_cons.mpr ⟨lo_none_tl, ?_⟩
  refine List.forall_mem_cons.mpr ⟨lo_none_tl, ?_⟩
  refine List.forall_mem_cons.mpr ⟨lo_none_tl, ?_⟩
  refine List.forall_mem_cons.mpr ⟨lo_none_tl, ?_⟩
  refine List.forall_mem_cons.mpr ⟨lo_none_tl, ?_⟩
  refine List.forall_mem_cons.mpr ⟨lo_none_tl, ?_⟩
  refine List.forall_mem_cons.mpr ⟨lo_none_tl, ?_⟩
  refine List.forall_mem_cons.mpr ⟨lo_none_tl, ?_⟩
  refine List.forall_mem_cons.mpr ⟨lo_none_tl, ?_⟩
  refine List.forall_mem_cons.mpr ⟨lo_none_tl, ?_⟩
  refine List.forall_mem_cons.mpr ⟨lo_none_tl, ?_⟩
  refine List.forall_mem_cons.mpr ⟨lo_none_tl, ?_⟩
  refine List.forall_mem_cons.mpr ⟨lo_none_tl, ?_⟩
  refine List.forall_mem_cons.mpr ⟨(lo_pushI_tl _ _), ?_⟩
  refine List.forall_mem_cons.mpr ⟨(lo_istore_tl _ _), ?_⟩
  refine List.forall_mem_cons.mpr ⟨lo_none_tl, ?_⟩
  refine List.forall_mem_cons.mpr ⟨(lo_aload_tl _ _), ?_⟩
  refine List.forall_mem_cons.mpr ⟨(lo_pushI_tl _ _), ?_⟩
  refine List.forall_mem_cons.mpr ⟨(lo_calls_tl _ _ _ _ _), ?_⟩
  refine List.forall_mem_cons.mpr ⟨lo_none_tl, ?_⟩
  refine List.forall_mem_cons.mpr ⟨lo_none_tl, ?_⟩
  refine List.forall_mem_cons.mpr ⟨(lo_if_tl _ _ _), ?_⟩
  refine List.forall_mem_cons.mpr ⟨lo_none_tl, ?_⟩
  refine List.forall_mem_cons.mpr ⟨lo_none_tl, ?_⟩
  refine List.forall_mem_cons.mpr ⟨(lo_aload_tl _ _), ?_⟩
  refine List.forall_mem_cons.mpr ⟨(lo_pushI_tl _ _), ?_⟩
  refine List.forall_mem_cons.mpr ⟨(lo_calls_tl _ _ _ _ _), ?_⟩
  refine List.forall_mem_cons.mpr ⟨lo_none_tl, ?_⟩
  refine List.forall_mem_cons.mpr ⟨lo_none_tl, ?_⟩
  refine List.forall_mem_cons.mpr ⟨(lo_if_tl _ _ _), ?_⟩
  refine List.forall_mem_cons.mpr ⟨lo_none_tl, ?_⟩
  refine List.forall_mem_cons.mpr ⟨lo_none_tl, ?_⟩
  refine List.forall_mem_cons.mpr ⟨(lo_aload_tl _ _), ?_⟩
  refine List.forall_mem_cons.mpr ⟨(lo_callv_tl _ _ _ _), ?_⟩
  refine List.forall_mem_cons.mpr ⟨lo_none_tl, ?_⟩
  refine List.forall_mem_cons.mpr ⟨lo_none_tl, ?_⟩
  refine List.forall_mem_cons.mpr ⟨(lo_if_tl _ _ _), ?_⟩
  refine List.forall_mem_cons.mpr ⟨lo_none_tl, ?_⟩
  refine List.forall_mem_cons.mpr ⟨lo_none_tl, ?_⟩
  refine List.forall_mem_cons.mpr ⟨(lo_pushI_tl _ _), ?_⟩
  refine List.forall_mem_cons.mpr ⟨(lo_goto_tl _), ?_⟩
  refine List.forall_mem_cons.mpr ⟨lo_none_tl, ?_⟩
  refine List.forall_mem_cons.mpr ⟨lo_none_tl, ?_⟩
  refine List.forall_mem_cons.mpr ⟨(lo_pushI_tl _ _), ?_⟩
  refine List.forall_mem_cons.mpr ⟨(lo_istore_tl _ _), ?_⟩
  refine List.forall_mem_cons.mpr ⟨lo_none_tl, ?_⟩
  refine List.forall_mem_cons.mpr ⟨(lo_pushI_tl _ _), ?_⟩
  refine List.forall_mem_cons.mpr ⟨(lo_istore_tl _ _), ?_⟩
  refine List.forall_mem_cons.mpr ⟨lo_none_tl, ?_⟩
  refine List.forall_mem_cons.mpr ⟨(lo_iload_tl _ _), ?_⟩
  refine List.forall_mem_cons.mpr ⟨lo_none_tl, ?_⟩
  refine List.forall_mem_cons.mpr ⟨(lo_pushI_tl _ _), ?_⟩
  refine List.forall_mem_cons.mpr ⟨lo_none_tl, ?_⟩
  refine List.forall_mem_cons.mpr ⟨(lo_icmp_tl _ _ _), ?_⟩
  refine List.forall_mem_cons.mpr ⟨lo_none_tl, ?_⟩
  refine List.forall_mem_cons.mpr ⟨lo_none_tl, ?_⟩
  refine List.forall_mem_cons.mpr ⟨(lo_iload_tl _ _), ?_⟩
  refine List.forall_mem_cons.mpr ⟨lo_none_tl, ?_⟩
  refine List.forall_mem_cons.mpr ⟨(lo_if_tl _ _ _), ?_⟩
  refine List.forall_mem_cons.mpr ⟨lo_none_tl, ?_⟩
  refine List.forall_mem_cons.mpr ⟨lo_none_tl, ?_⟩
  refine List.forall_mem_cons.mpr ⟨(lo_aload_tl _ _), ?_⟩
  refine List.forall_mem_cons.mpr ⟨(lo_callv_tl _ _ _ _), ?_⟩
  refine List.forall_mem_cons.mpr ⟨lo_none_tl, ?_⟩
  refine List.forall_mem_cons.mpr ⟨lo_none_tl, ?_⟩
  refine List.forall_mem_cons.mpr ⟨(lo_pushI_tl _ _), ?_⟩
  refine List.forall_mem_cons.mpr ⟨lo_none_tl, ?_⟩
  refine List.forall_mem_cons.mpr ⟨lo_none_tl, ?_⟩
  refine List.forall_mem_cons.mpr ⟨(lo_icmp_tl _ _ _), ?_⟩
  refine List.forall_mem_cons.mpr ⟨lo_none_tl, ?_⟩
  refine List.forall_mem_cons.mpr ⟨lo_none_tl, ?_⟩
  refine List.forall_mem_cons.mpr ⟨(lo_aload_tl _ _), ?_⟩
  refine List.forall_mem_cons.mpr ⟨(lo_iload_tl _ _), ?_⟩
  refine List.forall_mem_cons.mpr ⟨lo_none_tl, ?_⟩
  refine List.forall_mem_cons.mpr ⟨(lo_calls_tl _ _ _ _ _), ?_⟩
  refine List.forall_mem_cons.mpr ⟨lo_none_tl, ?_⟩
  refine List.forall_mem_cons.mpr ⟨lo_none_tl, ?_⟩
  refine List.forall_mem_cons.mpr ⟨(lo_istore_tl _ _), ?_⟩
  refine List.forall_mem_cons.mpr ⟨lo_none_tl, ?_⟩
  refine List.forall_mem_cons.mpr ⟨(lo_iload_tl _ _), ?_⟩
  refine List.forall_mem_cons.mpr ⟨lo_none_tl, ?_⟩
  refine List.forall_mem_cons.mpr ⟨(lo_pushI_tl _ _), ?_⟩
  refine List.forall_mem_cons.mpr ⟨lo_none_tl, ?_⟩
  refine List.forall_mem_cons.mpr ⟨(lo_iid_tl _ _), ?_⟩
  refine List.forall_mem_cons.mpr ⟨(lo_istore_tl _ _), ?_⟩
  refine List.forall_mem_cons.mpr ⟨lo_none_tl, ?_⟩
  refine List.forall_mem_cons.mpr ⟨(lo_iload_tl _ _), ?_⟩
  refine List.forall_mem_cons.mpr ⟨lo_none_tl, ?_⟩
  refine List.forall_mem_cons.mpr ⟨(lo_pushI_tl _ _), ?_⟩
  refine List.forall_mem_cons.mpr ⟨lo_none_tl, ?_⟩
  refine List.forall_mem_cons.mpr ⟨(lo_iid_tl _ _), ?_⟩
  refine List.forall_mem_cons.mpr ⟨(lo_istore_tl _ _), ?_⟩
  refine List.forall_mem_cons.mpr ⟨lo_none_tl, ?_⟩
  refine List.forall_mem_cons.mpr ⟨(lo_aload_tl _ _), ?_⟩
  refine List.forall_mem_cons.mpr ⟨(lo_callv_tl _ _ _ _), ?_⟩
  refine List.forall_mem_cons.mpr ⟨lo_none_tl, ?_⟩
  refine List.forall_mem_cons.mpr ⟨lo_none_tl, ?_⟩
  refine List.forall_mem_cons.mpr ⟨(lo_istore_tl _ _), ?_⟩
  refine List.forall_mem_cons.mpr ⟨lo_none_tl, ?_⟩
  refine List.forall_mem_cons.mpr ⟨(lo_iload_tl _ _), ?_⟩
  refine List.forall_mem_cons.mpr ⟨lo_none_tl, ?_⟩
  refine List.forall_mem_cons.mpr ⟨(lo_if_tl _ _ _), ?_⟩
  refine List.forall_mem_cons.mpr ⟨lo_none_tl, ?_⟩
  refine List.forall_mem_cons.mpr ⟨lo_none_tl, ?_⟩
  refine List.forall_mem_cons.mpr ⟨(lo_pushI_tl _ _), ?_⟩
  refine List.forall_mem_cons.mpr ⟨(lo_goto_tl _), ?_⟩
  refine List.forall_mem_cons.mpr ⟨lo_none_tl, ?_⟩
  refine List.forall_mem_cons.mpr ⟨lo_none_tl, ?_⟩
  refine List.forall_mem_cons.mpr ⟨(lo_iload_tl _ _), ?_⟩
  refine List.forall_mem_cons.mpr ⟨lo_none_tl, ?_⟩
  refine List.forall_mem_cons.mpr ⟨(lo_iload_tl _ _), ?_⟩
  refine List.forall_mem_cons.mpr ⟨lo_none_tl, ?_⟩
  refine List.forall_mem_cons.mpr ⟨(lo_iid_tl _ _), ?_⟩
  refine List.forall_mem_cons.mpr ⟨(lo_istore_tl _ _), ?_⟩
  refine List.forall_mem_cons.mpr ⟨lo_none_tl, ?_⟩
  refine List.forall_mem_cons.mpr ⟨(lo_iload_tl _ _), ?_⟩
  refine List.forall_mem_cons.mpr ⟨lo_none_tl, ?_⟩
  refine List.forall_mem_cons.mpr ⟨(lo_if_tl _ _ _), ?_⟩
  refine List.forall_mem_cons.mpr ⟨lo_none_tl, ?_⟩
  refine List.forall_mem_cons.mpr ⟨lo_none_tl, ?_⟩
  refine List.forall_mem_cons.mpr ⟨(lo_pushI_tl _ _), ?_⟩
  refine List.forall_mem_cons.mpr ⟨(lo_goto_tl _), ?_⟩
  refine List.forall_mem_cons.mpr ⟨lo_none_tl, ?_⟩
  refine List.forall_mem_cons.mpr ⟨lo_none_tl, ?_⟩
  refine List.forall_mem_cons.mpr ⟨(lo_aload_tl _ _), ?_⟩
  refine List.forall_mem_cons.mpr ⟨(lo_iload_tl _ _), ?_⟩
  refine List.forall_mem_cons.mpr ⟨lo_none_tl, ?_⟩
  refine List.forall_mem_cons.mpr ⟨(lo_callv_tl _ _ _ _), ?_⟩
  refine List.forall_mem_cons.mpr ⟨lo_none_tl, ?_⟩
  refine List.forall_mem_cons.mpr ⟨lo_none_tl, ?_⟩
  refine List.forall_mem_cons.mpr ⟨(lo_istore_tl _ _), ?_⟩
  refine List.forall_mem_cons.mpr ⟨lo_none_tl, ?_⟩
  refine List.forall_mem_cons.mpr ⟨(lo_aload_tl _ _), ?_⟩
  refine List.forall_mem_cons.mpr ⟨(lo_callv_tl _ _ _ _), ?_⟩
  refine List.forall_mem_cons.mpr ⟨lo_none_tl, ?_⟩
  refine List.forall_mem_cons.mpr ⟨lo_none_tl, ?_⟩
  refine List.forall_mem_cons.mpr ⟨(lo_istore_tl _ _), ?_⟩
  refine List.forall_mem_cons.mpr ⟨lo_none_tl, ?_⟩
  refine List.forall_mem_cons.mpr ⟨(lo_iload_tl _ _), ?_⟩
  refine List.forall_mem_cons.mpr ⟨lo_none_tl, ?_⟩
  refine List.forall_mem_cons.mpr ⟨(lo_pushI_tl _ _), ?_⟩
  refine List.forall_mem_cons.mpr ⟨(lo_icmp_tl _ _ _), ?_⟩
  refine List.forall_mem_cons.mpr ⟨lo_none_tl, ?_⟩
  refine List.forall_mem_cons.mpr ⟨lo_none_tl, ?_⟩
  refine List.forall_mem_cons.mpr ⟨(lo_iload_tl _ _), ?_⟩
  refine List.forall_mem_cons.mpr ⟨lo_none_tl, ?_⟩
  refine List.forall_mem_cons.mpr ⟨(lo_pushI_tl _ _), ?_⟩
  refine List.forall_mem_cons.mpr ⟨(lo_icmp_tl _ _ _), ?_⟩
  refine List.forall_mem_cons.mpr ⟨lo_none_tl, ?_⟩
  refine List.forall_mem_cons.mpr ⟨lo_none_tl, ?_⟩
  refine List.forall_mem_cons.mpr ⟨(lo_iload_tl _ _), ?_⟩
  refine List.forall_mem_cons.mpr ⟨lo_none_tl, ?_⟩
  refine List.forall_mem_cons.mpr ⟨(lo_pushI_tl _ _), ?_⟩
  refine List.forall_mem_cons.mpr ⟨lo_none_tl, ?_⟩
  refine List.forall_mem_cons.mpr ⟨(lo_icmp_tl _ _ _), ?_⟩
  refine List.forall_mem_cons.mpr ⟨lo_none_tl, ?_⟩
  refine List.forall_mem_cons.mpr ⟨lo_none_tl, ?_⟩
  refine List.forall_mem_cons.mpr ⟨(lo_iload_tl _ _), ?_⟩
  refine List.forall_mem_cons.mpr ⟨lo_none_tl, ?_⟩
  refine List.forall_mem_cons.mpr ⟨(lo_pushI_tl _ _), ?_⟩
  refine List.forall_mem_cons.mpr ⟨(lo_icmp_tl _ _ _), ?_⟩
  refine List.forall_mem_cons.mpr ⟨lo_none_tl, ?_⟩
  refine List.forall_mem_cons.mpr ⟨lo_none_tl, ?_⟩
  refine List.forall_mem_cons.mpr ⟨(lo_pushI_tl _ _), ?_⟩
  refine List.forall_mem_cons.mpr ⟨(lo_pushI_tl _ _), ?_⟩
  refine List.forall_mem_cons.mpr ⟨(lo_iload_tl _ _), ?_⟩
  refine List.forall_mem_cons.mpr ⟨lo_none_tl, ?_⟩
  refine List.forall_mem_cons.mpr ⟨(lo_pushI_tl _ _), ?_⟩
  refine List.forall_mem_cons.mpr ⟨(lo_iid_tl _ _), ?_⟩
  refine List.forall_mem_cons.mpr ⟨(lo_ii_tl _ _), ?_⟩
  refine List.forall_mem_cons.mpr ⟨(lo_ii_tl _ _), ?_⟩
  refine List.forall_mem_cons.mpr ⟨(lo_goto_tl _), ?_⟩
  refine List.forall_mem_cons.mpr ⟨lo_none_tl, ?_⟩
  refine List.forall_mem_cons.mpr ⟨lo_none_tl, ?_⟩
  refine List.forall_mem_cons.mpr ⟨(lo_iload_tl _ _), ?_⟩
  refine List.forall_mem_cons.mpr ⟨lo_none_tl, ?_⟩
  refine List.forall_mem_cons.mpr ⟨(lo_pushI_tl _ _), ?_⟩
  refine List.forall_mem_cons.mpr ⟨lo_none_tl, ?_⟩
  refine List.forall_mem_cons.mpr ⟨(lo_iid_tl _ _), ?_⟩
  refine List.forall_mem_cons.mpr ⟨(lo_pushI_tl _ _), ?_⟩
  refine List.forall_mem_cons.mpr ⟨(lo_icmp_tl _ _ _), ?_⟩
  refine List.forall_mem_cons.mpr ⟨lo_none_tl, ?_⟩
  refine List.forall_mem_cons.mpr ⟨lo_none_tl, ?_⟩
  refine List.forall_mem_cons.mpr ⟨(lo_pushI_tl _ _), ?_⟩
  refine List.forall_mem_cons.mpr ⟨(lo_goto_tl _), ?_⟩
  refine List.forall_mem_cons.mpr ⟨lo_none_tl, ?_⟩
  refine List.forall_mem_cons.mpr ⟨lo_none_tl, ?_⟩
  refine List.forall_mem_cons.mpr ⟨(lo_iload_tl _ _), ?_⟩
  refine List.forall_mem_cons.mpr ⟨lo_none_tl, ?_⟩
  refine List.forall_mem_cons.mpr ⟨(lo_pushI_tl _ _), ?_⟩
  refine List.forall_mem_cons.mpr ⟨lo_none_tl, ?_⟩
  refine List.forall_mem_cons.mpr ⟨(lo_iid_tl _ _), ?_⟩
  refine List.forall_mem_cons.mpr ⟨(lo_istore_tl _ _), ?_⟩
  refine List.forall_mem_cons.mpr ⟨lo_none_tl, ?_⟩
  refine List.forall_mem_cons.mpr ⟨(lo_aload_tl _ _), ?_⟩
  refine List.forall_mem_cons.mpr ⟨(lo_pushI_tl _ _), ?_⟩
  refine List.forall_mem_cons.mpr ⟨(lo_iload_tl _ _), ?_⟩
  refine List.forall_mem_cons.mpr ⟨lo_none_tl, ?_⟩
  refine List.forall_mem_cons.mpr ⟨(lo_pushI_tl _ _), ?_⟩
  refine List.forall_mem_cons.mpr ⟨lo_none_tl, ?_⟩
  refine List.forall_mem_cons.mpr ⟨(lo_iid_tl _ _), ?_⟩
  refine List.forall_mem_cons.mpr ⟨(lo_pushI_tl _ _), ?_⟩
  refine List.forall_mem_cons.mpr ⟨(lo_iid_tl _ _), ?_⟩
  refine List.forall_mem_cons.mpr ⟨(lo_iload_tl _ _), ?_⟩
  refine List.forall_mem_cons.mpr ⟨lo_none_tl, ?_⟩
  refine List.forall_mem_cons.mpr ⟨(lo_pushI_tl _ _), ?_⟩
  refine List.forall_mem_cons.mpr ⟨(lo_pushI_tl _ _), ?_⟩
  refine List.forall_mem_cons.mpr ⟨(lo_pushI_tl _ _), ?_⟩
  refine List.forall_mem_cons.mpr ⟨(lo_pushI_tl _ _), ?_⟩
  refine List.forall_mem_cons.mpr ⟨(lo_calls_tl _ _ _ _ _), ?_⟩
  refine List.forall_mem_cons.mpr ⟨lo_none_tl, ?_⟩
  refine List.forall_mem_cons.mpr ⟨lo_none_tl, ?_⟩
  refine List.forall_mem_cons.mpr ⟨(lo_istore_tl _ _), ?_⟩
  refine List.forall_mem_cons.mpr ⟨lo_none_tl, ?_⟩
  refine List.forall_mem_cons.mpr ⟨(lo_iload_tl _ _), ?_⟩
  refine List.forall_mem_cons.mpr ⟨lo_none_tl, ?_⟩
  refine List.forall_mem_cons.mpr ⟨(lo_pushI_tl _ _), ?_⟩
  refine List.forall_mem_cons.mpr ⟨lo_none_tl, ?_⟩
  refine List.forall_mem_cons.mpr ⟨lo_none_tl, ?_⟩
  refine List.forall_mem_cons.mpr ⟨(lo_icmp_tl _ _ _), ?_⟩
  refine List.forall_mem_cons.mpr ⟨lo_none_tl, ?_⟩
  refine List.forall_mem_cons.mpr ⟨lo_none_tl, ?_⟩
  refine List.forall_mem_cons.mpr ⟨(lo_iload_tl _ _), ?_⟩
  refine List.forall_mem_cons.mpr ⟨lo_none_tl, ?_⟩
  refine List.forall_mem_cons.mpr ⟨(lo_pushI_tl _ _), ?_⟩
  refine List.forall_mem_cons.mpr ⟨(lo_icmp_tl _ _ _), ?_⟩
  refine List.forall_mem_cons.mpr ⟨lo_none_tl, ?_⟩
  refine List.forall_mem_cons.mpr ⟨lo_none_tl, ?_⟩
  refine List.forall_mem_cons.mpr ⟨(lo_pushI_tl _ _), ?_⟩
  refine List.forall_mem_cons.mpr ⟨(lo_goto_tl _), ?_⟩
  refine List.forall_mem_cons.mpr ⟨lo_none_tl, ?_⟩
  refine List.forall_mem_cons.mpr ⟨lo_none_tl, ?_⟩
  refine List.forall_mem_cons.mpr ⟨(lo_pushI_tl _ _), ?_⟩
  refine List.forall_mem_cons.mpr ⟨(lo_goto_tl _), ?_⟩
  refine List.forall_mem_cons.mpr ⟨lo_none_tl, ?_⟩
  refine List.forall_mem_cons.mpr ⟨lo_none_tl, ?_⟩
  refine List.forall_mem_cons.mpr ⟨(lo_iload_tl _ _), ?_⟩
  refine List.forall_mem_cons.mpr ⟨lo_none_tl, ?_⟩
  refine List.forall_mem_cons.mpr ⟨(lo_iload_tl _ _), ?_⟩
  refine List.forall_mem_cons.mpr ⟨lo_none_tl, ?_⟩
  refine List.forall_mem_cons.mpr ⟨(lo_icmp_tl _ _ _), ?_⟩
  refine List.forall_mem_cons.mpr ⟨lo_none_tl, ?_⟩
  refine List.forall_mem_cons.mpr ⟨lo_none_tl, ?_⟩
  refine List.forall_mem_cons.mpr ⟨(lo_aload_tl _ _), ?_⟩
  refine List.forall_mem_cons.mpr ⟨(lo_iload_tl _ _), ?_⟩
  refine List.forall_mem_cons.mpr ⟨lo_none_tl, ?_⟩
  refine List.forall_mem_cons.mpr ⟨(lo_callv_tl _ _ _ _), ?_⟩
  refine List.forall_mem_cons.mpr ⟨lo_none_tl, ?_⟩
  refine List.forall_mem_cons.mpr ⟨lo_none_tl, ?_⟩
  refine List.forall_mem_cons.mpr ⟨(lo_iload_tl _ _), ?_⟩
  refine List.forall_mem_cons.mpr ⟨lo_none_tl, ?_⟩
  refine List.forall_mem_cons.mpr ⟨(lo_icmp_tl _ _ _), ?_⟩
  refine List.forall_mem_cons.mpr ⟨lo_none_tl, ?_⟩
  refine List.forall_mem_cons.mpr ⟨lo_none_tl, ?_⟩
  refine List.forall_mem_cons.mpr ⟨(lo_aload_tl _ _), ?_⟩
  refine List.forall_mem_cons.mpr ⟨(lo_callv_tl _ _ _ _), ?_⟩
  refine List.forall_mem_cons.mpr ⟨lo_none_tl, ?_⟩
  refine List.forall_mem_cons.mpr ⟨lo_none_tl, ?_⟩
  refine List.forall_mem_cons.mpr ⟨(lo_iload_tl _ _), ?_⟩
  refine List.forall_mem_cons.mpr ⟨lo_none_tl, ?_⟩
  refine List.forall_mem_cons.mpr ⟨(lo_pushI_tl _ _), ?_⟩
  refine List.forall_mem_cons.mpr ⟨(lo_ii_tl _ _), ?_⟩
  refine List.forall_mem_cons.mpr ⟨(lo_icmp_tl _ _ _), ?_⟩
  refine List.forall_mem_cons.mpr ⟨lo_none_tl, ?_⟩
  refine List.forall_mem_cons.mpr ⟨lo_none_tl, ?_⟩
  refine List.forall_mem_cons.mpr ⟨(lo_aload_tl _ _), ?_⟩
  refine List.forall_mem_cons.mpr ⟨(lo_iload_tl _ _), ?_⟩
  refine List.forall_mem_cons.mpr ⟨lo_none_tl, ?_⟩
  refine List.forall_mem_cons.mpr ⟨(lo_callv_tl _ _ _ _), ?_⟩
  refine List.forall_mem_cons.mpr ⟨lo_none_tl, ?_⟩
  refine List.forall_mem_cons.mpr ⟨lo_none_tl, ?_⟩
  refine List.forall_mem_cons.mpr ⟨(lo_if_tl _ _ _), ?_⟩
  refine List.forall_mem_cons.mpr ⟨lo_none_tl, ?_⟩
  refine List.forall_mem_cons.mpr ⟨lo_none_tl, ?_⟩
  refine List.forall_mem_cons.mpr ⟨(lo_aload_tl _ _), ?_⟩
  refine List.forall_mem_cons.mpr ⟨(lo_iload_tl _ _), ?_⟩
  refine List.forall_mem_cons.mpr ⟨lo_none_tl, ?_⟩
  refine List.forall_mem_cons.mpr ⟨(lo_callv_tl _ _ _ _), ?_⟩
  refine List.forall_mem_cons.mpr ⟨lo_none_tl, ?_⟩
  refine List.forall_mem_cons.mpr ⟨lo_none_tl, ?_⟩
  refine List.forall_mem_cons.mpr ⟨(lo_pushI_tl _ _), ?_⟩
  refine List.forall_mem_cons.mpr ⟨(lo_icmp_tl _ _ _), ?_⟩
  refine List.forall_mem_cons.mpr ⟨lo_none_tl, ?_⟩
  refine List.forall_mem_cons.mpr ⟨lo_none_tl, ?_⟩
  refine List.forall_mem_cons.mpr ⟨(lo_pushI_tl _ _), ?_⟩
  refine List.forall_mem_cons.mpr ⟨(lo_goto_tl _), ?_⟩
  refine List.forall_mem_cons.mpr ⟨lo_none_tl, ?_⟩
  refine List.forall_mem_cons.mpr ⟨lo_none_tl, ?_⟩
  refine List.forall_mem_cons.mpr ⟨(lo_pushI_tl _ _), ?_⟩
  refine List.forall_mem_cons.mpr ⟨(lo_istore_tl _ _), ?_⟩
  refine List.forall_mem_cons.mpr ⟨lo_none_tl, ?_⟩
  refine List.forall_mem_cons.mpr ⟨(lo_goto_tl _), ?_⟩
  refine List.forall_mem_cons.mpr ⟨lo_none_tl, ?_⟩
  refine List.forall_mem_cons.mpr ⟨lo_none_tl, ?_⟩
  refine List.forall_mem_cons.mpr ⟨(lo_iload_tl _ _), ?_⟩
  refine List.forall_mem_cons.mpr ⟨lo_none_tl, ?_⟩
  refine List.forall_mem_cons.mpr ⟨(lo_pushI_tl _ _), ?_⟩
  refine List.forall_mem_cons.mpr ⟨lo_none_tl, ?_⟩
  refine List.forall_mem_cons.mpr ⟨(lo_icmp_tl _ _ _), ?_⟩
  refine List.forall_mem_cons.mpr ⟨lo_none_tl, ?_⟩
  refine List.forall_mem_cons.mpr ⟨lo_none_tl, ?_⟩
  refine List.forall_mem_cons.mpr ⟨(lo_iload_tl _ _), ?_⟩
  refine List.forall_mem_cons.mpr ⟨lo_none_tl, ?_⟩
  refine List.forall_mem_cons.mpr ⟨(lo_if_tl _ _ _), ?_⟩
  refine List.forall_mem_cons.mpr ⟨lo_none_tl, ?_⟩
  refine List.forall_mem_cons.mpr ⟨lo_none_tl, ?_⟩
  refine List.forall_mem_cons.mpr ⟨(lo_iload_tl _ _), ?_⟩
  refine List.forall_mem_cons.mpr ⟨lo_none_tl, ?_⟩
  refine List.forall_mem_cons.mpr ⟨(lo_pushI_tl _ _), ?_⟩
  refine List.forall_mem_cons.mpr ⟨lo_none_tl, ?_⟩
  refine List.forall_mem_cons.mpr ⟨(lo_iid_tl _ _), ?_⟩
  refine List.forall_mem_cons.mpr ⟨(lo_pushI_tl _ _), ?_⟩
  refine List.forall_mem_cons.mpr ⟨lo_none_tl, ?_⟩
  refine List.forall_mem_cons.mpr ⟨(lo_iid_tl _ _), ?_⟩
  refine List.forall_mem_cons.mpr ⟨(lo_goto_tl _), ?_⟩
  refine List.forall_mem_cons.mpr ⟨lo_none_tl, ?_⟩
  refine List.forall_mem_cons.mpr ⟨lo_none_tl, ?_⟩
  refine List.forall_mem_cons.mpr ⟨(lo_iload_tl _ _), ?_⟩
  refine List.forall_mem_cons.mpr ⟨lo_none_tl, ?_⟩
  refine List.forall_mem_cons.mpr ⟨(lo_pushI_tl _ _), ?_⟩
  refine List.forall_mem_cons.mpr ⟨(lo_icmp_tl _ _ _), ?_⟩
  refine List.forall_mem_cons.mpr ⟨lo_none_tl, ?_⟩
  refine List.forall_mem_cons.mpr ⟨lo_none_tl, ?_⟩
  refine List.forall_mem_cons.mpr ⟨(lo_pushI_tl _ _), ?_⟩
  refine List.forall_mem_cons.mpr ⟨lo_none_tl, ?_⟩
  refine List.forall_mem_cons.mpr ⟨(lo_iload_tl _ _), ?_⟩
  refine List.forall_mem_cons.mpr ⟨lo_none_tl, ?_⟩
  refine List.forall_mem_cons.mpr ⟨(lo_pushI_tl _ _), ?_⟩
  refine List.forall_mem_cons.mpr ⟨lo_none_tl, ?_⟩
  refine List.forall_mem_cons.mpr ⟨(lo_iid_tl _ _), ?_⟩
  refine List.forall_mem_cons.mpr ⟨(lo_pushI_tl _ _), ?_⟩
  refine List.forall_mem_cons.mpr ⟨(lo_iid_tl _ _), ?_⟩
  refine List.forall_mem_cons.mpr ⟨(lo_ii_tl _ _), ?_⟩
  refine List.forall_mem_cons.mpr ⟨(lo_goto_tl _), ?_⟩
  refine List.forall_mem_cons.mpr ⟨lo_none_tl, ?_⟩
  refine List.forall_mem_cons.mpr ⟨lo_none_tl, ?_⟩
  refine List.forall_mem_cons.mpr ⟨(lo_iload_tl _ _), ?_⟩
  refine List.forall_mem_cons.mpr ⟨lo_none_tl, ?_⟩
  refine List.forall_mem_cons.mpr ⟨(lo_pushI_tl _ _), ?_⟩
  refine List.forall_mem_cons.mpr ⟨(lo_icmp_tl _ _ _), ?_⟩
  refine List.forall_mem_cons.mpr ⟨lo_none_tl, ?_⟩
  refine List.forall_mem_cons.mpr ⟨lo_none_tl, ?_⟩
  refine List.forall_mem_cons.mpr ⟨(lo_iload_tl _ _), ?_⟩
  refine List.forall_mem_cons.mpr ⟨lo_none_tl, ?_⟩
  refine List.forall_mem_cons.mpr ⟨(lo_pushI_tl _ _), ?_⟩
  refine List.forall_mem_cons.mpr ⟨lo_none_tl, ?_⟩
  refine List.forall_mem_cons.mpr ⟨(lo_iid_tl _ _), ?_⟩
  refine List.forall_mem_cons.mpr ⟨(lo_pushI_tl _ _), ?_⟩
  refine List.forall_mem_cons.mpr ⟨(lo_iid_tl _ _), ?_⟩
  refine List.forall_mem_cons.mpr ⟨(lo_pushI_tl _ _), ?_⟩
  refine List.forall_mem_cons.mpr ⟨(lo_icmp_tl _ _ _), ?_⟩
  refine List.forall_mem_cons.mpr ⟨lo_none_tl, ?_⟩
  refine List.forall_mem_cons.mpr ⟨lo_none_tl, ?_⟩
  refine List.forall_mem_cons.mpr ⟨(lo_pushI_tl _ _), ?_⟩
  refine List.forall_mem_cons.mpr ⟨lo_none_tl, ?_⟩
  refine List.forall_mem_cons.mpr ⟨(lo_goto_tl _), ?_⟩
  refine List.forall_mem_cons.mpr ⟨lo_none_tl, ?_⟩
  refine List.forall_mem_cons.mpr ⟨lo_none_tl, ?_⟩
  refine List.forall_mem_cons.mpr ⟨(lo_iload_tl _ _), ?_⟩
  refine List.forall_mem_cons.mpr ⟨lo_none_tl, ?_⟩
  refine List.forall_mem_cons.mpr ⟨(lo_pushI_tl _ _), ?_⟩
  refine List.forall_mem_cons.mpr ⟨(lo_icmp_tl _ _ _), ?_⟩
  refine List.forall_mem_cons.mpr ⟨lo_none_tl, ?_⟩
  refine List.forall_mem_cons.mpr ⟨lo_none_tl, ?_⟩
  refine List.forall_mem_cons.mpr ⟨(lo_iload_tl _ _), ?_⟩
  refine List.forall_mem_cons.mpr ⟨lo_none_tl, ?_⟩
  refine List.forall_mem_cons.mpr ⟨(lo_pushI_tl _ _), ?_⟩
  refine List.forall_mem_cons.mpr ⟨(lo_icmp_tl _ _ _), ?_⟩
  refine List.forall_mem_cons.mpr ⟨lo_none_tl, ?_⟩
  refine List.forall_mem_cons.mpr ⟨lo_none_tl, ?_⟩
  refine List.forall_mem_cons.mpr ⟨(lo_iload_tl _ _), ?_⟩
  refine List.forall_mem_cons.mpr ⟨lo_none_tl, ?_⟩
  refine List.forall_mem_cons.mpr ⟨(lo_pushI_tl _ _), ?_⟩
  refine List.forall_mem_cons.mpr ⟨lo_none_tl, ?_⟩
  refine List.forall_mem_cons.mpr ⟨(lo_iid_tl _ _), ?_⟩
  refine List.forall_mem_cons.mpr ⟨(lo_pushI_tl _ _), ?_⟩
  refine List.forall_mem_cons.mpr ⟨(lo_iid_tl _ _), ?_⟩
  refine List.forall_mem_cons.mpr ⟨(lo_goto_tl _), ?_⟩
  refine List.forall_mem_cons.mpr ⟨lo_none_tl, ?_⟩
  refine List.forall_mem_cons.mpr ⟨lo_none_tl, ?_⟩
  refine List.forall_mem_cons.mpr ⟨(lo_pushI_tl _ _), ?_⟩
  refine List.forall_mem_cons.mpr ⟨(lo_istore_tl _ _), ?_⟩
  refine List.forall_mem_cons.mpr ⟨lo_none_tl, ?_⟩
  refine List.forall_mem_cons.mpr ⟨(lo_iload_tl _ _), ?_⟩
  refine List.forall_mem_cons.mpr ⟨lo_none_tl, ?_⟩
  refine List.forall_mem_cons.mpr ⟨(lo_pushI_tl _ _), ?_⟩
  refine List.forall_mem_cons.mpr ⟨lo_none_tl, ?_⟩
  refine List.forall_mem_cons.mpr ⟨(lo_icmp_tl _ _ _), ?_⟩
  refine List.forall_mem_cons.mpr ⟨lo_none_tl, ?_⟩
  refine List.forall_mem_cons.mpr ⟨lo_none_tl, ?_⟩
  refine List.forall_mem_cons.mpr ⟨(lo_iload_tl _ _), ?_⟩
  refine List.forall_mem_cons.mpr ⟨lo_none_tl, ?_⟩
  refine List.forall_mem_cons.mpr ⟨(lo_pushI_tl _ _), ?_⟩
  refine List.forall_mem_cons.mpr ⟨lo_none_tl, ?_⟩
  refine List.forall_mem_cons.mpr ⟨lo_none_tl, ?_⟩
  refine List.forall_mem_cons.mpr ⟨(lo_iid_tl _ _), ?_⟩
  refine List.forall_mem_cons.mpr ⟨(lo_pushI_tl _ _), ?_⟩
  refine List.forall_mem_cons.mpr ⟨lo_none_tl, ?_⟩
  refine List.forall_mem_cons.mpr ⟨(lo_iid_tl _ _), ?_⟩
  refine List.forall_mem_cons.mpr ⟨(lo_goto_tl _), ?_⟩
  refine List.forall_mem_cons.mpr ⟨lo_none_tl, ?_⟩
  refine List.forall_mem_cons.mpr ⟨lo_none_tl, ?_⟩
  refine List.forall_mem_cons.mpr ⟨(lo_iload_tl _ _), ?_⟩
  refine List.forall_mem_cons.mpr ⟨lo_none_tl, ?_⟩
  refine List.forall_mem_cons.mpr ⟨(lo_pushI_tl _ _), ?_⟩
  refine List.forall_mem_cons.mpr ⟨(lo_icmp_tl _ _ _), ?_⟩
  refine List.forall_mem_cons.mpr ⟨lo_none_tl, ?_⟩
  refine List.forall_mem_cons.mpr ⟨lo_none_tl, ?_⟩
  refine List.forall_mem_cons.mpr ⟨(lo_iload_tl _ _), ?_⟩
  refine List.forall_mem_cons.mpr ⟨lo_none_tl, ?_⟩
  refine List.forall_mem_cons.mpr ⟨(lo_pushI_tl _ _), ?_⟩
  refine List.forall_mem_cons.mpr ⟨lo_none_tl, ?_⟩
  refine List.forall_mem_cons.mpr ⟨(lo_icmp_tl _ _ _), ?_⟩
  refine List.forall_mem_cons.mpr ⟨lo_none_tl, ?_⟩
  refine List.forall_mem_cons.mpr ⟨lo_none_tl, ?_⟩
  refine List.forall_mem_cons.mpr ⟨(lo_iload_tl _ _), ?_⟩
  refine List.forall_mem_cons.mpr ⟨lo_none_tl, ?_⟩
  refine List.forall_mem_cons.mpr ⟨(lo_pushI_tl _ _), ?_⟩
  refine List.forall_mem_cons.mpr ⟨lo_none_tl, ?_⟩
  refine List.forall_mem_cons.mpr ⟨lo_none_tl, ?_⟩
  refine List.forall_mem_cons.mpr ⟨(lo_iid_tl _ _), ?_⟩
  refine List.forall_mem_cons.mpr ⟨(lo_pushI_tl _ _), ?_⟩
  refine List.forall_mem_cons.mpr ⟨lo_none_tl, ?_⟩
  refine List.forall_mem_cons.mpr ⟨(lo_iid_tl _ _), ?_⟩
  refine List.forall_mem_cons.mpr ⟨(lo_pushI_tl _ _), ?_⟩
  refine List.forall_mem_cons.mpr ⟨(lo_iid_tl _ _), ?_⟩
  refine List.forall_mem_cons.mpr ⟨(lo_goto_tl _), ?_⟩
  refine List.forall_mem_cons.mpr ⟨lo_none_tl, ?_⟩
  refine List.forall_mem_cons.mpr ⟨lo_none_tl, ?_⟩
  refine List.forall_mem_cons.mpr ⟨(lo_iload_tl _ _), ?_⟩
  refine List.forall_mem_cons.mpr ⟨lo_none_tl, ?_⟩
  refine List.forall_mem_cons.mpr ⟨(lo_pushI_tl _ _), ?_⟩
  refine List.forall_mem_cons.mpr ⟨(lo_icmp_tl _ _ _), ?_⟩
  refine List.forall_mem_cons.mpr ⟨lo_none_tl, ?_⟩
  refine List.forall_mem_cons.mpr ⟨lo_none_tl, ?_⟩
  refine List.forall_mem_cons.mpr ⟨(lo_iload_tl _ _), ?_⟩
  refine List.forall_mem_cons.mpr ⟨lo_none_tl, ?_⟩
  refine List.forall_mem_cons.mpr ⟨(lo_pushI_tl _ _), ?_⟩
  refine List.forall_mem_cons.mpr ⟨(lo_icmp_tl _ _ _), ?_⟩
  refine List.forall_mem_cons.mpr ⟨lo_none_tl, ?_⟩
  refine List.forall_mem_cons.mpr ⟨lo_none_tl, ?_⟩
  refine List.forall_mem_cons.mpr ⟨(lo_iload_tl _ _), ?_⟩
  refine List.forall_mem_cons.mpr ⟨lo_none_tl, ?_⟩
  refine List.forall_mem_cons.mpr ⟨(lo_pushI_tl _ _), ?_⟩
  refine List.forall_mem_cons.mpr ⟨lo_none_tl, ?_⟩
  refine List.forall_mem_cons.mpr ⟨(lo_icmp_tl _ _ _), ?_⟩
  refine List.forall_mem_cons.mpr ⟨lo_none_tl, ?_⟩
  refine List.forall_mem_cons.mpr ⟨lo_none_tl, ?_⟩
  refine List.forall_mem_cons.mpr ⟨(lo_iload_tl _ _), ?_⟩
  refine List.forall_mem_cons.mpr ⟨lo_none_tl, ?_⟩
  refine List.forall_mem_cons.mpr ⟨(lo_pushI_tl _ _), ?_⟩
  refine List.forall_mem_cons.mpr ⟨lo_none_tl, ?_⟩
  refine List.forall_mem_cons.mpr ⟨lo_none_tl, ?_⟩
  refine List.forall_mem_cons.mpr ⟨(lo_iid_tl _ _), ?_⟩
  refine List.forall_mem_cons.mpr ⟨(lo_pushI_tl _ _), ?_⟩
  refine List.forall_mem_cons.mpr ⟨(lo_iid_tl _ _), ?_⟩
  refine List.forall_mem_cons.mpr ⟨(lo_goto_tl _), ?_⟩
  refine List.forall_mem_cons.mpr ⟨lo_none_tl, ?_⟩
  refine List.forall_mem_cons.mpr ⟨lo_none_tl, ?_⟩
  refine List.forall_mem_cons.mpr ⟨(lo_pushI_tl _ _), ?_⟩
  refine List.forall_mem_cons.mpr ⟨(lo_iload_tl _ _), ?_⟩
  refine List.forall_mem_cons.mpr ⟨lo_none_tl, ?_⟩
  refine List.forall_mem_cons.mpr ⟨(lo_pushI_tl _ _), ?_⟩
  refine List.forall_mem_cons.mpr ⟨lo_none_tl, ?_⟩
  refine List.forall_mem_cons.mpr ⟨lo_none_tl, ?_⟩
  refine List.forall_mem_cons.mpr ⟨(lo_iid_tl _ _), ?_⟩
  refine List.forall_mem_cons.mpr ⟨(lo_pushI_tl _ _), ?_⟩
  refine List.forall_mem_cons.mpr ⟨(lo_iid_tl _ _), ?_⟩
  refine List.forall_mem_cons.mpr ⟨(lo_ii_tl _ _), ?_⟩
  refine List.forall_mem_cons.mpr ⟨(lo_istore_tl _ _), ?_⟩
  refine List.forall_mem_cons.mpr ⟨lo_none_tl, ?_⟩
  refine List.forall_mem_cons.mpr ⟨(lo_iload_tl _ _), ?_⟩
  refine List.forall_mem_cons.mpr ⟨lo_none_tl, ?_⟩
  refine List.forall_mem_cons.mpr ⟨(lo_pushI_tl _ _), ?_⟩
  refine List.forall_mem_cons.mpr ⟨lo_none_tl, ?_⟩
  refine List.forall_mem_cons.mpr ⟨(lo_iid_tl _ _), ?_⟩
  refine List.forall_mem_cons.mpr ⟨(lo_pushI_tl _ _), ?_⟩
  refine List.forall_mem_cons.mpr ⟨(lo_iid_tl _ _), ?_⟩
  refine List.forall_mem_cons.mpr ⟨(lo_istore_tl _ _), ?_⟩
  refine List.forall_mem_cons.mpr ⟨lo_none_tl, ?_⟩
  refine List.forall_mem_cons.mpr ⟨(lo_iload_tl _ _), ?_⟩
  refine List.forall_mem_cons.mpr ⟨lo_none_tl, ?_⟩
  refine List.forall_mem_cons.mpr ⟨(lo_pushI_tl _ _), ?_⟩
  refine List.forall_mem_cons.mpr ⟨lo_none_tl, ?_⟩
  refine List.forall_mem_cons.mpr ⟨(lo_iid_tl _ _), ?_⟩
  refine List.forall_mem_cons.mpr ⟨(lo_pushI_tl _ _), ?_⟩
  refine List.forall_mem_cons.mpr ⟨(lo_iid_tl _ _), ?_⟩
  refine List.forall_mem_cons.mpr ⟨(lo_if_tl _ _ _), ?_⟩
  refine List.forall_mem_cons.mpr ⟨lo_none_tl, ?_⟩
  refine List.forall_mem_cons.mpr ⟨lo_none_tl, ?_⟩
  refine List.forall_mem_cons.mpr ⟨(lo_pushI_tl _ _), ?_⟩
  refine List.forall_mem_cons.mpr ⟨(lo_goto_tl _), ?_⟩
  refine List.forall_mem_cons.mpr ⟨lo_none_tl, ?_⟩
  refine List.forall_mem_cons.mpr ⟨lo_none_tl, ?_⟩
  refine List.forall_mem_cons.mpr ⟨(lo_pushI_tl _ _), ?_⟩
  refine List.forall_mem_cons.mpr ⟨(lo_istore_tl _ _), ?_⟩
  refine List.forall_mem_cons.mpr ⟨lo_none_tl, ?_⟩
  refine List.forall_mem_cons.mpr ⟨(lo_aload_tl _ _), ?_⟩
  refine List.forall_mem_cons.mpr ⟨(lo_iload_tl _ _), ?_⟩
  refine List.forall_mem_cons.mpr ⟨lo_none_tl, ?_⟩
  refine List.forall_mem_cons.mpr ⟨(lo_iload_tl _ _), ?_⟩
  refine List.forall_mem_cons.mpr ⟨lo_none_tl, ?_⟩
  refine List.forall_mem_cons.mpr ⟨(lo_callv_tl _ _ _ _), ?_⟩
  refine List.forall_mem_cons.mpr ⟨lo_none_tl, ?_⟩
  refine List.forall_mem_cons.mpr ⟨lo_none_tl, ?_⟩
  refine List.forall_mem_cons.mpr ⟨(lo_iload_tl _ _), ?_⟩
  refine List.forall_mem_cons.mpr ⟨lo_none_tl, ?_⟩
  refine List.forall_mem_cons.mpr ⟨(lo_icmp_tl _ _ _), ?_⟩
  refine List.forall_mem_cons.mpr ⟨lo_none_tl, ?_⟩
  refine List.forall_mem_cons.mpr ⟨lo_none_tl, ?_⟩
  refine List.forall_mem_cons.mpr ⟨(lo_pushI_tl _ _), ?_⟩
  refine List.forall_mem_cons.mpr ⟨(lo_goto_tl _), ?_⟩
  refine List.forall_mem_cons.mpr ⟨lo_none_tl, ?_⟩
  refine List.forall_mem_cons.mpr ⟨lo_none_tl, ?_⟩
  refine List.forall_mem_cons.mpr ⟨(lo_pushI_tl _ _), ?_⟩
  refine List.forall_mem_cons.mpr ⟨(lo_istore_tl _ _), ?_⟩
  refine List.forall_mem_cons.mpr ⟨lo_none_tl, ?_⟩
  refine List.forall_mem_cons.mpr ⟨(lo_aload_tl _ _), ?_⟩
  refine List.forall_mem_cons.mpr ⟨(lo_iload_tl _ _), ?_⟩
  refine List.forall_mem_cons.mpr ⟨lo_none_tl, ?_⟩
  refine List.forall_mem_cons.mpr ⟨(lo_iload_tl _ _), ?_⟩
  refine List.forall_mem_cons.mpr ⟨lo_none_tl, ?_⟩
  refine List.forall_mem_cons.mpr ⟨(lo_callv_tl _ _ _ _), ?_⟩
  refine List.forall_mem_cons.mpr ⟨lo_none_tl, ?_⟩
  refine List.forall_mem_cons.mpr ⟨lo_none_tl, ?_⟩
  refine List.forall_mem_cons.mpr ⟨(lo_iload_tl _ _), ?_⟩
  refine List.forall_mem_cons.mpr ⟨lo_none_tl, ?_⟩
  refine List.forall_mem_cons.mpr ⟨(lo_icmp_tl _ _ _), ?_⟩
  refine List.forall_mem_cons.mpr ⟨lo_none_tl, ?_⟩
  refine List.forall_mem_cons.mpr ⟨lo_none_tl, ?_⟩
  refine List.forall_mem_cons.mpr ⟨(lo_iload_tl _ _), ?_⟩
  refine List.forall_mem_cons.mpr ⟨lo_none_tl, ?_⟩
  refine List.forall_mem_cons.mpr ⟨(lo_if_tl _ _ _), ?_⟩
  refine List.forall_mem_cons.mpr ⟨lo_none_tl, ?_⟩
  refine List.forall_mem_cons.mpr ⟨lo_none_tl, ?_⟩
  refine List.forall_mem_cons.mpr ⟨(lo_pushI_tl _ _), ?_⟩
  refine List.forall_mem_cons.mpr ⟨(lo_goto_tl _), ?_⟩
  refine List.forall_mem_cons.mpr ⟨lo_none_tl, ?_⟩
  refine List.forall_mem_cons.mpr ⟨lo_none_tl, ?_⟩
  refine List.forall_mem_cons.mpr ⟨(lo_pushI_tl _ _), ?_⟩
  refine List.forall_mem_cons.mpr ⟨(lo_istore_tl _ _), ?_⟩
  refine List.forall_mem_cons.mpr ⟨lo_none_tl, ?_⟩
  refine List.forall_mem_cons.mpr ⟨(lo_aload_tl _ _), ?_⟩
  refine List.forall_mem_cons.mpr ⟨(lo_pushI_tl _ _), ?_⟩
  refine List.forall_mem_cons.mpr ⟨(lo_iload_tl _ _), ?_⟩
  refine List.forall_mem_cons.mpr ⟨lo_none_tl, ?_⟩
  refine List.forall_mem_cons.mpr ⟨(lo_iload_tl _ _), ?_⟩
  refine List.forall_mem_cons.mpr ⟨lo_none_tl, ?_⟩
  refine List.forall_mem_cons.mpr ⟨(lo_iload_tl _ _), ?_⟩
  refine List.forall_mem_cons.mpr ⟨lo_none_tl, ?_⟩
  refine List.forall_mem_cons.mpr ⟨(lo_iload_tl _ _), ?_⟩
  refine List.forall_mem_cons.mpr ⟨lo_none_tl, ?_⟩
  refine List.forall_mem_cons.mpr ⟨(lo_pushI_tl _ _), ?_⟩
  refine List.forall_mem_cons.mpr ⟨(lo_iload_tl _ _), ?_⟩
  refine List.forall_mem_cons.mpr ⟨lo_none_tl, ?_⟩
  refine List.forall_mem_cons.mpr ⟨(lo_if_tl _ _ _), ?_⟩
  refine List.forall_mem_cons.mpr ⟨lo_none_tl, ?_⟩
  refine List.forall_mem_cons.mpr ⟨lo_none_tl, ?_⟩
  refine List.forall_mem_cons.mpr ⟨(lo_pushI_tl _ _), ?_⟩
  refine List.forall_mem_cons.mpr ⟨(lo_goto_tl _), ?_⟩
  refine List.forall_mem_cons.mpr ⟨lo_none_tl, ?_⟩
  refine List.forall_mem_cons.mpr ⟨lo_none_tl, ?_⟩
  refine List.forall_mem_cons.mpr ⟨(lo_pushI_tl _ _), ?_⟩
  refine List.forall_mem_cons.mpr ⟨(lo_calls_tl _ _ _ _ _), ?_⟩
  refine List.forall_mem_cons.mpr ⟨lo_none_tl, ?_⟩
  refine List.forall_mem_cons.mpr ⟨lo_none_tl, ?_⟩
  refine List.forall_mem_cons.mpr ⟨(lo_istore_tl _ _), ?_⟩
  refine List.forall_mem_cons.mpr ⟨lo_none_tl, ?_⟩
  refine List.forall_mem_cons.mpr ⟨(lo_iload_tl _ _), ?_⟩
  refine List.forall_mem_cons.mpr ⟨lo_none_tl, ?_⟩
  refine List.forall_mem_cons.mpr ⟨(lo_if_tl _ _ _), ?_⟩
  refine List.forall_mem_cons.mpr ⟨lo_none_tl, ?_⟩
  refine List.forall_mem_cons.mpr ⟨lo_none_tl, ?_⟩
  refine List.forall_mem_cons.mpr ⟨(lo_iload_tl _ _), ?_⟩
  refine List.forall_mem_cons.mpr ⟨lo_none_tl, ?_⟩
  refine List.forall_mem_cons.mpr ⟨(lo_pushI_tl _ _), ?_⟩
  refine List.forall_mem_cons.mpr ⟨lo_none_tl, ?_⟩
  refine List.forall_mem_cons.mpr ⟨lo_none_tl, ?_⟩
  refine List.forall_mem_cons.mpr ⟨(lo_icmp_tl _ _ _), ?_⟩
  refine List.forall_mem_cons.mpr ⟨lo_none_tl, ?_⟩
  refine List.forall_mem_cons.mpr ⟨lo_none_tl, ?_⟩
  refine List.forall_mem_cons.mpr ⟨(lo_aload_tl _ _), ?_⟩
  refine List.forall_mem_cons.mpr ⟨(lo_callv_tl _ _ _ _), ?_⟩
  refine List.forall_mem_cons.mpr ⟨lo_none_tl, ?_⟩
  refine List.forall_mem_cons.mpr ⟨lo_none_tl, ?_⟩
  refine List.forall_mem_cons.mpr ⟨(lo_iload_tl _ _), ?_⟩
  refine List.forall_mem_cons.mpr ⟨lo_none_tl, ?_⟩
  refine List.forall_mem_cons.mpr ⟨(lo_icmp_tl _ _ _), ?_⟩
  refine List.forall_mem_cons.mpr ⟨lo_none_tl, ?_⟩
  refine List.forall_mem_cons.mpr ⟨lo_none_tl, ?_⟩
  refine List.forall_mem_cons.mpr ⟨(lo_aload_tl _ _), ?_⟩
  refine List.forall_mem_cons.mpr ⟨(lo_iload_tl _ _), ?_⟩
  refine List.forall_mem_cons.mpr ⟨lo_none_tl, ?_⟩
  refine List.forall_mem_cons.mpr ⟨(lo_callv_tl _ _ _ _), ?_⟩
  refine List.forall_mem_cons.mpr ⟨lo_none_tl, ?_⟩
  refine List.forall_mem_cons.mpr ⟨lo_none_tl, ?_⟩
  refine List.forall_mem_cons.mpr ⟨(lo_pushI_tl _ _), ?_⟩
  refine List.forall_mem_cons.mpr ⟨(lo_icmp_tl _ _ _), ?_⟩
  refine List.forall_mem_cons.mpr ⟨lo_none_tl, ?_⟩
  refine List.forall_mem_cons.mpr ⟨lo_none_tl, ?_⟩
  refine List.forall_mem_cons.mpr ⟨(lo_iload_tl _ _), ?_⟩
  refine List.forall_mem_cons.mpr ⟨lo_none_tl, ?_⟩
  refine List.forall_mem_cons.mpr ⟨(lo_if_tl _ _ _), ?_⟩
  refine List.forall_mem_cons.mpr ⟨lo_none_tl, ?_⟩
  refine List.forall_mem_cons.mpr ⟨lo_none_tl, ?_⟩
  refine List.forall_mem_cons.mpr ⟨(lo_iload_tl _ _), ?_⟩
  refine List.forall_mem_cons.mpr ⟨lo_none_tl, ?_⟩
  refine List.forall_mem_cons.mpr ⟨(lo_if_tl _ _ _), ?_⟩
  refine List.forall_mem_cons.mpr ⟨lo_none_tl, ?_⟩
  refine List.forall_mem_cons.mpr ⟨lo_none_tl, ?_⟩
  refine List.forall_mem_cons.mpr ⟨(lo_iload_tl _ _), ?_⟩
  refine List.forall_mem_cons.mpr ⟨lo_none_tl, ?_⟩
  refine List.forall_mem_cons.mpr ⟨(lo_if_tl _ _ _), ?_⟩
  refine List.forall_mem_cons.mpr ⟨lo_none_tl, ?_⟩
  refine List.forall_mem_cons.mpr ⟨lo_none_tl, ?_⟩
  refine List.forall_mem_cons.mpr ⟨(lo_iload_tl _ _), ?_⟩
  refine List.forall_mem_cons.mpr ⟨lo_none_tl, ?_⟩
  refine List.forall_mem_cons.mpr ⟨(lo_pushI_tl _ _), ?_⟩
  refine List.forall_mem_cons.mpr ⟨(lo_icmp_tl _ _ _), ?_⟩
  refine List.forall_mem_cons.mpr ⟨lo_none_tl, ?_⟩
  refine List.forall_mem_cons.mpr ⟨lo_none_tl, ?_⟩
  refine List.forall_mem_cons.mpr ⟨(lo_iload_tl _ _), ?_⟩
  refine List.forall_mem_cons.mpr ⟨lo_none_tl, ?_⟩
  refine List.forall_mem_cons.mpr ⟨(lo_pushI_tl _ _), ?_⟩
  refine List.forall_mem_cons.mpr ⟨(lo_icmp_tl _ _ _), ?_⟩
  refine List.forall_mem_cons.mpr ⟨lo_none_tl, ?_⟩
  refine List.forall_mem_cons.mpr ⟨lo_none_tl, ?_⟩
  refine List.forall_mem_cons.mpr ⟨(lo_pushI_tl _ _), ?_⟩
  refine List.forall_mem_cons.mpr ⟨(lo_goto_tl _), ?_⟩
  refine List.forall_mem_cons.mpr ⟨lo_none_tl, ?_⟩
  refine List.forall_mem_cons.mpr ⟨lo_none_tl, ?_⟩
  refine List.forall_mem_cons.mpr ⟨(lo_pushI_tl _ _), ?_⟩
  refine List.forall_mem_cons.mpr ⟨(lo_goto_tl _), ?_⟩
  refine List.forall_mem_cons.mpr ⟨lo_none_tl, ?_⟩
  refine List.forall_mem_cons.mpr ⟨lo_none_tl, ?_⟩
  refine List.forall_mem_cons.mpr ⟨(lo_iload_tl _ _), ?_⟩
  refine List.forall_mem_cons.mpr ⟨lo_none_tl, ?_⟩
  refine List.forall_mem_cons.mpr ⟨(lo_aload_tl _ _), ?_⟩
  refine List.forall_mem_cons.mpr ⟨(lo_iload_tl _ _), ?_⟩
  refine List.forall_mem_cons.mpr ⟨lo_none_tl, ?_⟩
  refine List.forall_mem_cons.mpr ⟨(lo_callv_tl _ _ _ _), ?_⟩
  refine List.forall_mem_cons.mpr ⟨lo_none_tl, ?_⟩
  refine List.forall_mem_cons.mpr ⟨lo_none_tl, ?_⟩
  refine List.forall_mem_cons.mpr ⟨(lo_icmp_tl _ _ _), ?_⟩
  refine List.forall_mem_cons.mpr ⟨lo_none_tl, ?_⟩
  refine List.forall_mem_cons.mpr ⟨lo_none_tl, ?_⟩
  refine List.forall_mem_cons.mpr ⟨(lo_aload_tl _ _), ?_⟩
  refine List.forall_mem_cons.mpr ⟨(lo_iload_tl _ _), ?_⟩
  refine List.forall_mem_cons.mpr ⟨lo_none_tl, ?_⟩
  refine List.forall_mem_cons.mpr ⟨(lo_iload_tl _ _), ?_⟩
  refine List.forall_mem_cons.mpr ⟨lo_none_tl, ?_⟩
  refine List.forall_mem_cons.mpr ⟨(lo_callv_tl _ _ _ _), ?_⟩
  refine List.forall_mem_cons.mpr ⟨lo_none_tl, ?_⟩
  refine List.forall_mem_cons.mpr ⟨lo_none_tl, ?_⟩
  refine List.forall_mem_cons.mpr ⟨(lo_iload_tl _ _), ?_⟩
  refine List.forall_mem_cons.mpr ⟨lo_none_tl, ?_⟩
  refine List.forall_mem_cons.mpr ⟨(lo_icmp_tl _ _ _), ?_⟩
  refine List.forall_mem_cons.mpr ⟨lo_none_tl, ?_⟩
  refine List.forall_mem_cons.mpr ⟨lo_none_tl, ?_⟩
  refine List.forall_mem_cons.mpr ⟨(lo_aload_tl _ _), ?_⟩
  refine List.forall_mem_cons.mpr ⟨(lo_iload_tl _ _), ?_⟩
  refine List.forall_mem_cons.mpr ⟨lo_none_tl, ?_⟩
  refine List.forall_mem_cons.mpr ⟨(lo_iload_tl _ _), ?_⟩
  refine List.forall_mem_cons.mpr ⟨lo_none_tl, ?_⟩
  refine List.forall_mem_cons.mpr ⟨(lo_callv_tl _ _ _ _), ?_⟩
  refine List.forall_mem_cons.mpr ⟨lo_none_tl, ?_⟩
  refine List.forall_mem_cons.mpr ⟨lo_none_tl, ?_⟩
  refine List.forall_mem_cons.mpr ⟨(lo_iload_tl _ _), ?_⟩
  refine List.forall_mem_cons.mpr ⟨lo_none_tl, ?_⟩
  refine List.forall_mem_cons.mpr ⟨(lo_icmp_tl _ _ _), ?_⟩
  refine List.forall_mem_cons.mpr ⟨lo_none_tl, ?_⟩
  refine List.forall_mem_cons.mpr ⟨lo_none_tl, ?_⟩
  refine List.forall_mem_cons.mpr ⟨(lo_aload_tl _ _), ?_⟩
  refine List.forall_mem_cons.mpr ⟨(lo_callv_tl _ _ _ _), ?_⟩
  refine List.forall_mem_cons.mpr ⟨lo_none_tl, ?_⟩
  refine List.forall_mem_cons.mpr ⟨lo_none_tl, ?_⟩
  refine List.forall_mem_cons.mpr ⟨(lo_iload_tl _ _), ?_⟩
  refine List.forall_mem_cons.mpr ⟨lo_none_tl, ?_⟩
  refine List.forall_mem_cons.mpr ⟨(lo_iload_tl _ _), ?_⟩
  refine List.forall_mem_cons.mpr ⟨lo_none_tl, ?_⟩
  refine List.forall_mem_cons.mpr ⟨(lo_if_tl _ _ _), ?_⟩
  refine List.forall_mem_cons.mpr ⟨lo_none_tl, ?_⟩
  refine List.forall_mem_cons.mpr ⟨lo_none_tl, ?_⟩
  refine List.forall_mem_cons.mpr ⟨(lo_pushI_tl _ _), ?_⟩
  refine List.forall_mem_cons.mpr ⟨(lo_goto_tl _), ?_⟩
  refine List.forall_mem_cons.mpr ⟨lo_none_tl, ?_⟩
  refine List.forall_mem_cons.mpr ⟨lo_none_tl, ?_⟩
  refine List.forall_mem_cons.mpr ⟨(lo_pushI_tl _ _), ?_⟩
  refine List.forall_mem_cons.mpr ⟨(lo_ii_tl _ _), ?_⟩
  refine List.forall_mem_cons.mpr ⟨(lo_icmp_tl _ _ _), ?_⟩
  refine List.forall_mem_cons.mpr ⟨lo_none_tl, ?_⟩
  refine List.forall_mem_cons.mpr ⟨lo_none_tl, ?_⟩
  refine List.forall_mem_cons.mpr ⟨(lo_pushI_tl _ _), ?_⟩
  refine List.forall_mem_cons.mpr ⟨(lo_goto_tl _), ?_⟩
  refine List.forall_mem_cons.mpr ⟨lo_none_tl, ?_⟩
  refine List.forall_mem_cons.mpr ⟨lo_none_tl, ?_⟩
  refine List.forall_mem_cons.mpr ⟨(lo_pushI_tl _ _), ?_⟩
  refine List.forall_mem_cons.mpr ⟨(lo_istore_tl _ _), ?_⟩
  refine List.forall_mem_cons.mpr ⟨lo_none_tl, ?_⟩
  refine List.forall_mem_cons.mpr ⟨(lo_goto_tl _), ?_⟩
  refine List.forall_mem_cons.mpr ⟨lo_none_tl, ?_⟩
  refine List.forall_mem_cons.mpr ⟨lo_none_tl, ?_⟩
  refine List.forall_mem_cons.mpr ⟨(lo_iload_tl _ _), ?_⟩
  refine List.forall_mem_cons.mpr ⟨lo_none_tl, ?_⟩
  refine List.forall_mem_cons.mpr ⟨(lo_pushI_tl _ _), ?_⟩
  refine List.forall_mem_cons.mpr ⟨lo_none_tl, ?_⟩
  refine List.forall_mem_cons.mpr ⟨(lo_icmp_tl _ _ _), ?_⟩
  refine List.forall_mem_cons.mpr ⟨lo_none_tl, ?_⟩
  refine List.forall_mem_cons.mpr ⟨lo_none_tl, ?_⟩
  refine List.forall_mem_cons.mpr ⟨(lo_aload_tl _ _), ?_⟩
  refine List.forall_mem_cons.mpr ⟨(lo_iload_tl _ _), ?_⟩
  refine List.forall_mem_cons.mpr ⟨lo_none_tl, ?_⟩
  refine List.forall_mem_cons.mpr ⟨(lo_callv_tl _ _ _ _), ?_⟩
  refine List.forall_mem_cons.mpr ⟨lo_none_tl, ?_⟩
  refine List.forall_mem_cons.mpr ⟨lo_none_tl, ?_⟩
  refine List.forall_mem_cons.mpr ⟨(lo_if_tl _ _ _), ?_⟩
  refine List.forall_mem_cons.mpr ⟨lo_none_tl, ?_⟩
  refine List.forall_mem_cons.mpr ⟨lo_none_tl, ?_⟩
  refine List.forall_mem_cons.mpr ⟨(lo_pushI_tl _ _), ?_⟩
  refine List.forall_mem_cons.mpr ⟨(lo_goto_tl _), ?_⟩
  refine List.forall_mem_cons.mpr ⟨lo_none_tl, ?_⟩
  refine List.forall_mem_cons.mpr ⟨lo_none_tl, ?_⟩
  refine List.forall_mem_cons.mpr ⟨(lo_pushI_tl _ _), ?_⟩
  refine List.forall_mem_cons.mpr ⟨(lo_istore_tl _ _), ?_⟩
  refine List.forall_mem_cons.mpr ⟨lo_none_tl, ?_⟩
  refine List.forall_mem_cons.mpr ⟨(lo_aload_tl _ _), ?_⟩
  refine List.forall_mem_cons.mpr ⟨(lo_pushI_tl _ _), ?_⟩
  refine List.forall_mem_cons.mpr ⟨(lo_iload_tl _ _), ?_⟩
  refine List.forall_mem_cons.mpr ⟨lo_none_tl, ?_⟩
  refine List.forall_mem_cons.mpr ⟨(lo_pushI_tl _ _), ?_⟩
  refine List.forall_mem_cons.mpr ⟨(lo_iload_tl _ _), ?_⟩
  refine List.forall_mem_cons.mpr ⟨lo_none_tl, ?_⟩
  refine List.forall_mem_cons.mpr ⟨(lo_pushI_tl _ _), ?_⟩
  refine List.forall_mem_cons.mpr ⟨lo_none_tl, ?_⟩
  refine List.forall_mem_cons.mpr ⟨(lo_iid_tl _ _), ?_⟩
  refine List.forall_mem_cons.mpr ⟨(lo_pushI_tl _ _), ?_⟩
  refine List.forall_mem_cons.mpr ⟨(lo_iid_tl _ _), ?_⟩
  refine List.forall_mem_cons.mpr ⟨(lo_ii_tl _ _), ?_⟩
  refine List.forall_mem_cons.mpr ⟨(lo_pushI_tl _ _), ?_⟩
  refine List.forall_mem_cons.mpr ⟨(lo_pushI_tl _ _), ?_⟩
  refine List.forall_mem_cons.mpr ⟨(lo_pushI_tl _ _), ?_⟩
  refine List.forall_mem_cons.mpr ⟨(lo_pushI_tl _ _), ?_⟩
  refine List.forall_mem_cons.mpr ⟨(lo_calls_tl _ _ _ _ _), ?_⟩
  refine List.forall_mem_cons.mpr ⟨lo_none_tl, ?_⟩
  refine List.forall_mem_cons.mpr ⟨lo_none_tl, ?_⟩
  refine List.forall_mem_cons.mpr ⟨(lo_istore_tl _ _), ?_⟩
  refine List.forall_mem_cons.mpr ⟨lo_none_tl, ?_⟩
  refine List.forall_mem_cons.mpr ⟨(lo_iload_tl _ _), ?_⟩
  refine List.forall_mem_cons.mpr ⟨lo_none_tl, ?_⟩
  refine List.forall_mem_cons.mpr ⟨(lo_if_tl _ _ _), ?_⟩
  refine List.forall_mem_cons.mpr ⟨lo_none_tl, ?_⟩
  refine List.forall_mem_cons.mpr ⟨lo_none_tl, ?_⟩
  refine List.forall_mem_cons.mpr ⟨(lo_iload_tl _ _), ?_⟩
  refine List.forall_mem_cons.mpr ⟨lo_none_tl, ?_⟩
  refine List.forall_mem_cons.mpr ⟨(lo_aload_tl _ _), ?_⟩
  refine List.forall_mem_cons.mpr ⟨(lo_iload_tl _ _), ?_⟩
  refine List.forall_mem_cons.mpr ⟨lo_none_tl, ?_⟩
  refine List.forall_mem_cons.mpr ⟨(lo_callv_tl _ _ _ _), ?_⟩
  refine List.forall_mem_cons.mpr ⟨lo_none_tl, ?_⟩
  refine List.forall_mem_cons.mpr ⟨lo_none_tl, ?_⟩
  refine List.forall_mem_cons.mpr ⟨(lo_icmp_tl _ _ _), ?_⟩
  refine List.forall_mem_cons.mpr ⟨lo_none_tl, ?_⟩
  refine List.forall_mem_cons.mpr ⟨lo_none_tl, ?_⟩
  refine List.forall_mem_cons.mpr ⟨(lo_iload_tl _ _), ?_⟩
  refine List.forall_mem_cons.mpr ⟨lo_none_tl, ?_⟩
  refine List.forall_mem_cons.mpr ⟨(lo_if_tl _ _ _), ?_⟩
  refine List.forall_mem_cons.mpr ⟨lo_none_tl, ?_⟩
  refine List.forall_mem_cons.mpr ⟨lo_none_tl, ?_⟩
  refine List.forall_mem_cons.mpr ⟨(lo_iload_tl _ _), ?_⟩
  refine List.forall_mem_cons.mpr ⟨lo_none_tl, ?_⟩
  refine List.forall_mem_cons.mpr ⟨(lo_pushI_tl _ _), ?_⟩
  refine List.forall_mem_cons.mpr ⟨(lo_icmp_tl _ _ _), ?_⟩
  refine List.forall_mem_cons.mpr ⟨lo_none_tl, ?_⟩
  refine List.forall_mem_cons.mpr ⟨lo_none_tl, ?_⟩
  refine List.forall_mem_cons.mpr ⟨(lo_aload_tl _ _), ?_⟩
  refine List.forall_mem_cons.mpr ⟨(lo_iload_tl _ _), ?_⟩
  refine List.forall_mem_cons.mpr ⟨lo_none_tl, ?_⟩
  refine List.forall_mem_cons.mpr ⟨(lo_callv_tl _ _ _ _), ?_⟩
  refine List.forall_mem_cons.mpr ⟨lo_none_tl, ?_⟩
  refine List.forall_mem_cons.mpr ⟨lo_none_tl, ?_⟩
  refine List.forall_mem_cons.mpr ⟨(lo_pushI_tl _ _), ?_⟩
  refine List.forall_mem_cons.mpr ⟨(lo_icmp_tl _ _ _), ?_⟩
  refine List.forall_mem_cons.mpr ⟨lo_none_tl, ?_⟩
  refine List.forall_mem_cons.mpr ⟨lo_none_tl, ?_⟩
  refine List.forall_mem_cons.mpr ⟨(lo_aload_tl _ _), ?_⟩
  refine List.forall_mem_cons.mpr ⟨(lo_callv_tl _ _ _ _), ?_⟩
  refine List.forall_mem_cons.mpr ⟨lo_none_tl, ?_⟩
  refine List.forall_mem_cons.mpr ⟨lo_none_tl, ?_⟩
  refine List.forall_mem_cons.mpr ⟨(lo_iload_tl _ _), ?_⟩
  refine List.forall_mem_cons.mpr ⟨lo_none_tl, ?_⟩
  refine List.forall_mem_cons.mpr ⟨(lo_pushI_tl _ _), ?_⟩
  refine List.forall_mem_cons.mpr ⟨(lo_ii_tl _ _), ?_⟩
  refine List.forall_mem_cons.mpr ⟨(lo_icmp_tl _ _ _), ?_⟩
  refine List.forall_mem_cons.mpr ⟨lo_none_tl, ?_⟩
  refine List.forall_mem_cons.mpr ⟨lo_none_tl, ?_⟩
  refine List.forall_mem_cons.mpr ⟨(lo_pushI_tl _ _), ?_⟩
  refine List.forall_mem_cons.mpr ⟨(lo_goto_tl _), ?_⟩
  refine List.forall_mem_cons.mpr ⟨lo_none_tl, ?_⟩
  refine List.forall_mem_cons.mpr ⟨lo_none_tl, ?_⟩
  refine List.forall_mem_cons.mpr ⟨(lo_pushI_tl _ _), ?_⟩
  refine List.forall_mem_cons.mpr ⟨(lo_goto_tl _), ?_⟩
  refine List.forall_mem_cons.mpr ⟨lo_none_tl, ?_⟩
  refine List.forall_mem_cons.mpr ⟨lo_none_tl, ?_⟩
  refine List.forall_mem_cons.mpr ⟨(lo_iload_tl _ _), ?_⟩
  refine List.forall_mem_cons.mpr ⟨lo_none_tl, ?_⟩
  refine List.forall_mem_cons.mpr ⟨(lo_pushI_tl _ _), ?_⟩
  refine List.forall_mem_cons.mpr ⟨lo_none_tl, ?_⟩
  refine List.forall_mem_cons.mpr ⟨lo_none_tl, ?_⟩
  refine List.forall_mem_cons.mpr ⟨(lo_icmp_tl _ _ _), ?_⟩
  refine List.forall_mem_cons.mpr ⟨lo_none_tl, ?_⟩
  refine List.forall_mem_cons.mpr ⟨lo_none_tl, ?_⟩
  refine List.forall_mem_cons.mpr ⟨(lo_pushI_tl _ _), ?_⟩
  refine List.forall_mem_cons.mpr ⟨(lo_goto_tl _), ?_⟩
  refine List.forall_mem_cons.mpr ⟨lo_none_tl, ?_⟩
  refine List.forall_mem_cons.mpr ⟨lo_none_tl, ?_⟩
  refine List.forall_mem_cons.mpr ⟨(lo_pushI_tl _ _), ?_⟩
  refine List.forall_mem_cons.mpr ⟨(lo_istore_tl _ _), ?_⟩
  refine List.forall_mem_cons.mpr ⟨lo_none_tl, ?_⟩
  refine List.forall_mem_cons.mpr ⟨(lo_goto_tl _), ?_⟩
  refine List.forall_mem_cons.mpr ⟨lo_none_tl, ?_⟩
  refine List.forall_mem_cons.mpr ⟨lo_none_tl, ?_⟩
  refine List.forall_mem_cons.mpr ⟨(lo_iload_tl _ _), ?_⟩
  refine List.forall_mem_cons.mpr ⟨lo_none_tl, ?_⟩
  refine List.forall_mem_cons.mpr ⟨(lo_pushI_tl _ _), ?_⟩
  refine List.forall_mem_cons.mpr ⟨lo_none_tl, ?_⟩
  refine List.forall_mem_cons.mpr ⟨(lo_icmp_tl _ _ _), ?_⟩
  refine List.forall_mem_cons.mpr ⟨lo_none_tl, ?_⟩
  refine List.forall_mem_cons.mpr ⟨lo_none_tl, ?_⟩
  refine List.forall_mem_cons.mpr ⟨(lo_aload_tl _ _), ?_⟩
  refine List.forall_mem_cons.mpr ⟨(lo_pushI_tl _ _), ?_⟩
  refine List.forall_mem_cons.mpr ⟨(lo_iload_tl _ _), ?_⟩
  refine List.forall_mem_cons.mpr ⟨lo_none_tl, ?_⟩
  refine List.forall_mem_cons.mpr ⟨(lo_iload_tl _ _), ?_⟩
  refine List.forall_mem_cons.mpr ⟨lo_none_tl, ?_⟩
  refine List.forall_mem_cons.mpr ⟨(lo_pushI_tl _ _), ?_⟩
  refine List.forall_mem_cons.mpr ⟨lo_none_tl, ?_⟩
  refine List.forall_mem_cons.mpr ⟨(lo_iid_tl _ _), ?_⟩
  refine List.forall_mem_cons.mpr ⟨(lo_pushI_tl _ _), ?_⟩
  refine List.forall_mem_cons.mpr ⟨(lo_iid_tl _ _), ?_⟩
  refine List.forall_mem_cons.mpr ⟨(lo_pushI_tl _ _), ?_⟩
  refine List.forall_mem_cons.mpr ⟨(lo_iid_tl _ _), ?_⟩
  refine List.forall_mem_cons.mpr ⟨(lo_pushI_tl _ _), ?_⟩
  refine List.forall_mem_cons.mpr ⟨(lo_pushI_tl _ _), ?_⟩
  refine List.forall_mem_cons.mpr ⟨(lo_pushI_tl _ _), ?_⟩
  refine List.forall_mem_cons.mpr ⟨(lo_pushI_tl _ _), ?_⟩
  refine List.forall_mem_cons.mpr ⟨(lo_calls_tl _ _ _ _ _), ?_⟩
  refine List.forall_mem_cons.mpr ⟨lo_none_tl, ?_⟩
  refine List.forall_mem_cons.mpr ⟨lo_none_tl, ?_⟩
  refine List.forall_mem_cons.mpr ⟨(lo_istore_tl _ _), ?_⟩
  refine List.forall_mem_cons.mpr ⟨lo_none_tl, ?_⟩
  refine List.forall_mem_cons.mpr ⟨(lo_iload_tl _ _), ?_⟩
  refine List.forall_mem_cons.mpr ⟨lo_none_tl, ?_⟩
  refine List.forall_mem_cons.mpr ⟨(lo_pushI_tl _ _), ?_⟩
  refine List.forall_mem_cons.mpr ⟨lo_none_tl, ?_⟩
  refine List.forall_mem_cons.mpr ⟨lo_none_tl, ?_⟩
  refine List.forall_mem_cons.mpr ⟨(lo_icmp_tl _ _ _), ?_⟩
  refine List.forall_mem_cons.mpr ⟨lo_none_tl, ?_⟩
  refine List.forall_mem_cons.mpr ⟨lo_none_tl, ?_⟩
  refine List.forall_mem_cons.mpr ⟨(lo_aload_tl _ _), ?_⟩
  refine List.forall_mem_cons.mpr ⟨(lo_iload_tl _ _), ?_⟩
  refine List.forall_mem_cons.mpr ⟨lo_none_tl, ?_⟩
  refine List.forall_mem_cons.mpr ⟨(lo_callv_tl _ _ _ _), ?_⟩
  refine List.forall_mem_cons.mpr ⟨lo_none_tl, ?_⟩
  refine List.forall_mem_cons.mpr ⟨lo_none_tl, ?_⟩
  refine List.forall_mem_cons.mpr ⟨(lo_pushI_tl _ _), ?_⟩
  refine List.forall_mem_cons.mpr ⟨(lo_icmp_tl _ _ _), ?_⟩
  refine List.forall_mem_cons.mpr ⟨lo_none_tl, ?_⟩
  refine List.forall_mem_cons.mpr ⟨lo_none_tl, ?_⟩
  refine List.forall_mem_cons.mpr ⟨(lo_pushI_tl _ _), ?_⟩
  refine List.forall_mem_cons.mpr ⟨(lo_goto_tl _), ?_⟩
  refine List.forall_mem_cons.mpr ⟨lo_none_tl, ?_⟩
  refine List.forall_mem_cons.mpr ⟨lo_none_tl, ?_⟩
  refine List.forall_mem_cons.mpr ⟨(lo_pushI_tl _ _), ?_⟩
  refine List.forall_mem_cons.mpr ⟨(lo_goto_tl _), ?_⟩
  refine List.forall_mem_cons.mpr ⟨lo_none_tl, ?_⟩
  refine List.forall_mem_cons.mpr ⟨lo_none_tl, ?_⟩
  refine List.forall_mem_cons.mpr ⟨(lo_aload_tl _ _), ?_⟩
  refine List.forall_mem_cons.mpr ⟨(lo_pushI_tl _ _), ?_⟩
  refine List.forall_mem_cons.mpr ⟨(lo_iload_tl _ _), ?_⟩
  refine List.forall_mem_cons.mpr ⟨lo_none_tl, ?_⟩
  refine List.forall_mem_cons.mpr ⟨(lo_iload_tl _ _), ?_⟩
  refine List.forall_mem_cons.mpr ⟨lo_none_tl, ?_⟩
  refine List.forall_mem_cons.mpr ⟨(lo_pushI_tl _ _), ?_⟩
  refine List.forall_mem_cons.mpr ⟨lo_none_tl, ?_⟩
  refine List.forall_mem_cons.mpr ⟨(lo_iid_tl _ _), ?_⟩
  refine List.forall_mem_cons.mpr ⟨(lo_pushI_tl _ _), ?_⟩
  refine List.forall_mem_cons.mpr ⟨(lo_iid_tl _ _), ?_⟩
  refine List.forall_mem_cons.mpr ⟨(lo_pushI_tl _ _), ?_⟩
  refine List.forall_mem_cons.mpr ⟨(lo_iid_tl _ _), ?_⟩
  refine List.forall_mem_cons.mpr ⟨(lo_pushI_tl _ _), ?_⟩
  refine List.forall_mem_cons.mpr ⟨(lo_pushI_tl _ _), ?_⟩
  refine List.forall_mem_cons.mpr ⟨(lo_pushI_tl _ _), ?_⟩
  refine List.forall_mem_cons.mpr ⟨(lo_pushI_tl _ _), ?_⟩
  refine List.forall_mem_cons.mpr ⟨(lo_calls_tl _ _ _ _ _), ?_⟩
  refine List.forall_mem_cons.mpr ⟨lo_none_tl, ?_⟩
  refine List.forall_mem_cons.mpr ⟨lo_none_tl, ?_⟩
  refine List.forall_mem_cons.mpr ⟨(lo_iload_tl _ _), ?_⟩
  refine List.forall_mem_cons.mpr ⟨lo_none_tl, ?_⟩
  refine List.forall_mem_cons.mpr ⟨(lo_pushI_tl _ _), ?_⟩
  refine List.forall_mem_cons.mpr ⟨lo_none_tl, ?_⟩
  refine List.forall_mem_cons.mpr ⟨(lo_iid_tl _ _), ?_⟩
  refine List.forall_mem_cons.mpr ⟨(lo_pushI_tl _ _), ?_⟩
  refine List.forall_mem_cons.mpr ⟨(lo_iid_tl _ _), ?_⟩
  refine List.forall_mem_cons.mpr ⟨(lo_pushI_tl _ _), ?_⟩
  refine List.forall_mem_cons.mpr ⟨(lo_iid_tl _ _), ?_⟩
  refine List.forall_mem_cons.mpr ⟨(lo_icmp_tl _ _ _), ?_⟩
  refine List.forall_mem_cons.mpr ⟨lo_none_tl, ?_⟩
  refine List.forall_mem_cons.mpr ⟨lo_none_tl, ?_⟩
  refine List.forall_mem_cons.mpr ⟨(lo_pushI_tl _ _), ?_⟩
  refine List.forall_mem_cons.mpr ⟨(lo_goto_tl _), ?_⟩
  refine List.forall_mem_cons.mpr ⟨lo_none_tl, ?_⟩
  refine List.forall_mem_cons.mpr ⟨lo_none_tl, ?_⟩
  refine List.forall_mem_cons.mpr ⟨(lo_pushI_tl _ _), ?_⟩
  refine List.forall_mem_cons.mpr ⟨(lo_istore_tl _ _), ?_⟩
  refine List.forall_mem_cons.mpr ⟨lo_none_tl, ?_⟩
  refine List.forall_mem_cons.mpr ⟨(lo_goto_tl _), ?_⟩
  refine List.forall_mem_cons.mpr ⟨lo_none_tl, ?_⟩
  refine List.forall_mem_cons.mpr ⟨lo_none_tl, ?_⟩
  refine List.forall_mem_cons.mpr ⟨(lo_iload_tl _ _), ?_⟩
  refine List.forall_mem_cons.mpr ⟨lo_none_tl, ?_⟩
  refine List.forall_mem_cons.mpr ⟨(lo_pushI_tl _ _), ?_⟩
  refine List.forall_mem_cons.mpr ⟨lo_none_tl, ?_⟩
  refine List.forall_mem_cons.mpr ⟨(lo_icmp_tl _ _ _), ?_⟩
  refine List.forall_mem_cons.mpr ⟨lo_none_tl, ?_⟩
  refine List.forall_mem_cons.mpr ⟨lo_none_tl, ?_⟩
  refine List.forall_mem_cons.mpr ⟨(lo_iload_tl _ _), ?_⟩
  refine List.forall_mem_cons.mpr ⟨lo_none_tl, ?_⟩
  refine List.forall_mem_cons.mpr ⟨(lo_pushI_tl _ _), ?_⟩
  refine List.forall_mem_cons.mpr ⟨(lo_icmp_tl _ _ _), ?_⟩
  refine List.forall_mem_cons.mpr ⟨lo_none_tl, ?_⟩
  refine List.forall_mem_cons.mpr ⟨lo_none_tl, ?_⟩
  refine List.forall_mem_cons.mpr ⟨(lo_aload_tl _ _), ?_⟩
  refine List.forall_mem_cons.mpr ⟨(lo_iload_tl _ _), ?_⟩
  refine List.forall_mem_cons.mpr ⟨lo_none_tl, ?_⟩
  refine List.forall_mem_cons.mpr ⟨(lo_callv_tl _ _ _ _), ?_⟩
  refine List.forall_mem_cons.mpr ⟨lo_none_tl, ?_⟩
  refine List.forall_mem_cons.mpr ⟨lo_none_tl, ?_⟩
  refine List.forall_mem_cons.mpr ⟨(lo_pushI_tl _ _), ?_⟩
  refine List.forall_mem_cons.mpr ⟨(lo_icmp_tl _ _ _), ?_⟩
  refine List.forall_mem_cons.mpr ⟨lo_none_tl, ?_⟩
  refine List.forall_mem_cons.mpr ⟨lo_none_tl, ?_⟩
  refine List.forall_mem_cons.mpr ⟨(lo_aload_tl _ _), ?_⟩
  refine List.forall_mem_cons.mpr ⟨(lo_iload_tl _ _), ?_⟩
  refine List.forall_mem_cons.mpr ⟨lo_none_tl, ?_⟩
  refine List.forall_mem_cons.mpr ⟨(lo_callv_tl _ _ _ _), ?_⟩
  refine List.forall_mem_cons.mpr ⟨lo_none_tl, ?_⟩
  refine List.forall_mem_cons.mpr ⟨lo_none_tl, ?_⟩
  refine List.forall_mem_cons.mpr ⟨(lo_pushI_tl _ _), ?_⟩
  refine List.forall_mem_cons.mpr ⟨(lo_icmp_tl _ _ _), ?_⟩
  refine List.forall_mem_cons.mpr ⟨lo_none_tl, ?_⟩
  refine List.forall_mem_cons.mpr ⟨lo_none_tl, ?_⟩
  refine List.forall_mem_cons.mpr ⟨(lo_pushI_tl _ _), ?_⟩
  refine List.forall_mem_cons.mpr ⟨(lo_goto_tl _), ?_⟩
  refine List.forall_mem_cons.mpr ⟨lo_none_tl, ?_⟩
  refine List.forall_mem_cons.mpr ⟨lo_none_tl, ?_⟩
  refine List.forall_mem_cons.mpr ⟨(lo_pushI_tl _ _), ?_⟩
  refine List.forall_mem_cons.mpr ⟨(lo_istore_tl _ _), ?_⟩
  refine List.forall_mem_cons.mpr ⟨lo_none_tl, ?_⟩
  refine List.forall_mem_cons.mpr ⟨(lo_aload_tl _ _), ?_⟩
  refine List.forall_mem_cons.mpr ⟨(lo_pushI_tl _ _), ?_⟩
  refine List.forall_mem_cons.mpr ⟨(lo_iload_tl _ _), ?_⟩
  refine List.forall_mem_cons.mpr ⟨lo_none_tl, ?_⟩
  refine List.forall_mem_cons.mpr ⟨(lo_iload_tl _ _), ?_⟩
  refine List.forall_mem_cons.mpr ⟨lo_none_tl, ?_⟩
  refine List.forall_mem_cons.mpr ⟨(lo_pushI_tl _ _), ?_⟩
  refine List.forall_mem_cons.mpr ⟨lo_none_tl, ?_⟩
  refine List.forall_mem_cons.mpr ⟨(lo_iid_tl _ _), ?_⟩
  refine List.forall_mem_cons.mpr ⟨(lo_pushI_tl _ _), ?_⟩
  refine List.forall_mem_cons.mpr ⟨(lo_iid_tl _ _), ?_⟩
  refine List.forall_mem_cons.mpr ⟨(lo_pushI_tl _ _), ?_⟩
  refine List.forall_mem_cons.mpr ⟨(lo_pushI_tl _ _), ?_⟩
  refine List.forall_mem_cons.mpr ⟨(lo_pushI_tl _ _), ?_⟩
  refine List.forall_mem_cons.mpr ⟨(lo_pushI_tl _ _), ?_⟩
  refine List.forall_mem_cons.mpr ⟨(lo_calls_tl _ _ _ _ _), ?_⟩
  refine List.forall_mem_cons.mpr ⟨lo_none_tl, ?_⟩
  refine List.forall_mem_cons.mpr ⟨lo_none_tl, ?_⟩
  refine List.forall_mem_cons.mpr ⟨(lo_istore_tl _ _), ?_⟩
  refine List.forall_mem_cons.mpr ⟨lo_none_tl, ?_⟩
  refine List.forall_mem_cons.mpr ⟨(lo_iload_tl _ _), ?_⟩
  refine List.forall_mem_cons.mpr ⟨lo_none_tl, ?_⟩
  refine List.forall_mem_cons.mpr ⟨(lo_if_tl _ _ _), ?_⟩
  refine List.forall_mem_cons.mpr ⟨lo_none_tl, ?_⟩
  refine List.forall_mem_cons.mpr ⟨lo_none_tl, ?_⟩
  refine List.forall_mem_cons.mpr ⟨(lo_iload_tl _ _), ?_⟩
  refine List.forall_mem_cons.mpr ⟨lo_none_tl, ?_⟩
  refine List.forall_mem_cons.mpr ⟨(lo_iload_tl _ _), ?_⟩
  refine List.forall_mem_cons.mpr ⟨lo_none_tl, ?_⟩
  refine List.forall_mem_cons.mpr ⟨(lo_pushI_tl _ _), ?_⟩
  refine List.forall_mem_cons.mpr ⟨(lo_ii_tl _ _), ?_⟩
  refine List.forall_mem_cons.mpr ⟨(lo_icmp_tl _ _ _), ?_⟩
  refine List.forall_mem_cons.mpr ⟨lo_none_tl, ?_⟩
  refine List.forall_mem_cons.mpr ⟨lo_none_tl, ?_⟩
  refine List.forall_mem_cons.mpr ⟨(lo_aload_tl _ _), ?_⟩
  refine List.forall_mem_cons.mpr ⟨(lo_iload_tl _ _), ?_⟩
  refine List.forall_mem_cons.mpr ⟨lo_none_tl, ?_⟩
  refine List.forall_mem_cons.mpr ⟨(lo_callv_tl _ _ _ _), ?_⟩
  refine List.forall_mem_cons.mpr ⟨lo_none_tl, ?_⟩
  refine List.forall_mem_cons.mpr ⟨lo_none_tl, ?_⟩
  refine List.forall_mem_cons.mpr ⟨(lo_pushI_tl _ _), ?_⟩
  refine List.forall_mem_cons.mpr ⟨(lo_iload_tl _ _), ?_⟩
  refine List.forall_mem_cons.mpr ⟨lo_none_tl, ?_⟩
  refine List.forall_mem_cons.mpr ⟨(lo_pushI_tl _ _), ?_⟩
  refine List.forall_mem_cons.mpr ⟨lo_none_tl, ?_⟩
  refine List.forall_mem_cons.mpr ⟨(lo_iid_tl _ _), ?_⟩
  refine List.forall_mem_cons.mpr ⟨(lo_pushI_tl _ _), ?_⟩
  refine List.forall_mem_cons.mpr ⟨(lo_iid_tl _ _), ?_⟩
  refine List.forall_mem_cons.mpr ⟨(lo_ii_tl _ _), ?_⟩
  refine List.forall_mem_cons.mpr ⟨(lo_icmp_tl _ _ _), ?_⟩
  refine List.forall_mem_cons.mpr ⟨lo_none_tl, ?_⟩
  refine List.forall_mem_cons.mpr ⟨lo_none_tl, ?_⟩
  refine List.forall_mem_cons.mpr ⟨(lo_pushI_tl _ _), ?_⟩
  refine List.forall_mem_cons.mpr ⟨(lo_goto_tl _), ?_⟩
  refine List.forall_mem_cons.mpr ⟨lo_none_tl, ?_⟩
  refine List.forall_mem_cons.mpr ⟨lo_none_tl, ?_⟩
  refine List.forall_mem_cons.mpr ⟨(lo_pushI_tl _ _), ?_⟩
  refine List.forall_mem_cons.mpr ⟨(lo_goto_tl _), ?_⟩
  refine List.forall_mem_cons.mpr ⟨lo_none_tl, ?_⟩
  refine List.forall_mem_cons.mpr ⟨lo_none_tl, ?_⟩
  refine List.forall_mem_cons.mpr ⟨(lo_iload_tl _ _), ?_⟩
  refine List.forall_mem_cons.mpr ⟨lo_none_tl, ?_⟩
  refine List.forall_mem_cons.mpr ⟨(lo_pushI_tl _ _), ?_⟩
  refine List.forall_mem_cons.mpr ⟨lo_none_tl, ?_⟩
  refine List.forall_mem_cons.mpr ⟨lo_none_tl, ?_⟩
  refine List.forall_mem_cons.mpr ⟨(lo_icmp_tl _ _ _), ?_⟩
  refine List.forall_mem_cons.mpr ⟨lo_none_tl, ?_⟩
  refine List.forall_mem_cons.mpr ⟨lo_none_tl, ?_⟩
  refine List.forall_mem_cons.mpr ⟨(lo_pushI_tl _ _), ?_⟩
  refine List.forall_mem_cons.mpr ⟨(lo_goto_tl _), ?_⟩
  refine List.forall_mem_cons.mpr ⟨lo_none_tl, ?_⟩
  refine List.forall_mem_cons.mpr ⟨lo_none_tl, ?_⟩
  refine List.forall_mem_cons.mpr ⟨(lo_pushI_tl _ _), ?_⟩
  refine List.forall_mem_cons.mpr ⟨(lo_istore_tl _ _), ?_⟩
  refine List.forall_mem_cons.mpr ⟨lo_none_tl, ?_⟩
  refine List.forall_mem_cons.mpr ⟨(lo_goto_tl _), ?_⟩
  refine List.forall_mem_cons.mpr ⟨lo_none_tl, ?_⟩
  refine List.forall_mem_cons.mpr ⟨lo_none_tl, ?_⟩
  refine List.forall_mem_cons.mpr ⟨(lo_iload_tl _ _), ?_⟩
  refine List.forall_mem_cons.mpr ⟨lo_none_tl, ?_⟩
  refine List.forall_mem_cons.mpr ⟨(lo_pushI_tl _ _), ?_⟩
  refine List.forall_mem_cons.mpr ⟨lo_none_tl, ?_⟩
  refine List.forall_mem_cons.mpr ⟨(lo_icmp_tl _ _ _), ?_⟩
  refine List.forall_mem_cons.mpr ⟨lo_none_tl, ?_⟩
  refine List.forall_mem_cons.mpr ⟨lo_none_tl, ?_⟩
  refine List.forall_mem_cons.mpr ⟨(lo_aload_tl _ _), ?_⟩
  refine List.forall_mem_cons.mpr ⟨(lo_calls_tl _ _ _ _ _), ?_⟩
  refine List.forall_mem_cons.mpr ⟨lo_none_tl, ?_⟩
  refine List.forall_mem_cons.mpr ⟨lo_none_tl, ?_⟩
  refine List.forall_mem_cons.mpr ⟨(lo_istore_tl _ _), ?_⟩
  refine List.forall_mem_cons.mpr ⟨lo_none_tl, ?_⟩
  refine List.forall_mem_cons.mpr ⟨(lo_goto_tl _), ?_⟩
  refine List.forall_mem_cons.mpr ⟨lo_none_tl, ?_⟩
  refine List.forall_mem_cons.mpr ⟨lo_none_tl, ?_⟩
  refine List.forall_mem_cons.mpr ⟨(lo_iload_tl _ _), ?_⟩
  refine List.forall_mem_cons.mpr ⟨lo_none_tl, ?_⟩
  refine List.forall_mem_cons.mpr ⟨(lo_pushI_tl _ _), ?_⟩
  refine List.forall_mem_cons.mpr ⟨lo_none_tl, ?_⟩
  refine List.forall_mem_cons.mpr ⟨(lo_icmp_tl _ _ _), ?_⟩
  refine List.forall_mem_cons.mpr ⟨lo_none_tl, ?_⟩
  refine List.forall_mem_cons.mpr ⟨lo_none_tl, ?_⟩
  refine List.forall_mem_cons.mpr ⟨(lo_iload_tl _ _), ?_⟩
  refine List.forall_mem_cons.mpr ⟨lo_none_tl, ?_⟩
  refine List.forall_mem_cons.mpr ⟨(lo_pushI_tl _ _), ?_⟩
  refine List.forall_mem_cons.mpr ⟨(lo_iid_tl _ _), ?_⟩
  refine List.forall_mem_cons.mpr ⟨(lo_istore_tl _ _), ?_⟩
  refine List.forall_mem_cons.mpr ⟨lo_none_tl, ?_⟩
  refine List.forall_mem_cons.mpr ⟨(lo_aload_tl _ _), ?_⟩
  refine List.forall_mem_cons.mpr ⟨(lo_iload_tl _ _), ?_⟩
  refine List.forall_mem_cons.mpr ⟨lo_none_tl, ?_⟩
  refine List.forall_mem_cons.mpr ⟨(lo_iald_tl _ _ _), ?_⟩
  refine List.forall_mem_cons.mpr ⟨(lo_iload_tl _ _), ?_⟩
  refine List.forall_mem_cons.mpr ⟨lo_none_tl, ?_⟩
  refine List.forall_mem_cons.mpr ⟨(lo_icmp_tl _ _ _), ?_⟩
  refine List.forall_mem_cons.mpr ⟨lo_none_tl, ?_⟩
  refine List.forall_mem_cons.mpr ⟨lo_none_tl, ?_⟩
  refine List.forall_mem_cons.mpr ⟨(lo_pushI_tl _ _), ?_⟩
  refine List.forall_mem_cons.mpr ⟨lo_none_tl, ?_⟩
  refine List.forall_mem_cons.mpr ⟨lo_none_tl, ?_⟩
  refine List.forall_mem_cons.mpr ⟨(lo_goto_tl _), ?_⟩
  refine List.forall_mem_cons.mpr ⟨lo_none_tl, ?_⟩
  refine List.forall_mem_cons.mpr ⟨lo_none_tl, ?_⟩
  refine List.forall_mem_cons.mpr ⟨(lo_aload_tl _ _), ?_⟩
  refine List.forall_mem_cons.mpr ⟨(lo_iload_tl _ _), ?_⟩
  refine List.forall_mem_cons.mpr ⟨lo_none_tl, ?_⟩
  refine List.forall_mem_cons.mpr ⟨(lo_iald_tl _ _ _), ?_⟩
  refine List.forall_mem_cons.mpr ⟨(lo_iload_tl _ _), ?_⟩
  refine List.forall_mem_cons.mpr ⟨lo_none_tl, ?_⟩
  refine List.forall_mem_cons.mpr ⟨(lo_icmp_tl _ _ _), ?_⟩
  refine List.forall_mem_cons.mpr ⟨lo_none_tl, ?_⟩
  refine List.forall_mem_cons.mpr ⟨lo_none_tl, ?_⟩
  refine List.forall_mem_cons.mpr ⟨(lo_pushI_tl _ _), ?_⟩
  refine List.forall_mem_cons.mpr ⟨(lo_goto_tl _), ?_⟩
  refine List.forall_mem_cons.mpr ⟨lo_none_tl, ?_⟩
  refine List.forall_mem_cons.mpr ⟨lo_none_tl, ?_⟩
  refine List.forall_mem_cons.mpr ⟨(lo_aload_tl _ _), ?_⟩
  refine List.forall_mem_cons.mpr ⟨(lo_aload_tl _ _), ?_⟩
  refine List.forall_mem_cons.mpr ⟨(lo_iload_tl _ _), ?_⟩
  refine List.forall_mem_cons.mpr ⟨lo_none_tl, ?_⟩
  refine List.forall_mem_cons.mpr ⟨(lo_iald_tl _ _ _), ?_⟩
  refine List.forall_mem_cons.mpr ⟨(lo_pushI_tl _ _), ?_⟩
  refine List.forall_mem_cons.mpr ⟨(lo_ii_tl _ _), ?_⟩
  refine List.forall_mem_cons.mpr ⟨(lo_callv_tl _ _ _ _), ?_⟩
  refine List.forall_mem_cons.mpr ⟨lo_none_tl, ?_⟩
  refine List.forall_mem_cons.mpr ⟨lo_none_tl, ?_⟩
  refine List.forall_mem_cons.mpr ⟨(lo_istore_tl _ _), ?_⟩
  refine List.forall_mem_cons.mpr ⟨lo_none_tl, ?_⟩
  refine List.forall_mem_cons.mpr ⟨(lo_aload_tl _ _), ?_⟩
  refine List.forall_mem_cons.mpr ⟨(lo_pushI_tl _ _), ?_⟩
  refine List.forall_mem_cons.mpr ⟨lo_none_tl, ?_⟩
  refine List.forall_mem_cons.mpr ⟨(lo_iload_tl _ _), ?_⟩
  refine List.forall_mem_cons.mpr ⟨lo_none_tl, ?_⟩
  refine List.forall_mem_cons.mpr ⟨(lo_pushI_tl _ _), ?_⟩
  refine List.forall_mem_cons.mpr ⟨(lo_pushI_tl _ _), ?_⟩
  refine List.forall_mem_cons.mpr ⟨(lo_pushI_tl _ _), ?_⟩
  refine List.forall_mem_cons.mpr ⟨(lo_pushI_tl _ _), ?_⟩
  refine List.forall_mem_cons.mpr ⟨(lo_pushI_tl _ _), ?_⟩
  refine List.forall_mem_cons.mpr ⟨(lo_calls_tl _ _ _ _ _), ?_⟩
  refine List.forall_mem_cons.mpr ⟨lo_none_tl, ?_⟩
  refine List.forall_mem_cons.mpr ⟨lo_none_tl, ?_⟩
  refine List.forall_mem_cons.mpr ⟨(lo_iload_tl _ _), ?_⟩
  refine List.forall_mem_cons.mpr ⟨lo_none_tl, ?_⟩
  refine List.forall_mem_cons.mpr ⟨(lo_icmp_tl _ _ _), ?_⟩
  refine List.forall_mem_cons.mpr ⟨lo_none_tl, ?_⟩
  refine List.forall_mem_cons.mpr ⟨lo_none_tl, ?_⟩
  refine List.forall_mem_cons.mpr ⟨(lo_pushI_tl _ _), ?_⟩
  refine List.forall_mem_cons.mpr ⟨(lo_goto_tl _), ?_⟩
  refine List.forall_mem_cons.mpr ⟨lo_none_tl, ?_⟩
  refine List.forall_mem_cons.mpr ⟨lo_none_tl, ?_⟩
  refine List.forall_mem_cons.mpr ⟨(lo_pushI_tl _ _), ?_⟩
  refine List.forall_mem_cons.mpr ⟨(lo_istore_tl _ _), ?_⟩
  refine List.forall_mem_cons.mpr ⟨lo_none_tl, ?_⟩
  refine List.forall_mem_cons.mpr ⟨(lo_aload_tl _ _), ?_⟩
  refine List.forall_mem_cons.mpr ⟨(lo_iload_tl _ _), ?_⟩
  refine List.forall_mem_cons.mpr ⟨lo_none_tl, ?_⟩
  refine List.forall_mem_cons.mpr ⟨(lo_dup2_tl _), ?_⟩
  refine List.forall_mem_cons.mpr ⟨(lo_iald_tl _ _ _), ?_⟩
  refine List.forall_mem_cons.mpr ⟨(lo_iload_tl _ _), ?_⟩
  refine List.forall_mem_cons.mpr ⟨lo_none_tl, ?_⟩
  refine List.forall_mem_cons.mpr ⟨(lo_if_tl _ _ _), ?_⟩
  refine List.forall_mem_cons.mpr ⟨lo_none_tl, ?_⟩
  refine List.forall_mem_cons.mpr ⟨lo_none_tl, ?_⟩
  refine List.forall_mem_cons.mpr ⟨(lo_pushI_tl _ _), ?_⟩
  refine List.forall_mem_cons.mpr ⟨(lo_goto_tl _), ?_⟩
  refine List.forall_mem_cons.mpr ⟨lo_none_tl, ?_⟩
  refine List.forall_mem_cons.mpr ⟨lo_none_tl, ?_⟩
  refine List.forall_mem_cons.mpr ⟨(lo_pushI_tl _ _), ?_⟩
  refine List.forall_mem_cons.mpr ⟨(lo_ii_tl _ _), ?_⟩
  refine List.forall_mem_cons.mpr ⟨(lo_iast_tl _ _), ?_⟩
  refine List.forall_mem_cons.mpr ⟨(lo_goto_tl _), ?_⟩
  refine List.forall_mem_cons.mpr ⟨lo_none_tl, ?_⟩
  refine List.forall_mem_cons.mpr ⟨lo_none_tl, ?_⟩
  refine List.forall_mem_cons.mpr ⟨(lo_iload_tl _ _), ?_⟩
  refine List.forall_mem_cons.mpr ⟨lo_none_tl, ?_⟩
  refine List.forall_mem_cons.mpr ⟨(lo_pushI_tl _ _), ?_⟩
  refine List.forall_mem_cons.mpr ⟨lo_none_tl, ?_⟩
  refine List.forall_mem_cons.mpr ⟨(lo_icmp_tl _ _ _), ?_⟩
  refine List.forall_mem_cons.mpr ⟨lo_none_tl, ?_⟩
  refine List.forall_mem_cons.mpr ⟨lo_none_tl, ?_⟩
  refine List.forall_mem_cons.mpr ⟨(lo_iload_tl _ _), ?_⟩
  refine List.forall_mem_cons.mpr ⟨lo_none_tl, ?_⟩
  refine List.forall_mem_cons.mpr ⟨(lo_pushI_tl _ _), ?_⟩
  refine List.forall_mem_cons.mpr ⟨(lo_iid_tl _ _), ?_⟩
  refine List.forall_mem_cons.mpr ⟨(lo_istore_tl _ _), ?_⟩
  refine List.forall_mem_cons.mpr ⟨lo_none_tl, ?_⟩
  refine List.forall_mem_cons.mpr ⟨(lo_iload_tl _ _), ?_⟩
  refine List.forall_mem_cons.mpr ⟨lo_none_tl, ?_⟩
  refine List.forall_mem_cons.mpr ⟨(lo_pushI_tl _ _), ?_⟩
  refine List.forall_mem_cons.mpr ⟨(lo_iid_tl _ _), ?_⟩
  refine List.forall_mem_cons.mpr ⟨(lo_iload_tl _ _), ?_⟩
  refine List.forall_mem_cons.mpr ⟨lo_none_tl, ?_⟩
  refine List.forall_mem_cons.mpr ⟨(lo_pushI_tl _ _), ?_⟩
  refine List.forall_mem_cons.mpr ⟨(lo_ii_tl _ _), ?_⟩
  refine List.forall_mem_cons.mpr ⟨(lo_iid_tl _ _), ?_⟩
  refine List.forall_mem_cons.mpr ⟨(lo_istore_tl _ _), ?_⟩
  refine List.forall_mem_cons.mpr ⟨lo_none_tl, ?_⟩
  refine List.forall_mem_cons.mpr ⟨(lo_aload_tl _ _), ?_⟩
  refine List.forall_mem_cons.mpr ⟨(lo_pushI_tl _ _), ?_⟩
  refine List.forall_mem_cons.mpr ⟨lo_none_tl, ?_⟩
  refine List.forall_mem_cons.mpr ⟨(lo_iload_tl _ _), ?_⟩
  refine List.forall_mem_cons.mpr ⟨lo_none_tl, ?_⟩
  refine List.forall_mem_cons.mpr ⟨(lo_iload_tl _ _), ?_⟩
  refine List.forall_mem_cons.mpr ⟨lo_none_tl, ?_⟩
  refine List.forall_mem_cons.mpr ⟨(lo_pushI_tl _ _), ?_⟩
  refine List.forall_mem_cons.mpr ⟨(lo_pushI_tl _ _), ?_⟩
  refine List.forall_mem_cons.mpr ⟨(lo_pushI_tl _ _), ?_⟩
  refine List.forall_mem_cons.mpr ⟨(lo_pushI_tl _ _), ?_⟩
  refine List.forall_mem_cons.mpr ⟨(lo_calls_tl _ _ _ _ _), ?_⟩
  refine List.forall_mem_cons.mpr ⟨lo_none_tl, ?_⟩
  refine List.forall_mem_cons.mpr ⟨lo_none_tl, ?_⟩
  refine List.forall_mem_cons.mpr ⟨(lo_iload_tl _ _), ?_⟩
  refine List.forall_mem_cons.mpr ⟨lo_none_tl, ?_⟩
  refine List.forall_mem_cons.mpr ⟨(lo_iload_tl _ _), ?_⟩
  refine List.forall_mem_cons.mpr ⟨lo_none_tl, ?_⟩
  refine List.forall_mem_cons.mpr ⟨(lo_icmp_tl _ _ _), ?_⟩
  refine List.forall_mem_cons.mpr ⟨lo_none_tl, ?_⟩
  refine List.forall_mem_cons.mpr ⟨lo_none_tl, ?_⟩
  refine List.forall_mem_cons.mpr ⟨(lo_pushI_tl _ _), ?_⟩
  refine List.forall_mem_cons.mpr ⟨lo_none_tl, ?_⟩
  refine List.forall_mem_cons.mpr ⟨lo_none_tl, ?_⟩
  refine List.forall_mem_cons.mpr ⟨(lo_goto_tl _), ?_⟩
  refine List.forall_mem_cons.mpr ⟨lo_none_tl, ?_⟩
  refine List.forall_mem_cons.mpr ⟨lo_none_tl, ?_⟩
  refine List.forall_mem_cons.mpr ⟨(lo_iload_tl _ _), ?_⟩
  refine List.forall_mem_cons.mpr ⟨lo_none_tl, ?_⟩
  refine List.forall_mem_cons.mpr ⟨(lo_iload_tl _ _), ?_⟩
  refine List.forall_mem_cons.mpr ⟨lo_none_tl, ?_⟩
  refine List.forall_mem_cons.mpr ⟨(lo_ii_tl _ _), ?_⟩
  refine List.forall_mem_cons.mpr ⟨(lo_icmp_tl _ _ _), ?_⟩
  refine List.forall_mem_cons.mpr ⟨lo_none_tl, ?_⟩
  refine List.forall_mem_cons.mpr ⟨lo_none_tl, ?_⟩
  refine List.forall_mem_cons.mpr ⟨(lo_pushI_tl _ _), ?_⟩
  refine List.forall_mem_cons.mpr ⟨(lo_goto_tl _), ?_⟩
  refine List.forall_mem_cons.mpr ⟨lo_none_tl, ?_⟩
  refine List.forall_mem_cons.mpr ⟨lo_none_tl, ?_⟩
  refine List.forall_mem_cons.mpr ⟨(lo_pushI_tl _ _), ?_⟩
  refine List.forall_mem_cons.mpr ⟨(lo_istore_tl _ _), ?_⟩
  refine List.forall_mem_cons.mpr ⟨lo_none_tl, ?_⟩
  refine List.forall_mem_cons.mpr ⟨(lo_aload_tl _ _), ?_⟩
  refine List.forall_mem_cons.mpr ⟨(lo_iload_tl _ _), ?_⟩
  refine List.forall_mem_cons.mpr ⟨lo_none_tl, ?_⟩
  refine List.forall_mem_cons.mpr ⟨(lo_iload_tl _ _), ?_⟩
  refine List.forall_mem_cons.mpr ⟨lo_none_tl, ?_⟩
  refine List.forall_mem_cons.mpr ⟨(lo_iload_tl _ _), ?_⟩
  refine List.forall_mem_cons.mpr ⟨lo_none_tl, ?_⟩
  refine List.forall_mem_cons.mpr ⟨(lo_icmp_tl _ _ _), ?_⟩
  refine List.forall_mem_cons.mpr ⟨lo_none_tl, ?_⟩
  refine List.forall_mem_cons.mpr ⟨lo_none_tl, ?_⟩
  refine List.forall_mem_cons.mpr ⟨(lo_aload_tl _ _), ?_⟩
  refine List.forall_mem_cons.mpr ⟨(lo_iload_tl _ _), ?_⟩
  refine List.forall_mem_cons.mpr ⟨lo_none_tl, ?_⟩
  refine List.forall_mem_cons.mpr ⟨(lo_iald_tl _ _ _), ?_⟩
  refine List.forall_mem_cons.mpr ⟨(lo_goto_tl _), ?_⟩
  refine List.forall_mem_cons.mpr ⟨lo_none_tl, ?_⟩
  refine List.forall_mem_cons.mpr ⟨lo_none_tl, ?_⟩
  refine List.forall_mem_cons.mpr ⟨(lo_iload_tl _ _), ?_⟩
  refine List.forall_mem_cons.mpr ⟨lo_none_tl, ?_⟩
  refine List.forall_mem_cons.mpr ⟨(lo_iast_tl _ _), ?_⟩
  refine List.forall_mem_cons.mpr ⟨(lo_goto_tl _), ?_⟩
  refine List.forall_mem_cons.mpr ⟨lo_none_tl, ?_⟩
  refine List.forall_mem_cons.mpr ⟨lo_none_tl, ?_⟩
  refine List.forall_mem_cons.mpr ⟨(lo_iload_tl _ _), ?_⟩
  refine List.forall_mem_cons.mpr ⟨lo_none_tl, ?_⟩
  refine List.forall_mem_cons.mpr ⟨(lo_pushI_tl _ _), ?_⟩
  refine List.forall_mem_cons.mpr ⟨lo_none_tl, ?_⟩
  refine List.forall_mem_cons.mpr ⟨(lo_icmp_tl _ _ _), ?_⟩
  refine List.forall_mem_cons.mpr ⟨lo_none_tl, ?_⟩
  refine List.forall_mem_cons.mpr ⟨lo_none_tl, ?_⟩
  refine List.forall_mem_cons.mpr ⟨(lo_iload_tl _ _), ?_⟩
  refine List.forall_mem_cons.mpr ⟨lo_none_tl, ?_⟩
  refine List.forall_mem_cons.mpr ⟨(lo_pushI_tl _ _), ?_⟩
  refine List.forall_mem_cons.mpr ⟨(lo_iid_tl _ _), ?_⟩
  refine List.forall_mem_cons.mpr ⟨(lo_if_tl _ _ _), ?_⟩
  refine List.forall_mem_cons.mpr ⟨lo_none_tl, ?_⟩
  refine List.forall_mem_cons.mpr ⟨lo_none_tl, ?_⟩
  refine List.forall_mem_cons.mpr ⟨(lo_iload_tl _ _), ?_⟩
  refine List.forall_mem_cons.mpr ⟨lo_none_tl, ?_⟩
  refine List.forall_mem_cons.mpr ⟨(lo_pushI_tl _ _), ?_⟩
  refine List.forall_mem_cons.mpr ⟨(lo_iid_tl _ _), ?_⟩
  refine List.forall_mem_cons.mpr ⟨(lo_iload_tl _ _), ?_⟩
  refine List.forall_mem_cons.mpr ⟨lo_none_tl, ?_⟩
  refine List.forall_mem_cons.mpr ⟨(lo_pushI_tl _ _), ?_⟩
  refine List.forall_mem_cons.mpr ⟨(lo_ii_tl _ _), ?_⟩
  refine List.forall_mem_cons.mpr ⟨(lo_iid_tl _ _), ?_⟩
  refine List.forall_mem_cons.mpr ⟨(lo_istore_tl _ _), ?_⟩
  refine List.forall_mem_cons.mpr ⟨lo_none_tl, ?_⟩
  refine List.forall_mem_cons.mpr ⟨(lo_iload_tl _ _), ?_⟩
  refine List.forall_mem_cons.mpr ⟨lo_none_tl, ?_⟩
  refine List.forall_mem_cons.mpr ⟨(lo_iload_tl _ _), ?_⟩
  refine List.forall_mem_cons.mpr ⟨lo_none_tl, ?_⟩
  refine List.forall_mem_cons.mpr ⟨(lo_icmp_tl _ _ _), ?_⟩
  refine List.forall_mem_cons.mpr ⟨lo_none_tl, ?_⟩
  refine List.forall_mem_cons.mpr ⟨lo_none_tl, ?_⟩
  refine List.forall_mem_cons.mpr ⟨(lo_iload_tl _ _), ?_⟩
  refine List.forall_mem_cons.mpr ⟨lo_none_tl, ?_⟩
  refine List.forall_mem_cons.mpr ⟨(lo_goto_tl _), ?_⟩
  refine List.forall_mem_cons.mpr ⟨lo_none_tl, ?_⟩
  refine List.forall_mem_cons.mpr ⟨lo_none_tl, ?_⟩
  refine List.forall_mem_cons.mpr ⟨(lo_iload_tl _ _), ?_⟩
  refine List.forall_mem_cons.mpr ⟨lo_none_tl, ?_⟩
  refine List.forall_mem_cons.mpr ⟨(lo_istore_tl _ _), ?_⟩
  refine List.forall_mem_cons.mpr ⟨lo_none_tl, ?_⟩
  refine List.forall_mem_cons.mpr ⟨(lo_aload_tl _ _), ?_⟩
  refine List.forall_mem_cons.mpr ⟨(lo_pushI_tl _ _), ?_⟩
  refine List.forall_mem_cons.mpr ⟨lo_none_tl, ?_⟩
  refine List.forall_mem_cons.mpr ⟨(lo_iload_tl _ _), ?_⟩
  refine List.forall_mem_cons.mpr ⟨lo_none_tl, ?_⟩
  refine List.forall_mem_cons.mpr ⟨(lo_pushI_tl _ _), ?_⟩
  refine List.forall_mem_cons.mpr ⟨(lo_pushI_tl _ _), ?_⟩
  refine List.forall_mem_cons.mpr ⟨(lo_pushI_tl _ _), ?_⟩
  refine List.forall_mem_cons.mpr ⟨(lo_pushI_tl _ _), ?_⟩
  refine List.forall_mem_cons.mpr ⟨(lo_pushI_tl _ _), ?_⟩
  refine List.forall_mem_cons.mpr ⟨(lo_calls_tl _ _ _ _ _), ?_⟩
  refine List.forall_mem_cons.mpr ⟨lo_none_tl, ?_⟩
  refine List.forall_mem_cons.mpr ⟨lo_none_tl, ?_⟩
  refine List.forall_mem_cons.mpr ⟨(lo_iload_tl _ _), ?_⟩
  refine List.forall_mem_cons.mpr ⟨lo_none_tl, ?_⟩
  refine List.forall_mem_cons.mpr ⟨(lo_icmp_tl _ _ _), ?_⟩
  refine List.forall_mem_cons.mpr ⟨lo_none_tl, ?_⟩
  refine List.forall_mem_cons.mpr ⟨lo_none_tl, ?_⟩
  refine List.forall_mem_cons.mpr ⟨(lo_pushI_tl _ _), ?_⟩
  refine List.forall_mem_cons.mpr ⟨(lo_goto_tl _), ?_⟩
  refine List.forall_mem_cons.mpr ⟨lo_none_tl, ?_⟩
  refine List.forall_mem_cons.mpr ⟨lo_none_tl, ?_⟩
  refine List.forall_mem_cons.mpr ⟨(lo_pushI_tl _ _), ?_⟩
  refine List.forall_mem_cons.mpr ⟨(lo_istore_tl _ _), ?_⟩
  refine List.forall_mem_cons.mpr ⟨lo_none_tl, ?_⟩
  refine List.forall_mem_cons.mpr ⟨(lo_goto_tl _), ?_⟩
  refine List.forall_mem_cons.mpr ⟨lo_none_tl, ?_⟩
  refine List.forall_mem_cons.mpr ⟨lo_none_tl, ?_⟩
  refine List.forall_mem_cons.mpr ⟨(lo_iload_tl _ _), ?_⟩
  refine List.forall_mem_cons.mpr ⟨lo_none_tl, ?_⟩
  refine List.forall_mem_cons.mpr ⟨(lo_pushI_tl _ _), ?_⟩
  refine List.forall_mem_cons.mpr ⟨lo_none_tl, ?_⟩
  refine List.forall_mem_cons.mpr ⟨(lo_icmp_tl _ _ _), ?_⟩
  refine List.forall_mem_cons.mpr ⟨lo_none_tl, ?_⟩
  refine List.forall_mem_cons.mpr ⟨lo_none_tl, ?_⟩
  refine List.forall_mem_cons.mpr ⟨(lo_pushI_tl _ _), ?_⟩
  refine List.forall_mem_cons.mpr ⟨(lo_istore_tl _ _), ?_⟩
  refine List.forall_mem_cons.mpr ⟨lo_none_tl, ?_⟩
  refine List.forall_mem_cons.mpr ⟨(lo_pushI_tl _ _), ?_⟩
  refine List.forall_mem_cons.mpr ⟨(lo_istore_tl _ _), ?_⟩
  refine List.forall_mem_cons.mpr ⟨lo_none_tl, ?_⟩
  refine List.forall_mem_cons.mpr ⟨(lo_iload_tl _ _), ?_⟩
  refine List.forall_mem_cons.mpr ⟨lo_none_tl, ?_⟩
  refine List.forall_mem_cons.mpr ⟨(lo_iload_tl _ _), ?_⟩
  refine List.forall_mem_cons.mpr ⟨lo_none_tl, ?_⟩
  refine List.forall_mem_cons.mpr ⟨(lo_icmp_tl _ _ _), ?_⟩
  refine List.forall_mem_cons.mpr ⟨lo_none_tl, ?_⟩
  refine List.forall_mem_cons.mpr ⟨lo_none_tl, ?_⟩
  refine List.forall_mem_cons.mpr ⟨(lo_iload_tl _ _), ?_⟩
  refine List.forall_mem_cons.mpr ⟨lo_none_tl, ?_⟩
  refine List.forall_mem_cons.mpr ⟨(lo_aload_tl _ _), ?_⟩
  refine List.forall_mem_cons.mpr ⟨(lo_iload_tl _ _), ?_⟩
  refine List.forall_mem_cons.mpr ⟨lo_none_tl, ?_⟩
  refine List.forall_mem_cons.mpr ⟨(lo_callv_tl _ _ _ _), ?_⟩
  refine List.forall_mem_cons.mpr ⟨lo_none_tl, ?_⟩
  refine List.forall_mem_cons.mpr ⟨lo_none_tl, ?_⟩
  refine List.forall_mem_cons.mpr ⟨(lo_pushI_tl _ _), ?_⟩
  refine List.forall_mem_cons.mpr ⟨(lo_icmp_tl _ _ _), ?_⟩
  refine List.forall_mem_cons.mpr ⟨lo_none_tl, ?_⟩
  refine List.forall_mem_cons.mpr ⟨lo_none_tl, ?_⟩
  refine List.forall_mem_cons.mpr ⟨(lo_pushI_tl _ _), ?_⟩
  refine List.forall_mem_cons.mpr ⟨(lo_goto_tl _), ?_⟩
  refine List.forall_mem_cons.mpr ⟨lo_none_tl, ?_⟩
  refine List.forall_mem_cons.mpr ⟨lo_none_tl, ?_⟩
  refine List.forall_mem_cons.mpr ⟨(lo_pushI_tl _ _), ?_⟩
  refine List.forall_mem_cons.mpr ⟨(lo_ii_tl _ _), ?_⟩
  refine List.forall_mem_cons.mpr ⟨(lo_istore_tl _ _), ?_⟩
  refine List.forall_mem_cons.mpr ⟨lo_none_tl, ?_⟩
  refine List.forall_mem_cons.mpr ⟨(lo_iinc_tl _ _ _), ?_⟩
  refine List.forall_mem_cons.mpr ⟨lo_none_tl, ?_⟩
  refine List.forall_mem_cons.mpr ⟨lo_none_tl, ?_⟩
  refine List.forall_mem_cons.mpr ⟨(lo_goto_tl _), ?_⟩
  refine List.forall_mem_cons.mpr ⟨lo_none_tl, ?_⟩
  refine List.forall_mem_cons.mpr ⟨lo_none_tl, ?_⟩
  refine List.forall_mem_cons.mpr ⟨(lo_aload_tl _ _), ?_⟩
  refine List.forall_mem_cons.mpr ⟨(lo_pushI_tl _ _), ?_⟩
  refine List.forall_mem_cons.mpr ⟨lo_none_tl, ?_⟩
  refine List.forall_mem_cons.mpr ⟨(lo_iload_tl _ _), ?_⟩
  refine List.forall_mem_cons.mpr ⟨lo_none_tl, ?_⟩
  refine List.forall_mem_cons.mpr ⟨(lo_pushI_tl _ _), ?_⟩
  refine List.forall_mem_cons.mpr ⟨(lo_iid_tl _ _), ?_⟩
  refine List.forall_mem_cons.mpr ⟨(lo_pushI_tl _ _), ?_⟩
  refine List.forall_mem_cons.mpr ⟨(lo_pushI_tl _ _), ?_⟩
  refine List.forall_mem_cons.mpr ⟨(lo_pushI_tl _ _), ?_⟩
  refine List.forall_mem_cons.mpr ⟨(lo_pushI_tl _ _), ?_⟩
  refine List.forall_mem_cons.mpr ⟨(lo_pushI_tl _ _), ?_⟩
  refine List.forall_mem_cons.mpr ⟨(lo_calls_tl _ _ _ _ _), ?_⟩
  refine List.forall_mem_cons.mpr ⟨lo_none_tl, ?_⟩
  refine List.forall_mem_cons.mpr ⟨lo_none_tl, ?_⟩
  refine List.forall_mem_cons.mpr ⟨(lo_iload_tl _ _), ?_⟩
  refine List.forall_mem_cons.mpr ⟨lo_none_tl, ?_⟩
  refine List.forall_mem_cons.mpr ⟨(lo_icmp_tl _ _ _), ?_⟩
  refine List.forall_mem_cons.mpr ⟨lo_none_tl, ?_⟩
  refine List.forall_mem_cons.mpr ⟨lo_none_tl, ?_⟩
  refine List.forall_mem_cons.mpr ⟨(lo_pushI_tl _ _), ?_⟩
  refine List.forall_mem_cons.mpr ⟨(lo_goto_tl _), ?_⟩
  refine List.forall_mem_cons.mpr ⟨lo_none_tl, ?_⟩
  refine List.forall_mem_cons.mpr ⟨lo_none_tl, ?_⟩
  refine List.forall_mem_cons.mpr ⟨(lo_pushI_tl _ _), ?_⟩
  refine List.forall_mem_cons.mpr ⟨(lo_istore_tl _ _), ?_⟩
  refine List.forall_mem_cons.mpr ⟨lo_none_tl, ?_⟩
  refine List.forall_mem_cons.mpr ⟨(lo_aload_tl _ _), ?_⟩
  refine List.forall_mem_cons.mpr ⟨(lo_iload_tl _ _), ?_⟩
  refine List.forall_mem_cons.mpr ⟨lo_none_tl, ?_⟩
  refine List.forall_mem_cons.mpr ⟨(lo_pushI_tl _ _), ?_⟩
  refine List.forall_mem_cons.mpr ⟨(lo_iid_tl _ _), ?_⟩
  refine List.forall_mem_cons.mpr ⟨(lo_iload_tl _ _), ?_⟩
  refine List.forall_mem_cons.mpr ⟨lo_none_tl, ?_⟩
  refine List.forall_mem_cons.mpr ⟨(lo_iast_tl _ _), ?_⟩
  refine List.forall_mem_cons.mpr ⟨(lo_goto_tl _), ?_⟩
  refine List.forall_mem_cons.mpr ⟨lo_none_tl, ?_⟩
  refine List.forall_mem_cons.mpr ⟨lo_none_tl, ?_⟩
  refine List.forall_mem_cons.mpr ⟨(lo_iload_tl _ _), ?_⟩
  refine List.forall_mem_cons.mpr ⟨lo_none_tl, ?_⟩
  refine List.forall_mem_cons.mpr ⟨(lo_pushI_tl _ _), ?_⟩
  refine List.forall_mem_cons.mpr ⟨lo_none_tl, ?_⟩
  refine List.forall_mem_cons.mpr ⟨(lo_icmp_tl _ _ _), ?_⟩
  refine List.forall_mem_cons.mpr ⟨lo_none_tl, ?_⟩
  refine List.forall_mem_cons.mpr ⟨lo_none_tl, ?_⟩
  refine List.forall_mem_cons.mpr ⟨(lo_aload_tl _ _), ?_⟩
  refine List.forall_mem_cons.mpr ⟨(lo_pushI_tl _ _), ?_⟩
  refine List.forall_mem_cons.mpr ⟨lo_none_tl, ?_⟩
  refine List.forall_mem_cons.mpr ⟨(lo_pushI_tl _ _), ?_⟩
  refine List.forall_mem_cons.mpr ⟨(lo_iload_tl _ _), ?_⟩
  refine List.forall_mem_cons.mpr ⟨lo_none_tl, ?_⟩
  refine List.forall_mem_cons.mpr ⟨(lo_pushI_tl _ _), ?_⟩
  refine List.forall_mem_cons.mpr ⟨lo_none_tl, ?_⟩
  refine List.forall_mem_cons.mpr ⟨(lo_iid_tl _ _), ?_⟩
  refine List.forall_mem_cons.mpr ⟨(lo_ii_tl _ _), ?_⟩
  refine List.forall_mem_cons.mpr ⟨(lo_pushI_tl _ _), ?_⟩
  refine List.forall_mem_cons.mpr ⟨(lo_pushI_tl _ _), ?_⟩
  refine List.forall_mem_cons.mpr ⟨(lo_pushI_tl _ _), ?_⟩
  refine List.forall_mem_cons.mpr ⟨(lo_pushI_tl _ _), ?_⟩
  refine List.forall_mem_cons.mpr ⟨(lo_pushI_tl _ _), ?_⟩
  refine List.forall_mem_cons.mpr ⟨(lo_calls_tl _ _ _ _ _), ?_⟩
  refine List.forall_mem_cons.mpr ⟨lo_none_tl, ?_⟩
  refine List.forall_mem_cons.mpr ⟨lo_none_tl, ?_⟩
  refine List.forall_mem_cons.mpr ⟨(lo_if_tl _ _ _), ?_⟩
  refine List.forall_mem_cons.mpr ⟨lo_none_tl, ?_⟩
  refine List.forall_mem_cons.mpr ⟨lo_none_tl, ?_⟩
  refine List.forall_mem_cons.mpr ⟨(lo_aload_tl _ _), ?_⟩
  refine List.forall_mem_cons.mpr ⟨(lo_callv_tl _ _ _ _), ?_⟩
  refine List.forall_mem_cons.mpr ⟨lo_none_tl, ?_⟩
  refine List.forall_mem_cons.mpr ⟨lo_none_tl, ?_⟩
  refine List.forall_mem_cons.mpr ⟨(lo_iload_tl _ _), ?_⟩
  refine List.forall_mem_cons.mpr ⟨lo_none_tl, ?_⟩
  refine List.forall_mem_cons.mpr ⟨(lo_icmp_tl _ _ _), ?_⟩
  refine List.forall_mem_cons.mpr ⟨lo_none_tl, ?_⟩
  refine List.forall_mem_cons.mpr ⟨lo_none_tl, ?_⟩
  refine List.forall_mem_cons.mpr ⟨(lo_pushI_tl _ _), ?_⟩
  refine List.forall_mem_cons.mpr ⟨(lo_goto_tl _), ?_⟩
  refine List.forall_mem_cons.mpr ⟨lo_none_tl, ?_⟩
  refine List.forall_mem_cons.mpr ⟨lo_none_tl, ?_⟩
  refine List.forall_mem_cons.mpr ⟨(lo_pushI_tl _ _), ?_⟩
  refine List.forall_mem_cons.mpr ⟨(lo_istore_tl _ _), ?_⟩
  refine List.forall_mem_cons.mpr ⟨lo_none_tl, ?_⟩
  refine List.forall_mem_cons.mpr ⟨(lo_goto_tl _), ?_⟩
  refine List.forall_mem_cons.mpr ⟨lo_none_tl, ?_⟩
  refine List.forall_mem_cons.mpr ⟨lo_none_tl, ?_⟩
  refine List.forall_mem_cons.mpr ⟨(lo_iload_tl _ _), ?_⟩
  refine List.forall_mem_cons.mpr ⟨lo_none_tl, ?_⟩
  refine List.forall_mem_cons.mpr ⟨(lo_pushI_tl _ _), ?_⟩
  refine List.forall_mem_cons.mpr ⟨lo_none_tl, ?_⟩
  refine List.forall_mem_cons.mpr ⟨(lo_icmp_tl _ _ _), ?_⟩
  refine List.forall_mem_cons.mpr ⟨lo_none_tl, ?_⟩
  refine List.forall_mem_cons.mpr ⟨lo_none_tl, ?_⟩
  refine List.forall_mem_cons.mpr ⟨(lo_iload_tl _ _), ?_⟩
  refine List.forall_mem_cons.mpr ⟨lo_none_tl, ?_⟩
  refine List.forall_mem_cons.mpr ⟨(lo_pushI_tl _ _), ?_⟩
  refine List.forall_mem_cons.mpr ⟨(lo_icmp_tl _ _ _), ?_⟩
  refine List.forall_mem_cons.mpr ⟨lo_none_tl, ?_⟩
  refine List.forall_mem_cons.mpr ⟨lo_none_tl, ?_⟩
  refine List.forall_mem_cons.mpr ⟨(lo_aload_tl _ _), ?_⟩
  refine List.forall_mem_cons.mpr ⟨(lo_iload_tl _ _), ?_⟩
  refine List.forall_mem_cons.mpr ⟨lo_none_tl, ?_⟩
  refine List.forall_mem_cons.mpr ⟨(lo_callv_tl _ _ _ _), ?_⟩
  refine List.forall_mem_cons.mpr ⟨lo_none_tl, ?_⟩
  refine List.forall_mem_cons.mpr ⟨lo_none_tl, ?_⟩
  refine List.forall_mem_cons.mpr ⟨(lo_pushI_tl _ _), ?_⟩
  refine List.forall_mem_cons.mpr ⟨(lo_icmp_tl _ _ _), ?_⟩
  refine List.forall_mem_cons.mpr ⟨lo_none_tl, ?_⟩
  refine List.forall_mem_cons.mpr ⟨lo_none_tl, ?_⟩
  refine List.forall_mem_cons.mpr ⟨(lo_pushI_tl _ _), ?_⟩
  refine List.forall_mem_cons.mpr ⟨(lo_goto_tl _), ?_⟩
  refine List.forall_mem_cons.mpr ⟨lo_none_tl, ?_⟩
  refine List.forall_mem_cons.mpr ⟨lo_none_tl, ?_⟩
  refine List.forall_mem_cons.mpr ⟨(lo_pushI_tl _ _), ?_⟩
  refine List.forall_mem_cons.mpr ⟨(lo_istore_tl _ _), ?_⟩
  refine List.forall_mem_cons.mpr ⟨lo_none_tl, ?_⟩
  refine List.forall_mem_cons.mpr ⟨(lo_aload_tl _ _), ?_⟩
  refine List.forall_mem_cons.mpr ⟨(lo_iload_tl _ _), ?_⟩
  refine List.forall_mem_cons.mpr ⟨lo_none_tl, ?_⟩
  refine List.forall_mem_cons.mpr ⟨(lo_callv_tl _ _ _ _), ?_⟩
  refine List.forall_mem_cons.mpr ⟨lo_none_tl, ?_⟩
  refine List.forall_mem_cons.mpr ⟨lo_none_tl, ?_⟩
  refine List.forall_mem_cons.mpr ⟨(lo_if_tl _ _ _), ?_⟩
  refine List.forall_mem_cons.mpr ⟨lo_none_tl, ?_⟩
  refine List.forall_mem_cons.mpr ⟨lo_none_tl, ?_⟩
  refine List.forall_mem_cons.mpr ⟨(lo_pushI_tl _ _), ?_⟩
  refine List.forall_mem_cons.mpr ⟨(lo_goto_tl _), ?_⟩
  refine List.forall_mem_cons.mpr ⟨lo_none_tl, ?_⟩
  refine List.forall_mem_cons.mpr ⟨lo_none_tl, ?_⟩
  refine List.forall_mem_cons.mpr ⟨(lo_pushI_tl _ _), ?_⟩
  refine List.forall_mem_cons.mpr ⟨(lo_istore_tl _ _), ?_⟩
  refine List.forall_mem_cons.mpr ⟨lo_none_tl, ?_⟩
  refine List.forall_mem_cons.mpr ⟨(lo_aload_tl _ _), ?_⟩
  refine List.forall_mem_cons.mpr ⟨(lo_pushI_tl _ _), ?_⟩
  refine List.forall_mem_cons.mpr ⟨lo_none_tl, ?_⟩
  refine List.forall_mem_cons.mpr ⟨(lo_iload_tl _ _), ?_⟩
  refine List.forall_mem_cons.mpr ⟨lo_none_tl, ?_⟩
  refine List.forall_mem_cons.mpr ⟨(lo_pushI_tl _ _), ?_⟩
  refine List.forall_mem_cons.mpr ⟨(lo_pushI_tl _ _), ?_⟩
  refine List.forall_mem_cons.mpr ⟨(lo_pushI_tl _ _), ?_⟩
  refine List.forall_mem_cons.mpr ⟨(lo_pushI_tl _ _), ?_⟩
  refine List.forall_mem_cons.mpr ⟨(lo_pushI_tl _ _), ?_⟩
  refine List.forall_mem_cons.mpr ⟨(lo_calls_tl _ _ _ _ _), ?_⟩
  refine List.forall_mem_cons.mpr ⟨lo_none_tl, ?_⟩
  refine List.forall_mem_cons.mpr ⟨lo_none_tl, ?_⟩
  refine List.forall_mem_cons.mpr ⟨(lo_iload_tl _ _), ?_⟩
  refine List.forall_mem_cons.mpr ⟨lo_none_tl, ?_⟩
  refine List.forall_mem_cons.mpr ⟨(lo_if_tl _ _ _), ?_⟩
  refine List.forall_mem_cons.mpr ⟨lo_none_tl, ?_⟩
  refine List.forall_mem_cons.mpr ⟨lo_none_tl, ?_⟩
  refine List.forall_mem_cons.mpr ⟨(lo_pushI_tl _ _), ?_⟩
  refine List.forall_mem_cons.mpr ⟨lo_none_tl, ?_⟩
  refine List.forall_mem_cons.mpr ⟨lo_none_tl, ?_⟩
  refine List.forall_mem_cons.mpr ⟨(lo_goto_tl _), ?_⟩
  refine List.forall_mem_cons.mpr ⟨lo_none_tl, ?_⟩
  refine List.forall_mem_cons.mpr ⟨lo_none_tl, ?_⟩
  refine List.forall_mem_cons.mpr ⟨(lo_iload_tl _ _), ?_⟩
  refine List.forall_mem_cons.mpr ⟨lo_none_tl, ?_⟩
  refine List.forall_mem_cons.mpr ⟨(lo_icmp_tl _ _ _), ?_⟩
  refine List.forall_mem_cons.mpr ⟨lo_none_tl, ?_⟩
  refine List.forall_mem_cons.mpr ⟨lo_none_tl, ?_⟩
  refine List.forall_mem_cons.mpr ⟨(lo_iload_tl _ _), ?_⟩
  refine List.forall_mem_cons.mpr ⟨lo_none_tl, ?_⟩
  refine List.forall_mem_cons.mpr ⟨(lo_if_tl _ _ _), ?_⟩
  refine List.forall_mem_cons.mpr ⟨lo_none_tl, ?_⟩
  refine List.forall_mem_cons.mpr ⟨lo_none_tl, ?_⟩
  refine List.forall_mem_cons.mpr ⟨(lo_aload_tl _ _), ?_⟩
  refine List.forall_mem_cons.mpr ⟨(lo_iload_tl _ _), ?_⟩
  refine List.forall_mem_cons.mpr ⟨lo_none_tl, ?_⟩
  refine List.forall_mem_cons.mpr ⟨(lo_callv_tl _ _ _ _), ?_⟩
  refine List.forall_mem_cons.mpr ⟨lo_none_tl, ?_⟩
  refine List.forall_mem_cons.mpr ⟨lo_none_tl, ?_⟩
  refine List.forall_mem_cons.mpr ⟨(lo_if_tl _ _ _), ?_⟩
  refine List.forall_mem_cons.mpr ⟨lo_none_tl, ?_⟩
  refine List.forall_mem_cons.mpr ⟨lo_none_tl, ?_⟩
  refine List.forall_mem_cons.mpr ⟨(lo_aload_tl _ _), ?_⟩
  refine List.forall_mem_cons.mpr ⟨(lo_callv_tl _ _ _ _), ?_⟩
  refine List.forall_mem_cons.mpr ⟨lo_none_tl, ?_⟩
  refine List.forall_mem_cons.mpr ⟨lo_none_tl, ?_⟩
  refine List.forall_mem_cons.mpr ⟨(lo_iload_tl _ _), ?_⟩
  refine List.forall_mem_cons.mpr ⟨lo_none_tl, ?_⟩
  refine List.forall_mem_cons.mpr ⟨(lo_iload_tl _ _), ?_⟩
  refine List.forall_mem_cons.mpr ⟨lo_none_tl, ?_⟩
  refine List.forall_mem_cons.mpr ⟨(lo_if_tl _ _ _), ?_⟩
  refine List.forall_mem_cons.mpr ⟨lo_none_tl, ?_⟩
  refine List.forall_mem_cons.mpr ⟨lo_none_tl, ?_⟩
  refine List.forall_mem_cons.mpr ⟨(lo_iload_tl _ _), ?_⟩
  refine List.forall_mem_cons.mpr ⟨lo_none_tl, ?_⟩
  refine List.forall_mem_cons.mpr ⟨(lo_pushI_tl _ _), ?_⟩
  refine List.forall_mem_cons.mpr ⟨(lo_icmp_tl _ _ _), ?_⟩
  refine List.forall_mem_cons.mpr ⟨lo_none_tl, ?_⟩
  refine List.forall_mem_cons.mpr ⟨lo_none_tl, ?_⟩
  refine List.forall_mem_cons.mpr ⟨(lo_pushI_tl _ _), ?_⟩
  refine List.forall_mem_cons.mpr ⟨(lo_goto_tl _), ?_⟩
  refine List.forall_mem_cons.mpr ⟨lo_none_tl, ?_⟩
  refine List.forall_mem_cons.mpr ⟨lo_none_tl, ?_⟩
  refine List.forall_mem_cons.mpr ⟨(lo_pushI_tl _ _), ?_⟩
  refine List.forall_mem_cons.mpr ⟨(lo_ii_tl _ _), ?_⟩
  refine List.forall_mem_cons.mpr ⟨(lo_icmp_tl _ _ _), ?_⟩
  refine List.forall_mem_cons.mpr ⟨lo_none_tl, ?_⟩
  refine List.forall_mem_cons.mpr ⟨lo_none_tl, ?_⟩
  refine List.forall_mem_cons.mpr ⟨(lo_pushI_tl _ _), ?_⟩
  refine List.forall_mem_cons.mpr ⟨(lo_goto_tl _), ?_⟩
  refine List.forall_mem_cons.mpr ⟨lo_none_tl, ?_⟩
  refine List.forall_mem_cons.mpr ⟨lo_none_tl, ?_⟩
  refine List.forall_mem_cons.mpr ⟨(lo_pushI_tl _ _), ?_⟩
  refine List.forall_mem_cons.mpr ⟨(lo_istore_tl _ _), ?_⟩
  refine List.forall_mem_cons.mpr ⟨lo_none_tl, ?_⟩
  refine List.forall_mem_cons.mpr ⟨(lo_goto_tl _), ?_⟩
  refine List.forall_mem_cons.mpr ⟨lo_none_tl, ?_⟩
  refine List.forall_mem_cons.mpr ⟨lo_none_tl, ?_⟩
  refine List.forall_mem_cons.mpr ⟨(lo_iload_tl _ _), ?_⟩
  refine List.forall_mem_cons.mpr ⟨lo_none_tl, ?_⟩
  refine List.forall_mem_cons.mpr ⟨(lo_pushI_tl _ _), ?_⟩
  refine List.forall_mem_cons.mpr ⟨lo_none_tl, ?_⟩
  refine List.forall_mem_cons.mpr ⟨(lo_icmp_tl _ _ _), ?_⟩
  refine List.forall_mem_cons.mpr ⟨lo_none_tl, ?_⟩
  refine List.forall_mem_cons.mpr ⟨lo_none_tl, ?_⟩
  refine List.forall_mem_cons.mpr ⟨(lo_iload_tl _ _), ?_⟩
  refine List.forall_mem_cons.mpr ⟨lo_none_tl, ?_⟩
  refine List.forall_mem_cons.mpr ⟨(lo_pushI_tl _ _), ?_⟩
  refine List.forall_mem_cons.mpr ⟨lo_none_tl, ?_⟩
  refine List.forall_mem_cons.mpr ⟨(lo_iid_tl _ _), ?_⟩
  refine List.forall_mem_cons.mpr ⟨(lo_istore_tl _ _), ?_⟩
  refine List.forall_mem_cons.mpr ⟨lo_none_tl, ?_⟩
  refine List.forall_mem_cons.mpr ⟨(lo_aload_tl _ _), ?_⟩
  refine List.forall_mem_cons.mpr ⟨(lo_iload_tl _ _), ?_⟩
  refine List.forall_mem_cons.mpr ⟨lo_none_tl, ?_⟩
  refine List.forall_mem_cons.mpr ⟨(lo_callv_tl _ _ _ _), ?_⟩
  refine List.forall_mem_cons.mpr ⟨lo_none_tl, ?_⟩
  refine List.forall_mem_cons.mpr ⟨lo_none_tl, ?_⟩
  refine List.forall_mem_cons.mpr ⟨(lo_istore_tl _ _), ?_⟩
  refine List.forall_mem_cons.mpr ⟨lo_none_tl, ?_⟩
  refine List.forall_mem_cons.mpr ⟨(lo_aload_tl _ _), ?_⟩
  refine List.forall_mem_cons.mpr ⟨(lo_pushI_tl _ _), ?_⟩
  refine List.forall_mem_cons.mpr ⟨lo_none_tl, ?_⟩
  refine List.forall_mem_cons.mpr ⟨(lo_iload_tl _ _), ?_⟩
  refine List.forall_mem_cons.mpr ⟨lo_none_tl, ?_⟩
  refine List.forall_mem_cons.mpr ⟨(lo_pushI_tl _ _), ?_⟩
  refine List.forall_mem_cons.mpr ⟨(lo_iload_tl _ _), ?_⟩
  refine List.forall_mem_cons.mpr ⟨lo_none_tl, ?_⟩
  refine List.forall_mem_cons.mpr ⟨(lo_pushI_tl _ _), ?_⟩
  refine List.forall_mem_cons.mpr ⟨lo_none_tl, ?_⟩
  refine List.forall_mem_cons.mpr ⟨(lo_iid_tl _ _), ?_⟩
  refine List.forall_mem_cons.mpr ⟨(lo_pushI_tl _ _), ?_⟩
  refine List.forall_mem_cons.mpr ⟨lo_none_tl, ?_⟩
  refine List.forall_mem_cons.mpr ⟨(lo_iid_tl _ _), ?_⟩
  refine List.forall_mem_cons.mpr ⟨(lo_ii_tl _ _), ?_⟩
  refine List.forall_mem_cons.mpr ⟨(lo_pushI_tl _ _), ?_⟩
  refine List.forall_mem_cons.mpr ⟨(lo_pushI_tl _ _), ?_⟩
  refine List.forall_mem_cons.mpr ⟨(lo_pushI_tl _ _), ?_⟩
  refine List.forall_mem_cons.mpr ⟨(lo_pushI_tl _ _), ?_⟩
  refine List.forall_mem_cons.mpr ⟨(lo_calls_tl _ _ _ _ _), ?_⟩
  refine List.forall_mem_cons.mpr ⟨lo_none_tl, ?_⟩
  refine List.forall_mem_cons.mpr ⟨lo_none_tl, ?_⟩
  refine List.forall_mem_cons.mpr ⟨(lo_istore_tl _ _), ?_⟩
  refine List.forall_mem_cons.mpr ⟨lo_none_tl, ?_⟩
  refine List.forall_mem_cons.mpr ⟨(lo_iload_tl _ _), ?_⟩
  refine List.forall_mem_cons.mpr ⟨lo_none_tl, ?_⟩
  refine List.forall_mem_cons.mpr ⟨(lo_if_tl _ _ _), ?_⟩
  refine List.forall_mem_cons.mpr ⟨lo_none_tl, ?_⟩
  refine List.forall_mem_cons.mpr ⟨lo_none_tl, ?_⟩
  refine List.forall_mem_cons.mpr ⟨(lo_iload_tl _ _), ?_⟩
  refine List.forall_mem_cons.mpr ⟨lo_none_tl, ?_⟩
  refine List.forall_mem_cons.mpr ⟨(lo_iload_tl _ _), ?_⟩
  refine List.forall_mem_cons.mpr ⟨lo_none_tl, ?_⟩
  refine List.forall_mem_cons.mpr ⟨(lo_icmp_tl _ _ _), ?_⟩
  refine List.forall_mem_cons.mpr ⟨lo_none_tl, ?_⟩
  refine List.forall_mem_cons.mpr ⟨lo_none_tl, ?_⟩
  refine List.forall_mem_cons.mpr ⟨(lo_aload_tl _ _), ?_⟩
  refine List.forall_mem_cons.mpr ⟨(lo_iload_tl _ _), ?_⟩
  refine List.forall_mem_cons.mpr ⟨lo_none_tl, ?_⟩
  refine List.forall_mem_cons.mpr ⟨(lo_callv_tl _ _ _ _), ?_⟩
  refine List.forall_mem_cons.mpr ⟨lo_none_tl, ?_⟩
  refine List.forall_mem_cons.mpr ⟨lo_none_tl, ?_⟩
  refine List.forall_mem_cons.mpr ⟨(lo_iload_tl _ _), ?_⟩
  refine List.forall_mem_cons.mpr ⟨lo_none_tl, ?_⟩
  refine List.forall_mem_cons.mpr ⟨(lo_icmp_tl _ _ _), ?_⟩
  refine List.forall_mem_cons.mpr ⟨lo_none_tl, ?_⟩
  refine List.forall_mem_cons.mpr ⟨lo_none_tl, ?_⟩
  refine List.forall_mem_cons.mpr ⟨(lo_goto_tl _), ?_⟩
  refine List.forall_mem_cons.mpr ⟨lo_none_tl, ?_⟩
  refine List.forall_mem_cons.mpr ⟨lo_none_tl, ?_⟩
  refine List.forall_mem_cons.mpr ⟨(lo_aload_tl _ _), ?_⟩
  refine List.forall_mem_cons.mpr ⟨(lo_iload_tl _ _), ?_⟩
  refine List.forall_mem_cons.mpr ⟨lo_none_tl, ?_⟩
  refine List.forall_mem_cons.mpr ⟨(lo_callv_tl _ _ _ _), ?_⟩
  refine List.forall_mem_cons.mpr ⟨lo_none_tl, ?_⟩
  refine List.forall_mem_cons.mpr ⟨lo_none_tl, ?_⟩
  refine List.forall_mem_cons.mpr ⟨(lo_iload_tl _ _), ?_⟩
  refine List.forall_mem_cons.mpr ⟨lo_none_tl, ?_⟩
  refine List.forall_mem_cons.mpr ⟨(lo_pushI_tl _ _), ?_⟩
  refine List.forall_mem_cons.mpr ⟨(lo_ii_tl _ _), ?_⟩
  refine List.forall_mem_cons.mpr ⟨(lo_iload_tl _ _), ?_⟩
  refine List.forall_mem_cons.mpr ⟨lo_none_tl, ?_⟩
  refine List.forall_mem_cons.mpr ⟨(lo_pushI_tl _ _), ?_⟩
  refine List.forall_mem_cons.mpr ⟨lo_none_tl, ?_⟩
  refine List.forall_mem_cons.mpr ⟨(lo_iid_tl _ _), ?_⟩
  refine List.forall_mem_cons.mpr ⟨(lo_pushI_tl _ _), ?_⟩
  refine List.forall_mem_cons.mpr ⟨lo_none_tl, ?_⟩
  refine List.forall_mem_cons.mpr ⟨(lo_iid_tl _ _), ?_⟩
  refine List.forall_mem_cons.mpr ⟨(lo_ii_tl _ _), ?_⟩
  refine List.forall_mem_cons.mpr ⟨(lo_iload_tl _ _), ?_⟩
  refine List.forall_mem_cons.mpr ⟨lo_none_tl, ?_⟩
  refine List.forall_mem_cons.mpr ⟨(lo_icmp_tl _ _ _), ?_⟩
  refine List.forall_mem_cons.mpr ⟨lo_none_tl, ?_⟩
  refine List.forall_mem_cons.mpr ⟨lo_none_tl, ?_⟩
  refine List.forall_mem_cons.mpr ⟨(lo_iload_tl _ _), ?_⟩
  refine List.forall_mem_cons.mpr ⟨lo_none_tl, ?_⟩
  refine List.forall_mem_cons.mpr ⟨(lo_pushI_tl _ _), ?_⟩
  refine List.forall_mem_cons.mpr ⟨(lo_ii_tl _ _), ?_⟩
  refine List.forall_mem_cons.mpr ⟨(lo_iload_tl _ _), ?_⟩
  refine List.forall_mem_cons.mpr ⟨lo_none_tl, ?_⟩
  refine List.forall_mem_cons.mpr ⟨(lo_pushI_tl _ _), ?_⟩
  refine List.forall_mem_cons.mpr ⟨lo_none_tl, ?_⟩
  refine List.forall_mem_cons.mpr ⟨(lo_iid_tl _ _), ?_⟩
  refine List.forall_mem_cons.mpr ⟨(lo_pushI_tl _ _), ?_⟩
  refine List.forall_mem_cons.mpr ⟨lo_none_tl, ?_⟩
  refine List.forall_mem_cons.mpr ⟨(lo_iid_tl _ _), ?_⟩
  refine List.forall_mem_cons.mpr ⟨(lo_ii_tl _ _), ?_⟩
  refine List.forall_mem_cons.mpr ⟨(lo_goto_tl _), ?_⟩
  refine List.forall_mem_cons.mpr ⟨lo_none_tl, ?_⟩
  refine List.forall_mem_cons.mpr ⟨lo_none_tl, ?_⟩
  refine List.forall_mem_cons.mpr ⟨(lo_iload_tl _ _), ?_⟩
  refine List.forall_mem_cons.mpr ⟨lo_none_tl, ?_⟩
  refine List.forall_mem_cons.mpr ⟨(lo_icmp_tl _ _ _), ?_⟩
  refine List.forall_mem_cons.mpr ⟨lo_none_tl, ?_⟩
  refine List.forall_mem_cons.mpr ⟨lo_none_tl, ?_⟩
  refine List.forall_mem_cons.mpr ⟨(lo_aload_tl _ _), ?_⟩
  refine List.forall_mem_cons.mpr ⟨(lo_callv_tl _ _ _ _), ?_⟩
  refine List.forall_mem_cons.mpr ⟨lo_none_tl, ?_⟩
  refine List.forall_mem_cons.mpr ⟨lo_none_tl, ?_⟩
  refine List.forall_mem_cons.mpr ⟨(lo_iload_tl _ _), ?_⟩
  refine List.forall_mem_cons.mpr ⟨lo_none_tl, ?_⟩
  refine List.forall_mem_cons.mpr ⟨(lo_icmp_tl _ _ _), ?_⟩
  refine List.forall_mem_cons.mpr ⟨lo_none_tl, ?_⟩
  refine List.forall_mem_cons.mpr ⟨lo_none_tl, ?_⟩
  refine List.forall_mem_cons.mpr ⟨(lo_pushI_tl _ _), ?_⟩
  refine List.forall_mem_cons.mpr ⟨(lo_goto_tl _), ?_⟩
  refine List.forall_mem_cons.mpr ⟨lo_none_tl, ?_⟩
  refine List.forall_mem_cons.mpr ⟨lo_none_tl, ?_⟩
  refine List.forall_mem_cons.mpr ⟨(lo_pushI_tl _ _), ?_⟩
  refine List.forall_mem_cons.mpr ⟨(lo_istore_tl _ _), ?_⟩
  refine List.forall_mem_cons.mpr ⟨lo_none_tl, ?_⟩
  refine List.forall_mem_cons.mpr ⟨(lo_goto_tl _), ?_⟩
  refine List.forall_mem_cons.mpr ⟨lo_none_tl, ?_⟩
  refine List.forall_mem_cons.mpr ⟨lo_none_tl, ?_⟩
  refine List.forall_mem_cons.mpr ⟨(lo_aload_tl _ _), ?_⟩
  refine List.forall_mem_cons.mpr ⟨(lo_iload_tl _ _), ?_⟩
  refine List.forall_mem_cons.mpr ⟨lo_none_tl, ?_⟩
  refine List.forall_mem_cons.mpr ⟨(lo_pushI_tl _ _), ?_⟩
  refine List.forall_mem_cons.mpr ⟨lo_none_tl, ?_⟩
  refine List.forall_mem_cons.mpr ⟨(lo_iid_tl _ _), ?_⟩
  refine List.forall_mem_cons.mpr ⟨(lo_calls_tl _ _ _ _ _), ?_⟩
  refine List.forall_mem_cons.mpr ⟨lo_none_tl, ?_⟩
  refine List.forall_mem_cons.mpr ⟨lo_none_tl, ?_⟩
  refine List.forall_mem_cons.mpr ⟨(lo_istore_tl _ _), ?_⟩
  refine List.forall_mem_cons.mpr ⟨lo_none_tl, ?_⟩
  refine List.forall_mem_cons.mpr ⟨(lo_iload_tl _ _), ?_⟩
  refine List.forall_mem_cons.mpr ⟨lo_none_tl, ?_⟩
  refine List.forall_mem_cons.mpr ⟨(lo_if_tl _ _ _), ?_⟩
  refine List.forall_mem_cons.mpr ⟨lo_none_tl, ?_⟩
  refine List.forall_mem_cons.mpr ⟨lo_none_tl, ?_⟩
  refine List.forall_mem_cons.mpr ⟨(lo_iload_tl _ _), ?_⟩
  refine List.forall_mem_cons.mpr ⟨lo_none_tl, ?_⟩
  refine List.forall_mem_cons.mpr ⟨(lo_pushI_tl _ _), ?_⟩
  refine List.forall_mem_cons.mpr ⟨(lo_iid_tl _ _), ?_⟩
  refine List.forall_mem_cons.mpr ⟨(lo_if_tl _ _ _), ?_⟩
  refine List.forall_mem_cons.mpr ⟨lo_none_tl, ?_⟩
  refine List.forall_mem_cons.mpr ⟨lo_none_tl, ?_⟩
  refine List.forall_mem_cons.mpr ⟨(lo_aload_tl _ _), ?_⟩
  refine List.forall_mem_cons.mpr ⟨(lo_aload_tl _ _), ?_⟩
  refine List.forall_mem_cons.mpr ⟨(lo_calls_tl _ _ _ _ _), ?_⟩
  refine List.forall_mem_cons.mpr ⟨lo_none_tl, ?_⟩
  refine List.forall_mem_cons.mpr ⟨lo_none_tl, ?_⟩
  refine List.forall_mem_cons.mpr ⟨(lo_if_tl _ _ _), ?_⟩
  refine List.forall_mem_cons.mpr ⟨lo_none_tl, ?_⟩
  refine List.forall_mem_cons.mpr ⟨lo_none_tl, ?_⟩
  refine List.forall_mem_cons.mpr ⟨(lo_aload_tl _ _), ?_⟩
  refine List.forall_mem_cons.mpr ⟨(lo_calls_tl _ _ _ _ _), ?_⟩
  refine List.forall_mem_cons.mpr ⟨lo_none_tl, ?_⟩
  refine List.forall_mem_cons.mpr ⟨lo_none_tl, ?_⟩
  refine List.forall_mem_cons.mpr ⟨(lo_if_tl _ _ _), ?_⟩
  refine List.forall_mem_cons.mpr ⟨lo_none_tl, ?_⟩
  refine List.forall_mem_cons.mpr ⟨lo_none_tl, ?_⟩
  refine List.forall_mem_cons.mpr ⟨(lo_iload_tl _ _), ?_⟩
  refine List.forall_mem_cons.mpr ⟨lo_none_tl, ?_⟩
  refine List.forall_mem_cons.mpr ⟨(lo_pushI_tl _ _), ?_⟩
  refine List.forall_mem_cons.mpr ⟨(lo_iid_tl _ _), ?_⟩
  refine List.forall_mem_cons.mpr ⟨(lo_if_tl _ _ _), ?_⟩
  refine List.forall_mem_cons.mpr ⟨lo_none_tl, ?_⟩
  refine List.forall_mem_cons.mpr ⟨lo_none_tl, ?_⟩
  refine List.forall_mem_cons.mpr ⟨(lo_aload_tl _ _), ?_⟩
  refine List.forall_mem_cons.mpr ⟨(lo_calls_tl _ _ _ _ _), ?_⟩
  refine List.forall_mem_cons.mpr ⟨lo_none_tl, ?_⟩
  refine List.forall_mem_cons.mpr ⟨lo_none_tl, ?_⟩
  refine List.forall_mem_cons.mpr ⟨(lo_if_tl _ _ _), ?_⟩
  refine List.forall_mem_cons.mpr ⟨lo_none_tl, ?_⟩
  refine List.forall_mem_cons.mpr ⟨lo_none_tl, ?_⟩
  refine List.forall_mem_cons.mpr ⟨(lo_iload_tl _ _), ?_⟩
  refine List.forall_mem_cons.mpr ⟨lo_none_tl, ?_⟩
  refine List.forall_mem_cons.mpr ⟨(lo_pushI_tl _ _), ?_⟩
  refine List.forall_mem_cons.mpr ⟨lo_none_tl, ?_⟩
  refine List.forall_mem_cons.mpr ⟨(lo_iid_tl _ _), ?_⟩
  refine List.forall_mem_cons.mpr ⟨(lo_if_tl _ _ _), ?_⟩
  refine List.forall_mem_cons.mpr ⟨lo_none_tl, ?_⟩
  refine List.forall_mem_cons.mpr ⟨lo_none_tl, ?_⟩
  refine List.forall_mem_cons.mpr ⟨(lo_aload_tl _ _), ?_⟩
  refine List.forall_mem_cons.mpr ⟨(lo_iload_tl _ _), ?_⟩
  refine List.forall_mem_cons.mpr ⟨lo_none_tl, ?_⟩
  refine List.forall_mem_cons.mpr ⟨(lo_pushI_tl _ _), ?_⟩
  refine List.forall_mem_cons.mpr ⟨(lo_iid_tl _ _), ?_⟩
  refine List.forall_mem_cons.mpr ⟨(lo_calls_tl _ _ _ _ _), ?_⟩
  refine List.forall_mem_cons.mpr ⟨lo_none_tl, ?_⟩
  refine List.forall_mem_cons.mpr ⟨lo_none_tl, ?_⟩
  refine List.forall_mem_cons.mpr ⟨(lo_if_tl _ _ _), ?_⟩
  refine List.forall_mem_cons.mpr ⟨lo_none_tl, ?_⟩
  refine List.forall_mem_cons.mpr ⟨lo_none_tl, ?_⟩
  refine List.forall_mem_cons.mpr ⟨(lo_pushI_tl _ _), ?_⟩
  refine List.forall_mem_cons.mpr ⟨(lo_goto_tl _), ?_⟩
  refine List.forall_mem_cons.mpr ⟨lo_none_tl, ?_⟩
  refine List.forall_mem_cons.mpr ⟨lo_none_tl, ?_⟩
  refine List.forall_mem_cons.mpr ⟨(lo_pushI_tl _ _), ?_⟩
  refine List.forall_mem_cons.mpr ⟨(lo_istore_tl _ _), ?_⟩
  refine List.forall_mem_cons.mpr ⟨lo_none_tl, ?_⟩
  refine List.forall_mem_cons.mpr ⟨(lo_iinc_tl _ _ _), ?_⟩
  refine List.forall_mem_cons.mpr ⟨lo_none_tl, ?_⟩
  refine List.forall_mem_cons.mpr ⟨lo_none_tl, ?_⟩
  refine List.forall_mem_cons.mpr ⟨(lo_goto_tl _), ?_⟩
  refine List.forall_mem_cons.mpr ⟨lo_none_tl, ?_⟩
  refine List.forall_mem_cons.mpr ⟨lo_none_tl, ?_⟩
  refine List.forall_mem_cons.mpr ⟨(lo_iload_tl _ _), ?_⟩
  refine List.forall_mem_cons.mpr ⟨lo_none_tl, ?_⟩
  refine List.forall_mem_cons.mpr ⟨(lo_if_tl _ _ _), ?_⟩
  refine List.forall_mem_cons.mpr ⟨lo_none_tl, ?_⟩
  refine List.forall_mem_cons.mpr ⟨lo_none_tl, ?_⟩
  refine List.forall_mem_cons.mpr ⟨(lo_aload_tl _ _), ?_⟩
  refine List.forall_mem_cons.mpr ⟨(lo_aload_tl _ _), ?_⟩
  refine List.forall_mem_cons.mpr ⟨(lo_calls_tl _ _ _ _ _), ?_⟩
  refine List.forall_mem_cons.mpr ⟨lo_none_tl, ?_⟩
  refine List.forall_mem_cons.mpr ⟨lo_none_tl, ?_⟩
  refine List.forall_mem_cons.mpr ⟨(lo_if_tl _ _ _), ?_⟩
  refine List.forall_mem_cons.mpr ⟨lo_none_tl, ?_⟩
  refine List.forall_mem_cons.mpr ⟨lo_none_tl, ?_⟩
  refine List.forall_mem_cons.mpr ⟨(lo_aload_tl _ _), ?_⟩
  refine List.forall_mem_cons.mpr ⟨(lo_calls_tl _ _ _ _ _), ?_⟩
  refine List.forall_mem_cons.mpr ⟨lo_none_tl, ?_⟩
  refine List.forall_mem_cons.mpr ⟨lo_none_tl, ?_⟩
  refine List.forall_mem_cons.mpr ⟨(lo_if_tl _ _ _), ?_⟩
  refine List.forall_mem_cons.mpr ⟨lo_none_tl, ?_⟩
  refine List.forall_mem_cons.mpr ⟨lo_none_tl, ?_⟩
  refine List.forall_mem_cons.mpr ⟨(lo_aload_tl _ _), ?_⟩
  refine List.forall_mem_cons.mpr ⟨(lo_calls_tl _ _ _ _ _), ?_⟩
  refine List.forall_mem_cons.mpr ⟨lo_none_tl, ?_⟩
  refine List.forall_mem_cons.mpr ⟨lo_none_tl, ?_⟩
  refine List.forall_mem_cons.mpr ⟨(lo_if_tl _ _ _), ?_⟩
  refine List.forall_mem_cons.mpr ⟨lo_none_tl, ?_⟩
  refine List.forall_mem_cons.mpr ⟨lo_none_tl, ?_⟩
  refine List.forall_mem_cons.mpr ⟨(lo_pushI_tl _ _), ?_⟩
  refine List.forall_mem_cons.mpr ⟨(lo_goto_tl _), ?_⟩
  refine List.forall_mem_cons.mpr ⟨lo_none_tl, ?_⟩
  refine List.forall_mem_cons.mpr ⟨lo_none_tl, ?_⟩
  refine List.forall_mem_cons.mpr ⟨(lo_pushI_tl _ _), ?_⟩
  refine List.forall_mem_cons.mpr ⟨(lo_iret_tl _ _), ?_⟩
  exact fun _ h => absurd h List.not_mem_nil
set_option maxRecDepth 100000 in
set_option maxHeartbeats 4000000 in
theorem mm_L_law {l : Launch} {D : va_G} {cA : Nat → ClassId} {ad : Nat → Nat} {Ex : (Nat → Prop) → State → Heap → Prop} {sc : List Int32} (Wd : lzWd l D cA ad Ex sc) {p : Program} {e : Env} {R : Room} {s : State} {m : MethodId} {args : Array Value} {below : List Frame} {meth : Method} {c : Code} {rr : lzRt} (X : lz_Fx p l R s m args meth c cL_law 21 RLw D zzCl cA ad zzSC Ex (some .boolean) 14 556 727906) : lz_All (lz_G p l e R s m args below meth c D zzCl cA ad zzSC 21 727906 rr) 0 (tL_law sc) := by
  unfold tL_law
  refine lz_cons (k' := 1) rfl (lz_Ok_none _ _) ?_
  refine lz_cons (k' := 2) rfl (lz_Ok_none _ _) ?_
  refine lz_cons (k' := 3) rfl (lz_Ok_none _ _) ?_
  refine lz_cons (k' := 4) rfl (lz_Ok_none _ _) ?_
  refine lz_cons (k' := 5) rfl (lz_Ok_none _ _) ?_
  refine lz_cons (k' := 6) rfl (lz_Ok_none _ _) ?_
  refine lz_cons (k' := 7) rfl (lz_Ok_none _ _) ?_
  refine lz_cons (k' := 8) rfl (lz_Ok_none _ _) ?_
  refine lz_cons (k' := 9) rfl (lz_Ok_none _ _) ?_
  refine lz_cons (k' := 10) rfl (lz_Ok_none _ _) ?_
  refine lz_cons (k' := 11) rfl (lz_Ok_none _ _) ?_
  refine lz_cons (k' := 12) rfl (lz_Ok_none _ _) ?_
  refine lz_cons (k' := 13) rfl (lz_Ok_none _ _) ?_
  refine lz_cons (k' := 14) rfl (lz_Ok_none _ _) ?_
  refine lz_cons (k' := 15) rfl (lz_Ok_none _ _) ?_
  refine lz_cons (k' := 16) rfl (lz_Ok_none _ _) ?_
  refine lz_cons (k' := 17) rfl (lz_Ok_none _ _) ?_
  refine lz_cons (k' := 18) rfl (lk_iconst X dL_law_17 (by decide) rfl) ?_
  refine lz_cons (k' := 19) rfl (lk_istore X dL_law_18 (by decide) rfl) ?_
  refine lz_cons (k' := 20) rfl (lz_Ok_none _ _) ?_
  refine lz_cons (k' := 21) rfl (lk_aload_n X dL_law_20 rfl rfl) ?_
  refine lz_cons (k' := 22) rfl (lk_iconst X dL_law_21 (by decide) rfl) ?_
  refine lz_cons (k' := 23) rfl (lk_calls X kl_177 (mm_L_isRefused Wd) (by decide) dL_law_22 rfl) ?_
  refine lz_cons (k' := 24) rfl (lz_Ok_none _ _) ?_
  refine lz_cons (k' := 25) rfl (lz_Ok_none _ _) ?_
  refine lz_cons (k' := 26) rfl (lk_if_eq X dL_law_25 (by decide) rfl) ?_
  refine lz_cons (k' := 27) rfl (lz_Ok_none _ _) ?_
  refine lz_cons (k' := 28) rfl (lz_Ok_none _ _) ?_
  refine lz_cons (k' := 29) rfl (lk_aload_n X dL_law_28 rfl rfl) ?_
  refine lz_cons (k' := 30) rfl (lk_iconst X dL_law_29 (by decide) rfl) ?_
  refine lz_cons (k' := 31) rfl (lk_calls X kl_177 (mm_L_isRefused Wd) (by decide) dL_law_30 rfl) ?_
  refine lz_cons (k' := 32) rfl (lz_Ok_none _ _) ?_
  refine lz_cons (k' := 33) rfl (lz_Ok_none _ _) ?_
  refine lz_cons (k' := 34) rfl (lk_if_eq X dL_law_33 (by decide) rfl) ?_
  refine lz_cons (k' := 35) rfl (lz_Ok_none _ _) ?_
  refine lz_cons (k' := 36) rfl (lz_Ok_none _ _) ?_
  refine lz_cons (k' := 37) rfl (lk_aload_n X dL_law_36 rfl rfl) ?_
  refine lz_cons (k' := 38) rfl (lk_callv X kc_164 (mm_X11_isSettled Wd.1) (by decide) dL_law_37 rfl) ?_
  refine lz_cons (k' := 39) rfl (lz_Ok_none _ _) ?_
  refine lz_cons (k' := 40) rfl (lz_Ok_none _ _) ?_
  refine lz_cons (k' := 41) rfl (lk_if_eq X dL_law_40 (by decide) rfl) ?_
  refine lz_cons (k' := 42) rfl (lz_Ok_none _ _) ?_
  refine lz_cons (k' := 43) rfl (lz_Ok_none _ _) ?_
  refine lz_cons (k' := 44) rfl (lk_iconst X dL_law_43 (by decide) rfl) ?_
  refine lz_cons (k' := 45) rfl (lk_goto X dL_law_44 (by decide)) ?_
  refine lz_cons (k' := 46) rfl (lz_Ok_none _ _) ?_
  refine lz_cons (k' := 47) rfl (lz_Ok_none _ _) ?_
  refine lz_cons (k' := 48) rfl (lk_iconst X dL_law_47 (by decide) rfl) ?_
  refine lz_cons (k' := 49) rfl (lk_istore X dL_law_48 (by decide) rfl) ?_
  refine lz_cons (k' := 50) rfl (lz_Ok_none _ _) ?_
  refine lz_cons (k' := 51) rfl (lk_iconst X dL_law_50 (by decide) rfl) ?_
  refine lz_cons (k' := 52) rfl (lk_istore X dL_law_51 (by decide) rfl) ?_
  refine lz_cons (k' := 53) rfl (lz_Ok_none _ _) ?_
  refine lz_cons (k' := 54) rfl (lk_iload X dL_law_53 rfl) ?_
  refine lz_cons (k' := 55) rfl (lz_Ok_none _ _) ?_
  refine lz_cons (k' := 56) rfl (lk_bipush X dL_law_55 (by decide) rfl) ?_
  refine lz_cons (k' := 57) rfl (lz_Ok_none _ _) ?_
  refine lz_cons (k' := 58) rfl (lk_icmp_ge X dL_law_57 (by decide) rfl) ?_
  refine lz_cons (k' := 59) rfl (lz_Ok_none _ _) ?_
  refine lz_cons (k' := 60) rfl (lz_Ok_none _ _) ?_
  refine lz_cons (k' := 61) rfl (lk_iload X dL_law_60 rfl) ?_
  refine lz_cons (k' := 62) rfl (lz_Ok_none _ _) ?_
  refine lz_cons (k' := 63) rfl (lk_if_eq X dL_law_62 (by decide) rfl) ?_
  refine lz_cons (k' := 64) rfl (lz_Ok_none _ _) ?_
  refine lz_cons (k' := 65) rfl (lz_Ok_none _ _) ?_
  refine lz_cons (k' := 66) rfl (lk_aload_n X dL_law_65 rfl rfl) ?_
  refine lz_cons (k' := 67) rfl (lk_callv X kc_151 (mm_X11_version Wd.1) (by decide) dL_law_66 rfl) ?_
  refine lz_cons (k' := 68) rfl (lz_Ok_none _ _) ?_
  refine lz_cons (k' := 69) rfl (lz_Ok_none _ _) ?_
  refine lz_cons (k' := 70) rfl (lk_sipush X dL_law_69 (by decide) rfl) ?_
  refine lz_cons (k' := 71) rfl (lz_Ok_none _ _) ?_
  refine lz_cons (k' := 72) rfl (lz_Ok_none _ _) ?_
  refine lz_cons (k' := 73) rfl (lk_icmp_ge X dL_law_72 (by decide) rfl) ?_
  refine lz_cons (k' := 74) rfl (lz_Ok_none _ _) ?_
  refine lz_cons (k' := 75) rfl (lz_Ok_none _ _) ?_
  refine lz_cons (k' := 76) rfl (lk_aload_n X dL_law_75 rfl rfl) ?_
  refine lz_cons (k' := 77) rfl (lk_iload X dL_law_76 rfl) ?_
  refine lz_cons (k' := 78) rfl (lz_Ok_none _ _) ?_
  refine lz_cons (k' := 79) rfl (lk_calls X kl_181 (mm_L_dice Wd) (by decide) dL_law_78 rfl) ?_
  refine lz_cons (k' := 80) rfl (lz_Ok_none _ _) ?_
  refine lz_cons (k' := 81) rfl (lz_Ok_none _ _) ?_
  refine lz_cons (k' := 82) rfl (lk_istore X dL_law_81 (by decide) rfl) ?_
  refine lz_cons (k' := 83) rfl (lz_Ok_none _ _) ?_
  refine lz_cons (k' := 84) rfl (lk_iload X dL_law_83 rfl) ?_
  refine lz_cons (k' := 85) rfl (lz_Ok_none _ _) ?_
  refine lz_cons (k' := 86) rfl (lk_bipush X dL_law_85 (by decide) rfl) ?_
  refine lz_cons (k' := 87) rfl (lz_Ok_none _ _) ?_
  refine lz_cons (k' := 88) rfl (lk_idiv X dL_law_87 rfl) ?_
  refine lz_cons (k' := 89) rfl (lk_istore X dL_law_88 (by decide) rfl) ?_
  refine lz_cons (k' := 90) rfl (lz_Ok_none _ _) ?_
  refine lz_cons (k' := 91) rfl (lk_iload X dL_law_90 rfl) ?_
  refine lz_cons (k' := 92) rfl (lz_Ok_none _ _) ?_
  refine lz_cons (k' := 93) rfl (lk_bipush X dL_law_92 (by decide) rfl) ?_
  refine lz_cons (k' := 94) rfl (lz_Ok_none _ _) ?_
  refine lz_cons (k' := 95) rfl (lk_irem X dL_law_94 rfl) ?_
  refine lz_cons (k' := 96) rfl (lk_istore X dL_law_95 (by decide) rfl) ?_
  refine lz_cons (k' := 97) rfl (lz_Ok_none _ _) ?_
  refine lz_cons (k' := 98) rfl (lk_aload_n X dL_law_97 rfl rfl) ?_
  refine lz_cons (k' := 99) rfl (lk_callv X kc_155 (mm_X11_objects Wd.1) (by decide) dL_law_98 rfl) ?_
  refine lz_cons (k' := 100) rfl (lz_Ok_none _ _) ?_
  refine lz_cons (k' := 101) rfl (lz_Ok_none _ _) ?_
  refine lz_cons (k' := 102) rfl (lk_istore X dL_law_101 (by decide) rfl) ?_
  refine lz_cons (k' := 103) rfl (lz_Ok_none _ _) ?_
  refine lz_cons (k' := 104) rfl (lk_iload X dL_law_103 rfl) ?_
  refine lz_cons (k' := 105) rfl (lz_Ok_none _ _) ?_
  refine lz_cons (k' := 106) rfl (lk_if_ne X dL_law_105 (by decide) rfl) ?_
  refine lz_cons (k' := 107) rfl (lz_Ok_none _ _) ?_
  refine lz_cons (k' := 108) rfl (lz_Ok_none _ _) ?_
  refine lz_cons (k' := 109) rfl (lk_iconst X dL_law_108 (by decide) rfl) ?_
  refine lz_cons (k' := 110) rfl (lk_goto X dL_law_109 (by decide)) ?_
  refine lz_cons (k' := 111) rfl (lz_Ok_none _ _) ?_
  refine lz_cons (k' := 112) rfl (lz_Ok_none _ _) ?_
  refine lz_cons (k' := 113) rfl (lk_iload X dL_law_112 rfl) ?_
  refine lz_cons (k' := 114) rfl (lz_Ok_none _ _) ?_
  refine lz_cons (k' := 115) rfl (lk_iload X dL_law_114 rfl) ?_
  refine lz_cons (k' := 116) rfl (lz_Ok_none _ _) ?_
  refine lz_cons (k' := 117) rfl (lk_irem X dL_law_116 rfl) ?_
  refine lz_cons (k' := 118) rfl (lk_istore X dL_law_117 (by decide) rfl) ?_
  refine lz_cons (k' := 119) rfl (lz_Ok_none _ _) ?_
  refine lz_cons (k' := 120) rfl (lk_iload X dL_law_119 rfl) ?_
  refine lz_cons (k' := 121) rfl (lz_Ok_none _ _) ?_
  refine lz_cons (k' := 122) rfl (lk_if_ne X dL_law_121 (by decide) rfl) ?_
  refine lz_cons (k' := 123) rfl (lz_Ok_none _ _) ?_
  refine lz_cons (k' := 124) rfl (lz_Ok_none _ _) ?_
  refine lz_cons (k' := 125) rfl (lk_iconst X dL_law_124 (by decide) rfl) ?_
  refine lz_cons (k' := 126) rfl (lk_goto X dL_law_125 (by decide)) ?_
  refine lz_cons (k' := 127) rfl (lz_Ok_none _ _) ?_
  refine lz_cons (k' := 128) rfl (lz_Ok_none _ _) ?_
  refine lz_cons (k' := 129) rfl (lk_aload_n X dL_law_128 rfl rfl) ?_
  refine lz_cons (k' := 130) rfl (lk_iload X dL_law_129 rfl) ?_
  refine lz_cons (k' := 131) rfl (lz_Ok_none _ _) ?_
  refine lz_cons (k' := 132) rfl (lk_callv X kc_83 (mm_X11_kindOf Wd.1) (by decide) dL_law_131 rfl) ?_
  refine lz_cons (k' := 133) rfl (lz_Ok_none _ _) ?_
  refine lz_cons (k' := 134) rfl (lz_Ok_none _ _) ?_
  refine lz_cons (k' := 135) rfl (lk_istore X dL_law_134 (by decide) rfl) ?_
  refine lz_cons (k' := 136) rfl (lz_Ok_none _ _) ?_
  refine lz_cons (k' := 137) rfl (lk_aload_n X dL_law_136 rfl rfl) ?_
  refine lz_cons (k' := 138) rfl (lk_callv X kc_151 (mm_X11_version Wd.1) (by decide) dL_law_137 rfl) ?_
  refine lz_cons (k' := 139) rfl (lz_Ok_none _ _) ?_
  refine lz_cons (k' := 140) rfl (lz_Ok_none _ _) ?_
  refine lz_cons (k' := 141) rfl (lk_istore X dL_law_140 (by decide) rfl) ?_
  refine lz_cons (k' := 142) rfl (lz_Ok_none _ _) ?_
  refine lz_cons (k' := 143) rfl (lk_iload X dL_law_142 rfl) ?_
  refine lz_cons (k' := 144) rfl (lz_Ok_none _ _) ?_
  refine lz_cons (k' := 145) rfl (lk_iconst X dL_law_144 (by decide) rfl) ?_
  refine lz_cons (k' := 146) rfl (lk_icmp_lt X dL_law_145 (by decide) rfl) ?_
  refine lz_cons (k' := 147) rfl (lz_Ok_none _ _) ?_
  refine lz_cons (k' := 148) rfl (lz_Ok_none _ _) ?_
  refine lz_cons (k' := 149) rfl (lk_iload X dL_law_148 rfl) ?_
  refine lz_cons (k' := 150) rfl (lz_Ok_none _ _) ?_
  refine lz_cons (k' := 151) rfl (lk_iconst X dL_law_150 (by decide) rfl) ?_
  refine lz_cons (k' := 152) rfl (lk_icmp_ge X dL_law_151 (by decide) rfl) ?_
  refine lz_cons (k' := 153) rfl (lz_Ok_none _ _) ?_
  refine lz_cons (k' := 154) rfl (lz_Ok_none _ _) ?_
  refine lz_cons (k' := 155) rfl (lk_iload X dL_law_154 rfl) ?_
  refine lz_cons (k' := 156) rfl (lz_Ok_none _ _) ?_
  refine lz_cons (k' := 157) rfl (lk_bipush X dL_law_156 (by decide) rfl) ?_
  refine lz_cons (k' := 158) rfl (lz_Ok_none _ _) ?_
  refine lz_cons (k' := 159) rfl (lk_icmp_ge X dL_law_158 (by decide) rfl) ?_
  refine lz_cons (k' := 160) rfl (lz_Ok_none _ _) ?_
  refine lz_cons (k' := 161) rfl (lz_Ok_none _ _) ?_
  refine lz_cons (k' := 162) rfl (lk_iload X dL_law_161 rfl) ?_
  refine lz_cons (k' := 163) rfl (lz_Ok_none _ _) ?_
  refine lz_cons (k' := 164) rfl (lk_iconst X dL_law_163 (by decide) rfl) ?_
  refine lz_cons (k' := 165) rfl (lk_icmp_ge X dL_law_164 (by decide) rfl) ?_
  refine lz_cons (k' := 166) rfl (lz_Ok_none _ _) ?_
  refine lz_cons (k' := 167) rfl (lz_Ok_none _ _) ?_
  refine lz_cons (k' := 168) rfl (lk_iconst X dL_law_167 (by decide) rfl) ?_
  refine lz_cons (k' := 169) rfl (lk_iconst X dL_law_168 (by decide) rfl) ?_
  refine lz_cons (k' := 170) rfl (lk_iload X dL_law_169 rfl) ?_
  refine lz_cons (k' := 171) rfl (lz_Ok_none _ _) ?_
  refine lz_cons (k' := 172) rfl (lk_iconst X dL_law_171 (by decide) rfl) ?_
  refine lz_cons (k' := 173) rfl (lk_irem X dL_law_172 rfl) ?_
  refine lz_cons (k' := 174) rfl (lk_isub X dL_law_173 rfl) ?_
  refine lz_cons (k' := 175) rfl (lk_imul X dL_law_174 rfl) ?_
  refine lz_cons (k' := 176) rfl (lk_goto X dL_law_175 (by decide)) ?_
  refine lz_cons (k' := 177) rfl (lz_Ok_none _ _) ?_
  refine lz_cons (k' := 178) rfl (lz_Ok_none _ _) ?_
  refine lz_cons (k' := 179) rfl (lk_iload X dL_law_178 rfl) ?_
  refine lz_cons (k' := 180) rfl (lz_Ok_none _ _) ?_
  refine lz_cons (k' := 181) rfl (lk_bipush X dL_law_180 (by decide) rfl) ?_
  refine lz_cons (k' := 182) rfl (lz_Ok_none _ _) ?_
  refine lz_cons (k' := 183) rfl (lk_irem X dL_law_182 rfl) ?_
  refine lz_cons (k' := 184) rfl (lk_iconst X dL_law_183 (by decide) rfl) ?_
  refine lz_cons (k' := 185) rfl (lk_icmp_ne X dL_law_184 (by decide) rfl) ?_
  refine lz_cons (k' := 186) rfl (lz_Ok_none _ _) ?_
  refine lz_cons (k' := 187) rfl (lz_Ok_none _ _) ?_
  refine lz_cons (k' := 188) rfl (lk_iconst X dL_law_187 (by decide) rfl) ?_
  refine lz_cons (k' := 189) rfl (lk_goto X dL_law_188 (by decide)) ?_
  refine lz_cons (k' := 190) rfl (lz_Ok_none _ _) ?_
  refine lz_cons (k' := 191) rfl (lz_Ok_none _ _) ?_
  refine lz_cons (k' := 192) rfl (lk_iload X dL_law_191 rfl) ?_
  refine lz_cons (k' := 193) rfl (lz_Ok_none _ _) ?_
  refine lz_cons (k' := 194) rfl (lk_bipush X dL_law_193 (by decide) rfl) ?_
  refine lz_cons (k' := 195) rfl (lz_Ok_none _ _) ?_
  refine lz_cons (k' := 196) rfl (lk_irem X dL_law_195 rfl) ?_
  refine lz_cons (k' := 197) rfl (lk_istore X dL_law_196 (by decide) rfl) ?_
  refine lz_cons (k' := 198) rfl (lz_Ok_none _ _) ?_
  refine lz_cons (k' := 199) rfl (lk_aload_n X dL_law_198 rfl rfl) ?_
  refine lz_cons (k' := 200) rfl (lk_iconst X dL_law_199 (by decide) rfl) ?_
  refine lz_cons (k' := 201) rfl (lk_iload X dL_law_200 rfl) ?_
  refine lz_cons (k' := 202) rfl (lz_Ok_none _ _) ?_
  refine lz_cons (k' := 203) rfl (lk_bipush X dL_law_202 (by decide) rfl) ?_
  refine lz_cons (k' := 204) rfl (lz_Ok_none _ _) ?_
  refine lz_cons (k' := 205) rfl (lk_idiv X dL_law_204 rfl) ?_
  refine lz_cons (k' := 206) rfl (lk_iconst X dL_law_205 (by decide) rfl) ?_
  refine lz_cons (k' := 207) rfl (lk_irem X dL_law_206 rfl) ?_
  refine lz_cons (k' := 208) rfl (lk_iload X dL_law_207 rfl) ?_
  refine lz_cons (k' := 209) rfl (lz_Ok_none _ _) ?_
  refine lz_cons (k' := 210) rfl (lk_iconst X dL_law_209 (by decide) rfl) ?_
  refine lz_cons (k' := 211) rfl (lk_iconst X dL_law_210 (by decide) rfl) ?_
  refine lz_cons (k' := 212) rfl (lk_iconst X dL_law_211 (by decide) rfl) ?_
  refine lz_cons (k' := 213) rfl (lk_iconst X dL_law_212 (by decide) rfl) ?_
  refine lz_cons (k' := 214) rfl (lk_calls X kl_168 (mm_L_act Wd) (by decide) dL_law_213 rfl) ?_
  refine lz_cons (k' := 215) rfl (lz_Ok_none _ _) ?_
  refine lz_cons (k' := 216) rfl (lz_Ok_none _ _) ?_
  refine lz_cons (k' := 217) rfl (lk_istore X dL_law_216 (by decide) rfl) ?_
  refine lz_cons (k' := 218) rfl (lz_Ok_none _ _) ?_
  refine lz_cons (k' := 219) rfl (lk_iload X dL_law_218 rfl) ?_
  refine lz_cons (k' := 220) rfl (lz_Ok_none _ _) ?_
  refine lz_cons (k' := 221) rfl (lk_sipush X dL_law_220 (by decide) rfl) ?_
  refine lz_cons (k' := 222) rfl (lz_Ok_none _ _) ?_
  refine lz_cons (k' := 223) rfl (lz_Ok_none _ _) ?_
  refine lz_cons (k' := 224) rfl (lk_icmp_ne X dL_law_223 (by decide) rfl) ?_
  refine lz_cons (k' := 225) rfl (lz_Ok_none _ _) ?_
  refine lz_cons (k' := 226) rfl (lz_Ok_none _ _) ?_
  refine lz_cons (k' := 227) rfl (lk_iload X dL_law_226 rfl) ?_
  refine lz_cons (k' := 228) rfl (lz_Ok_none _ _) ?_
  refine lz_cons (k' := 229) rfl (lk_iconst X dL_law_228 (by decide) rfl) ?_
  refine lz_cons (k' := 230) rfl (lk_icmp_ne X dL_law_229 (by decide) rfl) ?_
  refine lz_cons (k' := 231) rfl (lz_Ok_none _ _) ?_
  refine lz_cons (k' := 232) rfl (lz_Ok_none _ _) ?_
  refine lz_cons (k' := 233) rfl (lk_iconst X dL_law_232 (by decide) rfl) ?_
  refine lz_cons (k' := 234) rfl (lk_goto X dL_law_233 (by decide)) ?_
  refine lz_cons (k' := 235) rfl (lz_Ok_none _ _) ?_
  refine lz_cons (k' := 236) rfl (lz_Ok_none _ _) ?_
  refine lz_cons (k' := 237) rfl (lk_iconst X dL_law_236 (by decide) rfl) ?_
  refine lz_cons (k' := 238) rfl (lk_goto X dL_law_237 (by decide)) ?_
  refine lz_cons (k' := 239) rfl (lz_Ok_none _ _) ?_
  refine lz_cons (k' := 240) rfl (lz_Ok_none _ _) ?_
  refine lz_cons (k' := 241) rfl (lk_iload X dL_law_240 rfl) ?_
  refine lz_cons (k' := 242) rfl (lz_Ok_none _ _) ?_
  refine lz_cons (k' := 243) rfl (lk_iload X dL_law_242 rfl) ?_
  refine lz_cons (k' := 244) rfl (lz_Ok_none _ _) ?_
  refine lz_cons (k' := 245) rfl (lk_icmp_ne X dL_law_244 (by decide) rfl) ?_
  refine lz_cons (k' := 246) rfl (lz_Ok_none _ _) ?_
  refine lz_cons (k' := 247) rfl (lz_Ok_none _ _) ?_
  refine lz_cons (k' := 248) rfl (lk_aload_n X dL_law_247 rfl rfl) ?_
  refine lz_cons (k' := 249) rfl (lk_iload X dL_law_248 rfl) ?_
  refine lz_cons (k' := 250) rfl (lz_Ok_none _ _) ?_
  refine lz_cons (k' := 251) rfl (lk_callv X kc_83 (mm_X11_kindOf Wd.1) (by decide) dL_law_250 rfl) ?_
  refine lz_cons (k' := 252) rfl (lz_Ok_none _ _) ?_
  refine lz_cons (k' := 253) rfl (lz_Ok_none _ _) ?_
  refine lz_cons (k' := 254) rfl (lk_iload X dL_law_253 rfl) ?_
  refine lz_cons (k' := 255) rfl (lz_Ok_none _ _) ?_
  refine lz_cons (k' := 256) rfl (lk_icmp_ne X dL_law_255 (by decide) rfl) ?_
  refine lz_cons (k' := 257) rfl (lz_Ok_none _ _) ?_
  refine lz_cons (k' := 258) rfl (lz_Ok_none _ _) ?_
  refine lz_cons (k' := 259) rfl (lk_aload_n X dL_law_258 rfl rfl) ?_
  refine lz_cons (k' := 260) rfl (lk_callv X kc_151 (mm_X11_version Wd.1) (by decide) dL_law_259 rfl) ?_
  refine lz_cons (k' := 261) rfl (lz_Ok_none _ _) ?_
  refine lz_cons (k' := 262) rfl (lz_Ok_none _ _) ?_
  refine lz_cons (k' := 263) rfl (lk_iload X dL_law_262 rfl) ?_
  refine lz_cons (k' := 264) rfl (lz_Ok_none _ _) ?_
  refine lz_cons (k' := 265) rfl (lk_iconst X dL_law_264 (by decide) rfl) ?_
  refine lz_cons (k' := 266) rfl (lk_iadd X dL_law_265 rfl) ?_
  refine lz_cons (k' := 267) rfl (lk_icmp_ne X dL_law_266 (by decide) rfl) ?_
  refine lz_cons (k' := 268) rfl (lz_Ok_none _ _) ?_
  refine lz_cons (k' := 269) rfl (lz_Ok_none _ _) ?_
  refine lz_cons (k' := 270) rfl (lk_aload_n X dL_law_269 rfl rfl) ?_
  refine lz_cons (k' := 271) rfl (lk_iload X dL_law_270 rfl) ?_
  refine lz_cons (k' := 272) rfl (lz_Ok_none _ _) ?_
  refine lz_cons (k' := 273) rfl (lk_callv X kc_98 (mm_X11_goingOf Wd.1) (by decide) dL_law_272 rfl) ?_
  refine lz_cons (k' := 274) rfl (lz_Ok_none _ _) ?_
  refine lz_cons (k' := 275) rfl (lz_Ok_none _ _) ?_
  refine lz_cons (k' := 276) rfl (lk_if_ne X dL_law_275 (by decide) rfl) ?_
  refine lz_cons (k' := 277) rfl (lz_Ok_none _ _) ?_
  refine lz_cons (k' := 278) rfl (lz_Ok_none _ _) ?_
  refine lz_cons (k' := 279) rfl (lk_aload_n X dL_law_278 rfl rfl) ?_
  refine lz_cons (k' := 280) rfl (lk_iload X dL_law_279 rfl) ?_
  refine lz_cons (k' := 281) rfl (lz_Ok_none _ _) ?_
  refine lz_cons (k' := 282) rfl (lk_callv X kc_101 (mm_X11_ownerOf Wd.1) (by decide) dL_law_281 rfl) ?_
  refine lz_cons (k' := 283) rfl (lz_Ok_none _ _) ?_
  refine lz_cons (k' := 284) rfl (lz_Ok_none _ _) ?_
  refine lz_cons (k' := 285) rfl (lk_iconst X dL_law_284 (by decide) rfl) ?_
  refine lz_cons (k' := 286) rfl (lk_icmp_ne X dL_law_285 (by decide) rfl) ?_
  refine lz_cons (k' := 287) rfl (lz_Ok_none _ _) ?_
  refine lz_cons (k' := 288) rfl (lz_Ok_none _ _) ?_
  refine lz_cons (k' := 289) rfl (lk_iconst X dL_law_288 (by decide) rfl) ?_
  refine lz_cons (k' := 290) rfl (lk_goto X dL_law_289 (by decide)) ?_
  refine lz_cons (k' := 291) rfl (lz_Ok_none _ _) ?_
  refine lz_cons (k' := 292) rfl (lz_Ok_none _ _) ?_
  refine lz_cons (k' := 293) rfl (lk_iconst X dL_law_292 (by decide) rfl) ?_
  refine lz_cons (k' := 294) rfl (lk_istore X dL_law_293 (by decide) rfl) ?_
  refine lz_cons (k' := 295) rfl (lz_Ok_none _ _) ?_
  refine lz_cons (k' := 296) rfl (lk_goto X dL_law_295 (by decide)) ?_
  refine lz_cons (k' := 297) rfl (lz_Ok_none _ _) ?_
  refine lz_cons (k' := 298) rfl (lz_Ok_none _ _) ?_
  refine lz_cons (k' := 299) rfl (lk_iload X dL_law_298 rfl) ?_
  refine lz_cons (k' := 300) rfl (lz_Ok_none _ _) ?_
  refine lz_cons (k' := 301) rfl (lk_bipush X dL_law_300 (by decide) rfl) ?_
  refine lz_cons (k' := 302) rfl (lz_Ok_none _ _) ?_
  refine lz_cons (k' := 303) rfl (lk_icmp_ge X dL_law_302 (by decide) rfl) ?_
  refine lz_cons (k' := 304) rfl (lz_Ok_none _ _) ?_
  refine lz_cons (k' := 305) rfl (lz_Ok_none _ _) ?_
  refine lz_cons (k' := 306) rfl (lk_iload X dL_law_305 rfl) ?_
  refine lz_cons (k' := 307) rfl (lz_Ok_none _ _) ?_
  refine lz_cons (k' := 308) rfl (lk_if_ne X dL_law_307 (by decide) rfl) ?_
  refine lz_cons (k' := 309) rfl (lz_Ok_none _ _) ?_
  refine lz_cons (k' := 310) rfl (lz_Ok_none _ _) ?_
  refine lz_cons (k' := 311) rfl (lk_iload X dL_law_310 rfl) ?_
  refine lz_cons (k' := 312) rfl (lz_Ok_none _ _) ?_
  refine lz_cons (k' := 313) rfl (lk_bipush X dL_law_312 (by decide) rfl) ?_
  refine lz_cons (k' := 314) rfl (lz_Ok_none _ _) ?_
  refine lz_cons (k' := 315) rfl (lk_idiv X dL_law_314 rfl) ?_
  refine lz_cons (k' := 316) rfl (lk_bipush X dL_law_315 (by decide) rfl) ?_
  refine lz_cons (k' := 317) rfl (lz_Ok_none _ _) ?_
  refine lz_cons (k' := 318) rfl (lk_irem X dL_law_317 rfl) ?_
  refine lz_cons (k' := 319) rfl (lk_goto X dL_law_318 (by decide)) ?_
  refine lz_cons (k' := 320) rfl (lz_Ok_none _ _) ?_
  refine lz_cons (k' := 321) rfl (lz_Ok_none _ _) ?_
  refine lz_cons (k' := 322) rfl (lk_iload X dL_law_321 rfl) ?_
  refine lz_cons (k' := 323) rfl (lz_Ok_none _ _) ?_
  refine lz_cons (k' := 324) rfl (lk_iconst X dL_law_323 (by decide) rfl) ?_
  refine lz_cons (k' := 325) rfl (lk_icmp_ne X dL_law_324 (by decide) rfl) ?_
  refine lz_cons (k' := 326) rfl (lz_Ok_none _ _) ?_
  refine lz_cons (k' := 327) rfl (lz_Ok_none _ _) ?_
  refine lz_cons (k' := 328) rfl (lk_bipush X dL_law_327 (by decide) rfl) ?_
  refine lz_cons (k' := 329) rfl (lz_Ok_none _ _) ?_
  refine lz_cons (k' := 330) rfl (lk_iload X dL_law_329 rfl) ?_
  refine lz_cons (k' := 331) rfl (lz_Ok_none _ _) ?_
  refine lz_cons (k' := 332) rfl (lk_bipush X dL_law_331 (by decide) rfl) ?_
  refine lz_cons (k' := 333) rfl (lz_Ok_none _ _) ?_
  refine lz_cons (k' := 334) rfl (lk_idiv X dL_law_333 rfl) ?_
  refine lz_cons (k' := 335) rfl (lk_iconst X dL_law_334 (by decide) rfl) ?_
  refine lz_cons (k' := 336) rfl (lk_irem X dL_law_335 rfl) ?_
  refine lz_cons (k' := 337) rfl (lk_iadd X dL_law_336 rfl) ?_
  refine lz_cons (k' := 338) rfl (lk_goto X dL_law_337 (by decide)) ?_
  refine lz_cons (k' := 339) rfl (lz_Ok_none _ _) ?_
  refine lz_cons (k' := 340) rfl (lz_Ok_none _ _) ?_
  refine lz_cons (k' := 341) rfl (lk_iload X dL_law_340 rfl) ?_
  refine lz_cons (k' := 342) rfl (lz_Ok_none _ _) ?_
  refine lz_cons (k' := 343) rfl (lk_iconst X dL_law_342 (by decide) rfl) ?_
  refine lz_cons (k' := 344) rfl (lk_icmp_ne X dL_law_343 (by decide) rfl) ?_
  refine lz_cons (k' := 345) rfl (lz_Ok_none _ _) ?_
  refine lz_cons (k' := 346) rfl (lz_Ok_none _ _) ?_
  refine lz_cons (k' := 347) rfl (lk_iload X dL_law_346 rfl) ?_
  refine lz_cons (k' := 348) rfl (lz_Ok_none _ _) ?_
  refine lz_cons (k' := 349) rfl (lk_bipush X dL_law_348 (by decide) rfl) ?_
  refine lz_cons (k' := 350) rfl (lz_Ok_none _ _) ?_
  refine lz_cons (k' := 351) rfl (lk_idiv X dL_law_350 rfl) ?_
  refine lz_cons (k' := 352) rfl (lk_iconst X dL_law_351 (by decide) rfl) ?_
  refine lz_cons (k' := 353) rfl (lk_irem X dL_law_352 rfl) ?_
  refine lz_cons (k' := 354) rfl (lk_iconst X dL_law_353 (by decide) rfl) ?_
  refine lz_cons (k' := 355) rfl (lk_icmp_ne X dL_law_354 (by decide) rfl) ?_
  refine lz_cons (k' := 356) rfl (lz_Ok_none _ _) ?_
  refine lz_cons (k' := 357) rfl (lz_Ok_none _ _) ?_
  refine lz_cons (k' := 358) rfl (lk_bipush X dL_law_357 (by decide) rfl) ?_
  refine lz_cons (k' := 359) rfl (lz_Ok_none _ _) ?_
  refine lz_cons (k' := 360) rfl (lk_goto X dL_law_359 (by decide)) ?_
  refine lz_cons (k' := 361) rfl (lz_Ok_none _ _) ?_
  refine lz_cons (k' := 362) rfl (lz_Ok_none _ _) ?_
  refine lz_cons (k' := 363) rfl (lk_iload X dL_law_362 rfl) ?_
  refine lz_cons (k' := 364) rfl (lz_Ok_none _ _) ?_
  refine lz_cons (k' := 365) rfl (lk_iconst X dL_law_364 (by decide) rfl) ?_
  refine lz_cons (k' := 366) rfl (lk_icmp_eq X dL_law_365 (by decide) rfl) ?_
  refine lz_cons (k' := 367) rfl (lz_Ok_none _ _) ?_
  refine lz_cons (k' := 368) rfl (lz_Ok_none _ _) ?_
  refine lz_cons (k' := 369) rfl (lk_iload X dL_law_368 rfl) ?_
  refine lz_cons (k' := 370) rfl (lz_Ok_none _ _) ?_
  refine lz_cons (k' := 371) rfl (lk_iconst X dL_law_370 (by decide) rfl) ?_
  refine lz_cons (k' := 372) rfl (lk_icmp_ne X dL_law_371 (by decide) rfl) ?_
  refine lz_cons (k' := 373) rfl (lz_Ok_none _ _) ?_
  refine lz_cons (k' := 374) rfl (lz_Ok_none _ _) ?_
  refine lz_cons (k' := 375) rfl (lk_iload X dL_law_374 rfl) ?_
  refine lz_cons (k' := 376) rfl (lz_Ok_none _ _) ?_
  refine lz_cons (k' := 377) rfl (lk_bipush X dL_law_376 (by decide) rfl) ?_
  refine lz_cons (k' := 378) rfl (lz_Ok_none _ _) ?_
  refine lz_cons (k' := 379) rfl (lk_idiv X dL_law_378 rfl) ?_
  refine lz_cons (k' := 380) rfl (lk_iconst X dL_law_379 (by decide) rfl) ?_
  refine lz_cons (k' := 381) rfl (lk_irem X dL_law_380 rfl) ?_
  refine lz_cons (k' := 382) rfl (lk_goto X dL_law_381 (by decide)) ?_
  refine lz_cons (k' := 383) rfl (lz_Ok_none _ _) ?_
  refine lz_cons (k' := 384) rfl (lz_Ok_none _ _) ?_
  refine lz_cons (k' := 385) rfl (lk_iconst X dL_law_384 (by decide) rfl) ?_
  refine lz_cons (k' := 386) rfl (lk_istore X dL_law_385 (by decide) rfl) ?_
  refine lz_cons (k' := 387) rfl (lz_Ok_none _ _) ?_
  refine lz_cons (k' := 388) rfl (lk_iload X dL_law_387 rfl) ?_
  refine lz_cons (k' := 389) rfl (lz_Ok_none _ _) ?_
  refine lz_cons (k' := 390) rfl (lk_bipush X dL_law_389 (by decide) rfl) ?_
  refine lz_cons (k' := 391) rfl (lz_Ok_none _ _) ?_
  refine lz_cons (k' := 392) rfl (lk_icmp_ne X dL_law_391 (by decide) rfl) ?_
  refine lz_cons (k' := 393) rfl (lz_Ok_none _ _) ?_
  refine lz_cons (k' := 394) rfl (lz_Ok_none _ _) ?_
  refine lz_cons (k' := 395) rfl (lk_iload X dL_law_394 rfl) ?_
  refine lz_cons (k' := 396) rfl (lz_Ok_none _ _) ?_
  refine lz_cons (k' := 397) rfl (lk_sipush X dL_law_396 (by decide) rfl) ?_
  refine lz_cons (k' := 398) rfl (lz_Ok_none _ _) ?_
  refine lz_cons (k' := 399) rfl (lz_Ok_none _ _) ?_
  refine lz_cons (k' := 400) rfl (lk_idiv X dL_law_399 rfl) ?_
  refine lz_cons (k' := 401) rfl (lk_bipush X dL_law_400 (by decide) rfl) ?_
  refine lz_cons (k' := 402) rfl (lz_Ok_none _ _) ?_
  refine lz_cons (k' := 403) rfl (lk_irem X dL_law_402 rfl) ?_
  refine lz_cons (k' := 404) rfl (lk_goto X dL_law_403 (by decide)) ?_
  refine lz_cons (k' := 405) rfl (lz_Ok_none _ _) ?_
  refine lz_cons (k' := 406) rfl (lz_Ok_none _ _) ?_
  refine lz_cons (k' := 407) rfl (lk_iload X dL_law_406 rfl) ?_
  refine lz_cons (k' := 408) rfl (lz_Ok_none _ _) ?_
  refine lz_cons (k' := 409) rfl (lk_iconst X dL_law_408 (by decide) rfl) ?_
  refine lz_cons (k' := 410) rfl (lk_icmp_eq X dL_law_409 (by decide) rfl) ?_
  refine lz_cons (k' := 411) rfl (lz_Ok_none _ _) ?_
  refine lz_cons (k' := 412) rfl (lz_Ok_none _ _) ?_
  refine lz_cons (k' := 413) rfl (lk_iload X dL_law_412 rfl) ?_
  refine lz_cons (k' := 414) rfl (lz_Ok_none _ _) ?_
  refine lz_cons (k' := 415) rfl (lk_bipush X dL_law_414 (by decide) rfl) ?_
  refine lz_cons (k' := 416) rfl (lz_Ok_none _ _) ?_
  refine lz_cons (k' := 417) rfl (lk_icmp_ne X dL_law_416 (by decide) rfl) ?_
  refine lz_cons (k' := 418) rfl (lz_Ok_none _ _) ?_
  refine lz_cons (k' := 419) rfl (lz_Ok_none _ _) ?_
  refine lz_cons (k' := 420) rfl (lk_iload X dL_law_419 rfl) ?_
  refine lz_cons (k' := 421) rfl (lz_Ok_none _ _) ?_
  refine lz_cons (k' := 422) rfl (lk_sipush X dL_law_421 (by decide) rfl) ?_
  refine lz_cons (k' := 423) rfl (lz_Ok_none _ _) ?_
  refine lz_cons (k' := 424) rfl (lz_Ok_none _ _) ?_
  refine lz_cons (k' := 425) rfl (lk_idiv X dL_law_424 rfl) ?_
  refine lz_cons (k' := 426) rfl (lk_bipush X dL_law_425 (by decide) rfl) ?_
  refine lz_cons (k' := 427) rfl (lz_Ok_none _ _) ?_
  refine lz_cons (k' := 428) rfl (lk_irem X dL_law_427 rfl) ?_
  refine lz_cons (k' := 429) rfl (lk_iconst X dL_law_428 (by decide) rfl) ?_
  refine lz_cons (k' := 430) rfl (lk_idiv X dL_law_429 rfl) ?_
  refine lz_cons (k' := 431) rfl (lk_goto X dL_law_430 (by decide)) ?_
  refine lz_cons (k' := 432) rfl (lz_Ok_none _ _) ?_
  refine lz_cons (k' := 433) rfl (lz_Ok_none _ _) ?_
  refine lz_cons (k' := 434) rfl (lk_iload X dL_law_433 rfl) ?_
  refine lz_cons (k' := 435) rfl (lz_Ok_none _ _) ?_
  refine lz_cons (k' := 436) rfl (lk_iconst X dL_law_435 (by decide) rfl) ?_
  refine lz_cons (k' := 437) rfl (lk_icmp_eq X dL_law_436 (by decide) rfl) ?_
  refine lz_cons (k' := 438) rfl (lz_Ok_none _ _) ?_
  refine lz_cons (k' := 439) rfl (lz_Ok_none _ _) ?_
  refine lz_cons (k' := 440) rfl (lk_iload X dL_law_439 rfl) ?_
  refine lz_cons (k' := 441) rfl (lz_Ok_none _ _) ?_
  refine lz_cons (k' := 442) rfl (lk_iconst X dL_law_441 (by decide) rfl) ?_
  refine lz_cons (k' := 443) rfl (lk_icmp_eq X dL_law_442 (by decide) rfl) ?_
  refine lz_cons (k' := 444) rfl (lz_Ok_none _ _) ?_
  refine lz_cons (k' := 445) rfl (lz_Ok_none _ _) ?_
  refine lz_cons (k' := 446) rfl (lk_iload X dL_law_445 rfl) ?_
  refine lz_cons (k' := 447) rfl (lz_Ok_none _ _) ?_
  refine lz_cons (k' := 448) rfl (lk_bipush X dL_law_447 (by decide) rfl) ?_
  refine lz_cons (k' := 449) rfl (lz_Ok_none _ _) ?_
  refine lz_cons (k' := 450) rfl (lk_icmp_ne X dL_law_449 (by decide) rfl) ?_
  refine lz_cons (k' := 451) rfl (lz_Ok_none _ _) ?_
  refine lz_cons (k' := 452) rfl (lz_Ok_none _ _) ?_
  refine lz_cons (k' := 453) rfl (lk_iload X dL_law_452 rfl) ?_
  refine lz_cons (k' := 454) rfl (lz_Ok_none _ _) ?_
  refine lz_cons (k' := 455) rfl (lk_sipush X dL_law_454 (by decide) rfl) ?_
  refine lz_cons (k' := 456) rfl (lz_Ok_none _ _) ?_
  refine lz_cons (k' := 457) rfl (lz_Ok_none _ _) ?_
  refine lz_cons (k' := 458) rfl (lk_idiv X dL_law_457 rfl) ?_
  refine lz_cons (k' := 459) rfl (lk_iconst X dL_law_458 (by decide) rfl) ?_
  refine lz_cons (k' := 460) rfl (lk_irem X dL_law_459 rfl) ?_
  refine lz_cons (k' := 461) rfl (lk_goto X dL_law_460 (by decide)) ?_
  refine lz_cons (k' := 462) rfl (lz_Ok_none _ _) ?_
  refine lz_cons (k' := 463) rfl (lz_Ok_none _ _) ?_
  refine lz_cons (k' := 464) rfl (lk_iconst X dL_law_463 (by decide) rfl) ?_
  refine lz_cons (k' := 465) rfl (lk_iload X dL_law_464 rfl) ?_
  refine lz_cons (k' := 466) rfl (lz_Ok_none _ _) ?_
  refine lz_cons (k' := 467) rfl (lk_sipush X dL_law_466 (by decide) rfl) ?_
  refine lz_cons (k' := 468) rfl (lz_Ok_none _ _) ?_
  refine lz_cons (k' := 469) rfl (lz_Ok_none _ _) ?_
  refine lz_cons (k' := 470) rfl (lk_idiv X dL_law_469 rfl) ?_
  refine lz_cons (k' := 471) rfl (lk_iconst X dL_law_470 (by decide) rfl) ?_
  refine lz_cons (k' := 472) rfl (lk_irem X dL_law_471 rfl) ?_
  refine lz_cons (k' := 473) rfl (lk_iadd X dL_law_472 rfl) ?_
  refine lz_cons (k' := 474) rfl (lk_istore X dL_law_473 (by decide) rfl) ?_
  refine lz_cons (k' := 475) rfl (lz_Ok_none _ _) ?_
  refine lz_cons (k' := 476) rfl (lk_iload X dL_law_475 rfl) ?_
  refine lz_cons (k' := 477) rfl (lz_Ok_none _ _) ?_
  refine lz_cons (k' := 478) rfl (lk_bipush X dL_law_477 (by decide) rfl) ?_
  refine lz_cons (k' := 479) rfl (lz_Ok_none _ _) ?_
  refine lz_cons (k' := 480) rfl (lk_idiv X dL_law_479 rfl) ?_
  refine lz_cons (k' := 481) rfl (lk_iconst X dL_law_480 (by decide) rfl) ?_
  refine lz_cons (k' := 482) rfl (lk_irem X dL_law_481 rfl) ?_
  refine lz_cons (k' := 483) rfl (lk_istore X dL_law_482 (by decide) rfl) ?_
  refine lz_cons (k' := 484) rfl (lz_Ok_none _ _) ?_
  refine lz_cons (k' := 485) rfl (lk_iload X dL_law_484 rfl) ?_
  refine lz_cons (k' := 486) rfl (lz_Ok_none _ _) ?_
  refine lz_cons (k' := 487) rfl (lk_bipush X dL_law_486 (by decide) rfl) ?_
  refine lz_cons (k' := 488) rfl (lz_Ok_none _ _) ?_
  refine lz_cons (k' := 489) rfl (lk_idiv X dL_law_488 rfl) ?_
  refine lz_cons (k' := 490) rfl (lk_iconst X dL_law_489 (by decide) rfl) ?_
  refine lz_cons (k' := 491) rfl (lk_irem X dL_law_490 rfl) ?_
  refine lz_cons (k' := 492) rfl (lk_if_le X dL_law_491 (by decide) rfl) ?_
  refine lz_cons (k' := 493) rfl (lz_Ok_none _ _) ?_
  refine lz_cons (k' := 494) rfl (lz_Ok_none _ _) ?_
  refine lz_cons (k' := 495) rfl (lk_iconst X dL_law_494 (by decide) rfl) ?_
  refine lz_cons (k' := 496) rfl (lk_goto X dL_law_495 (by decide)) ?_
  refine lz_cons (k' := 497) rfl (lz_Ok_none _ _) ?_
  refine lz_cons (k' := 498) rfl (lz_Ok_none _ _) ?_
  refine lz_cons (k' := 499) rfl (lk_iconst X dL_law_498 (by decide) rfl) ?_
  refine lz_cons (k' := 500) rfl (lk_istore X dL_law_499 (by decide) rfl) ?_
  refine lz_cons (k' := 501) rfl (lz_Ok_none _ _) ?_
  refine lz_cons (k' := 502) rfl (lk_aload_n X dL_law_501 rfl rfl) ?_
  refine lz_cons (k' := 503) rfl (lk_iload X dL_law_502 rfl) ?_
  refine lz_cons (k' := 504) rfl (lz_Ok_none _ _) ?_
  refine lz_cons (k' := 505) rfl (lk_iload X dL_law_504 rfl) ?_
  refine lz_cons (k' := 506) rfl (lz_Ok_none _ _) ?_
  refine lz_cons (k' := 507) rfl (lk_callv X kc_89 (mm_X11_managerOf Wd.1) (by decide) dL_law_506 rfl) ?_
  refine lz_cons (k' := 508) rfl (lz_Ok_none _ _) ?_
  refine lz_cons (k' := 509) rfl (lz_Ok_none _ _) ?_
  refine lz_cons (k' := 510) rfl (lk_iload X dL_law_509 rfl) ?_
  refine lz_cons (k' := 511) rfl (lz_Ok_none _ _) ?_
  refine lz_cons (k' := 512) rfl (lk_icmp_ne X dL_law_511 (by decide) rfl) ?_
  refine lz_cons (k' := 513) rfl (lz_Ok_none _ _) ?_
  refine lz_cons (k' := 514) rfl (lz_Ok_none _ _) ?_
  refine lz_cons (k' := 515) rfl (lk_iconst X dL_law_514 (by decide) rfl) ?_
  refine lz_cons (k' := 516) rfl (lk_goto X dL_law_515 (by decide)) ?_
  refine lz_cons (k' := 517) rfl (lz_Ok_none _ _) ?_
  refine lz_cons (k' := 518) rfl (lz_Ok_none _ _) ?_
  refine lz_cons (k' := 519) rfl (lk_iconst X dL_law_518 (by decide) rfl) ?_
  refine lz_cons (k' := 520) rfl (lk_istore X dL_law_519 (by decide) rfl) ?_
  refine lz_cons (k' := 521) rfl (lz_Ok_none _ _) ?_
  refine lz_cons (k' := 522) rfl (lk_aload_n X dL_law_521 rfl rfl) ?_
  refine lz_cons (k' := 523) rfl (lk_iload X dL_law_522 rfl) ?_
  refine lz_cons (k' := 524) rfl (lz_Ok_none _ _) ?_
  refine lz_cons (k' := 525) rfl (lk_iload X dL_law_524 rfl) ?_
  refine lz_cons (k' := 526) rfl (lz_Ok_none _ _) ?_
  refine lz_cons (k' := 527) rfl (lk_callv X kc_86 (mm_X11_field Wd.1) (by decide) dL_law_526 rfl) ?_
  refine lz_cons (k' := 528) rfl (lz_Ok_none _ _) ?_
  refine lz_cons (k' := 529) rfl (lz_Ok_none _ _) ?_
  refine lz_cons (k' := 530) rfl (lk_iload X dL_law_529 rfl) ?_
  refine lz_cons (k' := 531) rfl (lz_Ok_none _ _) ?_
  refine lz_cons (k' := 532) rfl (lk_icmp_ne X dL_law_531 (by decide) rfl) ?_
  refine lz_cons (k' := 533) rfl (lz_Ok_none _ _) ?_
  refine lz_cons (k' := 534) rfl (lz_Ok_none _ _) ?_
  refine lz_cons (k' := 535) rfl (lk_iload X dL_law_534 rfl) ?_
  refine lz_cons (k' := 536) rfl (lz_Ok_none _ _) ?_
  refine lz_cons (k' := 537) rfl (lk_if_eq X dL_law_536 (by decide) rfl) ?_
  refine lz_cons (k' := 538) rfl (lz_Ok_none _ _) ?_
  refine lz_cons (k' := 539) rfl (lz_Ok_none _ _) ?_
  refine lz_cons (k' := 540) rfl (lk_iconst X dL_law_539 (by decide) rfl) ?_
  refine lz_cons (k' := 541) rfl (lk_goto X dL_law_540 (by decide)) ?_
  refine lz_cons (k' := 542) rfl (lz_Ok_none _ _) ?_
  refine lz_cons (k' := 543) rfl (lz_Ok_none _ _) ?_
  refine lz_cons (k' := 544) rfl (lk_iconst X dL_law_543 (by decide) rfl) ?_
  refine lz_cons (k' := 545) rfl (lk_istore X dL_law_544 (by decide) rfl) ?_
  refine lz_cons (k' := 546) rfl (lz_Ok_none _ _) ?_
  refine lz_cons (k' := 547) rfl (lk_aload_n X dL_law_546 rfl rfl) ?_
  refine lz_cons (k' := 548) rfl (lk_iconst X dL_law_547 (by decide) rfl) ?_
  refine lz_cons (k' := 549) rfl (lk_iload X dL_law_548 rfl) ?_
  refine lz_cons (k' := 550) rfl (lz_Ok_none _ _) ?_
  refine lz_cons (k' := 551) rfl (lk_iload X dL_law_550 rfl) ?_
  refine lz_cons (k' := 552) rfl (lz_Ok_none _ _) ?_
  refine lz_cons (k' := 553) rfl (lk_iload X dL_law_552 rfl) ?_
  refine lz_cons (k' := 554) rfl (lz_Ok_none _ _) ?_
  refine lz_cons (k' := 555) rfl (lk_iload X dL_law_554 rfl) ?_
  refine lz_cons (k' := 556) rfl (lz_Ok_none _ _) ?_
  refine lz_cons (k' := 557) rfl (lk_iconst X dL_law_556 (by decide) rfl) ?_
  refine lz_cons (k' := 558) rfl (lk_iload X dL_law_557 rfl) ?_
  refine lz_cons (k' := 559) rfl (lz_Ok_none _ _) ?_
  refine lz_cons (k' := 560) rfl (lk_if_eq X dL_law_559 (by decide) rfl) ?_
  refine lz_cons (k' := 561) rfl (lz_Ok_none _ _) ?_
  refine lz_cons (k' := 562) rfl (lz_Ok_none _ _) ?_
  refine lz_cons (k' := 563) rfl (lk_iconst X dL_law_562 (by decide) rfl) ?_
  refine lz_cons (k' := 564) rfl (lk_goto X dL_law_563 (by decide)) ?_
  refine lz_cons (k' := 565) rfl (lz_Ok_none _ _) ?_
  refine lz_cons (k' := 566) rfl (lz_Ok_none _ _) ?_
  refine lz_cons (k' := 567) rfl (lk_iconst X dL_law_566 (by decide) rfl) ?_
  refine lz_cons (k' := 568) rfl (lk_calls X kl_168 (mm_L_act Wd) (by decide) dL_law_567 rfl) ?_
  refine lz_cons (k' := 569) rfl (lz_Ok_none _ _) ?_
  refine lz_cons (k' := 570) rfl (lz_Ok_none _ _) ?_
  refine lz_cons (k' := 571) rfl (lk_istore X dL_law_570 (by decide) rfl) ?_
  refine lz_cons (k' := 572) rfl (lz_Ok_none _ _) ?_
  refine lz_cons (k' := 573) rfl (lk_iload X dL_law_572 rfl) ?_
  refine lz_cons (k' := 574) rfl (lz_Ok_none _ _) ?_
  refine lz_cons (k' := 575) rfl (lk_if_ge X dL_law_574 (by decide) rfl) ?_
  refine lz_cons (k' := 576) rfl (lz_Ok_none _ _) ?_
  refine lz_cons (k' := 577) rfl (lz_Ok_none _ _) ?_
  refine lz_cons (k' := 578) rfl (lk_iload X dL_law_577 rfl) ?_
  refine lz_cons (k' := 579) rfl (lz_Ok_none _ _) ?_
  refine lz_cons (k' := 580) rfl (lk_sipush X dL_law_579 (by decide) rfl) ?_
  refine lz_cons (k' := 581) rfl (lz_Ok_none _ _) ?_
  refine lz_cons (k' := 582) rfl (lz_Ok_none _ _) ?_
  refine lz_cons (k' := 583) rfl (lk_icmp_ne X dL_law_582 (by decide) rfl) ?_
  refine lz_cons (k' := 584) rfl (lz_Ok_none _ _) ?_
  refine lz_cons (k' := 585) rfl (lz_Ok_none _ _) ?_
  refine lz_cons (k' := 586) rfl (lk_aload_n X dL_law_585 rfl rfl) ?_
  refine lz_cons (k' := 587) rfl (lk_callv X kc_151 (mm_X11_version Wd.1) (by decide) dL_law_586 rfl) ?_
  refine lz_cons (k' := 588) rfl (lz_Ok_none _ _) ?_
  refine lz_cons (k' := 589) rfl (lz_Ok_none _ _) ?_
  refine lz_cons (k' := 590) rfl (lk_iload X dL_law_589 rfl) ?_
  refine lz_cons (k' := 591) rfl (lz_Ok_none _ _) ?_
  refine lz_cons (k' := 592) rfl (lk_icmp_ne X dL_law_591 (by decide) rfl) ?_
  refine lz_cons (k' := 593) rfl (lz_Ok_none _ _) ?_
  refine lz_cons (k' := 594) rfl (lz_Ok_none _ _) ?_
  refine lz_cons (k' := 595) rfl (lk_aload_n X dL_law_594 rfl rfl) ?_
  refine lz_cons (k' := 596) rfl (lk_iload X dL_law_595 rfl) ?_
  refine lz_cons (k' := 597) rfl (lz_Ok_none _ _) ?_
  refine lz_cons (k' := 598) rfl (lk_callv X kc_98 (mm_X11_goingOf Wd.1) (by decide) dL_law_597 rfl) ?_
  refine lz_cons (k' := 599) rfl (lz_Ok_none _ _) ?_
  refine lz_cons (k' := 600) rfl (lz_Ok_none _ _) ?_
  refine lz_cons (k' := 601) rfl (lk_iconst X dL_law_600 (by decide) rfl) ?_
  refine lz_cons (k' := 602) rfl (lk_icmp_eq X dL_law_601 (by decide) rfl) ?_
  refine lz_cons (k' := 603) rfl (lz_Ok_none _ _) ?_
  refine lz_cons (k' := 604) rfl (lz_Ok_none _ _) ?_
  refine lz_cons (k' := 605) rfl (lk_iload X dL_law_604 rfl) ?_
  refine lz_cons (k' := 606) rfl (lz_Ok_none _ _) ?_
  refine lz_cons (k' := 607) rfl (lk_if_ne X dL_law_606 (by decide) rfl) ?_
  refine lz_cons (k' := 608) rfl (lz_Ok_none _ _) ?_
  refine lz_cons (k' := 609) rfl (lz_Ok_none _ _) ?_
  refine lz_cons (k' := 610) rfl (lk_iload X dL_law_609 rfl) ?_
  refine lz_cons (k' := 611) rfl (lz_Ok_none _ _) ?_
  refine lz_cons (k' := 612) rfl (lk_if_eq X dL_law_611 (by decide) rfl) ?_
  refine lz_cons (k' := 613) rfl (lz_Ok_none _ _) ?_
  refine lz_cons (k' := 614) rfl (lz_Ok_none _ _) ?_
  refine lz_cons (k' := 615) rfl (lk_iload X dL_law_614 rfl) ?_
  refine lz_cons (k' := 616) rfl (lz_Ok_none _ _) ?_
  refine lz_cons (k' := 617) rfl (lk_if_ne X dL_law_616 (by decide) rfl) ?_
  refine lz_cons (k' := 618) rfl (lz_Ok_none _ _) ?_
  refine lz_cons (k' := 619) rfl (lz_Ok_none _ _) ?_
  refine lz_cons (k' := 620) rfl (lk_iload X dL_law_619 rfl) ?_
  refine lz_cons (k' := 621) rfl (lz_Ok_none _ _) ?_
  refine lz_cons (k' := 622) rfl (lk_iconst X dL_law_621 (by decide) rfl) ?_
  refine lz_cons (k' := 623) rfl (lk_icmp_eq X dL_law_622 (by decide) rfl) ?_
  refine lz_cons (k' := 624) rfl (lz_Ok_none _ _) ?_
  refine lz_cons (k' := 625) rfl (lz_Ok_none _ _) ?_
  refine lz_cons (k' := 626) rfl (lk_iload X dL_law_625 rfl) ?_
  refine lz_cons (k' := 627) rfl (lz_Ok_none _ _) ?_
  refine lz_cons (k' := 628) rfl (lk_iconst X dL_law_627 (by decide) rfl) ?_
  refine lz_cons (k' := 629) rfl (lk_icmp_ne X dL_law_628 (by decide) rfl) ?_
  refine lz_cons (k' := 630) rfl (lz_Ok_none _ _) ?_
  refine lz_cons (k' := 631) rfl (lz_Ok_none _ _) ?_
  refine lz_cons (k' := 632) rfl (lk_iconst X dL_law_631 (by decide) rfl) ?_
  refine lz_cons (k' := 633) rfl (lk_goto X dL_law_632 (by decide)) ?_
  refine lz_cons (k' := 634) rfl (lz_Ok_none _ _) ?_
  refine lz_cons (k' := 635) rfl (lz_Ok_none _ _) ?_
  refine lz_cons (k' := 636) rfl (lk_iconst X dL_law_635 (by decide) rfl) ?_
  refine lz_cons (k' := 637) rfl (lk_goto X dL_law_636 (by decide)) ?_
  refine lz_cons (k' := 638) rfl (lz_Ok_none _ _) ?_
  refine lz_cons (k' := 639) rfl (lz_Ok_none _ _) ?_
  refine lz_cons (k' := 640) rfl (lk_iload X dL_law_639 rfl) ?_
  refine lz_cons (k' := 641) rfl (lz_Ok_none _ _) ?_
  refine lz_cons (k' := 642) rfl (lk_aload_n X dL_law_641 rfl rfl) ?_
  refine lz_cons (k' := 643) rfl (lk_iload X dL_law_642 rfl) ?_
  refine lz_cons (k' := 644) rfl (lz_Ok_none _ _) ?_
  refine lz_cons (k' := 645) rfl (lk_callv X kc_95 (mm_X11_versionOf Wd.1) (by decide) dL_law_644 rfl) ?_
  refine lz_cons (k' := 646) rfl (lz_Ok_none _ _) ?_
  refine lz_cons (k' := 647) rfl (lz_Ok_none _ _) ?_
  refine lz_cons (k' := 648) rfl (lk_icmp_ne X dL_law_647 (by decide) rfl) ?_
  refine lz_cons (k' := 649) rfl (lz_Ok_none _ _) ?_
  refine lz_cons (k' := 650) rfl (lz_Ok_none _ _) ?_
  refine lz_cons (k' := 651) rfl (lk_aload_n X dL_law_650 rfl rfl) ?_
  refine lz_cons (k' := 652) rfl (lk_iload X dL_law_651 rfl) ?_
  refine lz_cons (k' := 653) rfl (lz_Ok_none _ _) ?_
  refine lz_cons (k' := 654) rfl (lk_iload X dL_law_653 rfl) ?_
  refine lz_cons (k' := 655) rfl (lz_Ok_none _ _) ?_
  refine lz_cons (k' := 656) rfl (lk_callv X kc_86 (mm_X11_field Wd.1) (by decide) dL_law_655 rfl) ?_
  refine lz_cons (k' := 657) rfl (lz_Ok_none _ _) ?_
  refine lz_cons (k' := 658) rfl (lz_Ok_none _ _) ?_
  refine lz_cons (k' := 659) rfl (lk_iload X dL_law_658 rfl) ?_
  refine lz_cons (k' := 660) rfl (lz_Ok_none _ _) ?_
  refine lz_cons (k' := 661) rfl (lk_icmp_ne X dL_law_660 (by decide) rfl) ?_
  refine lz_cons (k' := 662) rfl (lz_Ok_none _ _) ?_
  refine lz_cons (k' := 663) rfl (lz_Ok_none _ _) ?_
  refine lz_cons (k' := 664) rfl (lk_aload_n X dL_law_663 rfl rfl) ?_
  refine lz_cons (k' := 665) rfl (lk_iload X dL_law_664 rfl) ?_
  refine lz_cons (k' := 666) rfl (lz_Ok_none _ _) ?_
  refine lz_cons (k' := 667) rfl (lk_iload X dL_law_666 rfl) ?_
  refine lz_cons (k' := 668) rfl (lz_Ok_none _ _) ?_
  refine lz_cons (k' := 669) rfl (lk_callv X kc_89 (mm_X11_managerOf Wd.1) (by decide) dL_law_668 rfl) ?_
  refine lz_cons (k' := 670) rfl (lz_Ok_none _ _) ?_
  refine lz_cons (k' := 671) rfl (lz_Ok_none _ _) ?_
  refine lz_cons (k' := 672) rfl (lk_iload X dL_law_671 rfl) ?_
  refine lz_cons (k' := 673) rfl (lz_Ok_none _ _) ?_
  refine lz_cons (k' := 674) rfl (lk_icmp_ne X dL_law_673 (by decide) rfl) ?_
  refine lz_cons (k' := 675) rfl (lz_Ok_none _ _) ?_
  refine lz_cons (k' := 676) rfl (lz_Ok_none _ _) ?_
  refine lz_cons (k' := 677) rfl (lk_aload_n X dL_law_676 rfl rfl) ?_
  refine lz_cons (k' := 678) rfl (lk_callv X kc_151 (mm_X11_version Wd.1) (by decide) dL_law_677 rfl) ?_
  refine lz_cons (k' := 679) rfl (lz_Ok_none _ _) ?_
  refine lz_cons (k' := 680) rfl (lz_Ok_none _ _) ?_
  refine lz_cons (k' := 681) rfl (lk_iload X dL_law_680 rfl) ?_
  refine lz_cons (k' := 682) rfl (lz_Ok_none _ _) ?_
  refine lz_cons (k' := 683) rfl (lk_iload X dL_law_682 rfl) ?_
  refine lz_cons (k' := 684) rfl (lz_Ok_none _ _) ?_
  refine lz_cons (k' := 685) rfl (lk_if_eq X dL_law_684 (by decide) rfl) ?_
  refine lz_cons (k' := 686) rfl (lz_Ok_none _ _) ?_
  refine lz_cons (k' := 687) rfl (lz_Ok_none _ _) ?_
  refine lz_cons (k' := 688) rfl (lk_iconst X dL_law_687 (by decide) rfl) ?_
  refine lz_cons (k' := 689) rfl (lk_goto X dL_law_688 (by decide)) ?_
  refine lz_cons (k' := 690) rfl (lz_Ok_none _ _) ?_
  refine lz_cons (k' := 691) rfl (lz_Ok_none _ _) ?_
  refine lz_cons (k' := 692) rfl (lk_iconst X dL_law_691 (by decide) rfl) ?_
  refine lz_cons (k' := 693) rfl (lk_iadd X dL_law_692 rfl) ?_
  refine lz_cons (k' := 694) rfl (lk_icmp_ne X dL_law_693 (by decide) rfl) ?_
  refine lz_cons (k' := 695) rfl (lz_Ok_none _ _) ?_
  refine lz_cons (k' := 696) rfl (lz_Ok_none _ _) ?_
  refine lz_cons (k' := 697) rfl (lk_iconst X dL_law_696 (by decide) rfl) ?_
  refine lz_cons (k' := 698) rfl (lk_goto X dL_law_697 (by decide)) ?_
  refine lz_cons (k' := 699) rfl (lz_Ok_none _ _) ?_
  refine lz_cons (k' := 700) rfl (lz_Ok_none _ _) ?_
  refine lz_cons (k' := 701) rfl (lk_iconst X dL_law_700 (by decide) rfl) ?_
  refine lz_cons (k' := 702) rfl (lk_istore X dL_law_701 (by decide) rfl) ?_
  refine lz_cons (k' := 703) rfl (lz_Ok_none _ _) ?_
  refine lz_cons (k' := 704) rfl (lk_goto X dL_law_703 (by decide)) ?_
  refine lz_cons (k' := 705) rfl (lz_Ok_none _ _) ?_
  refine lz_cons (k' := 706) rfl (lz_Ok_none _ _) ?_
  refine lz_cons (k' := 707) rfl (lk_iload X dL_law_706 rfl) ?_
  refine lz_cons (k' := 708) rfl (lz_Ok_none _ _) ?_
  refine lz_cons (k' := 709) rfl (lk_bipush X dL_law_708 (by decide) rfl) ?_
  refine lz_cons (k' := 710) rfl (lz_Ok_none _ _) ?_
  refine lz_cons (k' := 711) rfl (lk_icmp_ne X dL_law_710 (by decide) rfl) ?_
  refine lz_cons (k' := 712) rfl (lz_Ok_none _ _) ?_
  refine lz_cons (k' := 713) rfl (lz_Ok_none _ _) ?_
  refine lz_cons (k' := 714) rfl (lk_aload_n X dL_law_713 rfl rfl) ?_
  refine lz_cons (k' := 715) rfl (lk_iload X dL_law_714 rfl) ?_
  refine lz_cons (k' := 716) rfl (lz_Ok_none _ _) ?_
  refine lz_cons (k' := 717) rfl (lk_callv X kc_98 (mm_X11_goingOf Wd.1) (by decide) dL_law_716 rfl) ?_
  refine lz_cons (k' := 718) rfl (lz_Ok_none _ _) ?_
  refine lz_cons (k' := 719) rfl (lz_Ok_none _ _) ?_
  refine lz_cons (k' := 720) rfl (lk_if_ne X dL_law_719 (by decide) rfl) ?_
  refine lz_cons (k' := 721) rfl (lz_Ok_none _ _) ?_
  refine lz_cons (k' := 722) rfl (lz_Ok_none _ _) ?_
  refine lz_cons (k' := 723) rfl (lk_iconst X dL_law_722 (by decide) rfl) ?_
  refine lz_cons (k' := 724) rfl (lk_goto X dL_law_723 (by decide)) ?_
  refine lz_cons (k' := 725) rfl (lz_Ok_none _ _) ?_
  refine lz_cons (k' := 726) rfl (lz_Ok_none _ _) ?_
  refine lz_cons (k' := 727) rfl (lk_iconst X dL_law_726 (by decide) rfl) ?_
  refine lz_cons (k' := 728) rfl (lk_istore X dL_law_727 (by decide) rfl) ?_
  refine lz_cons (k' := 729) rfl (lz_Ok_none _ _) ?_
  refine lz_cons (k' := 730) rfl (lk_aload_n X dL_law_729 rfl rfl) ?_
  refine lz_cons (k' := 731) rfl (lk_iconst X dL_law_730 (by decide) rfl) ?_
  refine lz_cons (k' := 732) rfl (lk_iload X dL_law_731 rfl) ?_
  refine lz_cons (k' := 733) rfl (lz_Ok_none _ _) ?_
  refine lz_cons (k' := 734) rfl (lk_iconst X dL_law_733 (by decide) rfl) ?_
  refine lz_cons (k' := 735) rfl (lk_iload X dL_law_734 rfl) ?_
  refine lz_cons (k' := 736) rfl (lz_Ok_none _ _) ?_
  refine lz_cons (k' := 737) rfl (lk_bipush X dL_law_736 (by decide) rfl) ?_
  refine lz_cons (k' := 738) rfl (lz_Ok_none _ _) ?_
  refine lz_cons (k' := 739) rfl (lk_idiv X dL_law_738 rfl) ?_
  refine lz_cons (k' := 740) rfl (lk_iconst X dL_law_739 (by decide) rfl) ?_
  refine lz_cons (k' := 741) rfl (lk_irem X dL_law_740 rfl) ?_
  refine lz_cons (k' := 742) rfl (lk_iadd X dL_law_741 rfl) ?_
  refine lz_cons (k' := 743) rfl (lk_iconst X dL_law_742 (by decide) rfl) ?_
  refine lz_cons (k' := 744) rfl (lk_iconst X dL_law_743 (by decide) rfl) ?_
  refine lz_cons (k' := 745) rfl (lk_iconst X dL_law_744 (by decide) rfl) ?_
  refine lz_cons (k' := 746) rfl (lk_iconst X dL_law_745 (by decide) rfl) ?_
  refine lz_cons (k' := 747) rfl (lk_calls X kl_168 (mm_L_act Wd) (by decide) dL_law_746 rfl) ?_
  refine lz_cons (k' := 748) rfl (lz_Ok_none _ _) ?_
  refine lz_cons (k' := 749) rfl (lz_Ok_none _ _) ?_
  refine lz_cons (k' := 750) rfl (lk_istore X dL_law_749 (by decide) rfl) ?_
  refine lz_cons (k' := 751) rfl (lz_Ok_none _ _) ?_
  refine lz_cons (k' := 752) rfl (lk_iload X dL_law_751 rfl) ?_
  refine lz_cons (k' := 753) rfl (lz_Ok_none _ _) ?_
  refine lz_cons (k' := 754) rfl (lk_if_eq X dL_law_753 (by decide) rfl) ?_
  refine lz_cons (k' := 755) rfl (lz_Ok_none _ _) ?_
  refine lz_cons (k' := 756) rfl (lz_Ok_none _ _) ?_
  refine lz_cons (k' := 757) rfl (lk_iload X dL_law_756 rfl) ?_
  refine lz_cons (k' := 758) rfl (lz_Ok_none _ _) ?_
  refine lz_cons (k' := 759) rfl (lk_aload_n X dL_law_758 rfl rfl) ?_
  refine lz_cons (k' := 760) rfl (lk_iload X dL_law_759 rfl) ?_
  refine lz_cons (k' := 761) rfl (lz_Ok_none _ _) ?_
  refine lz_cons (k' := 762) rfl (lk_callv X kc_98 (mm_X11_goingOf Wd.1) (by decide) dL_law_761 rfl) ?_
  refine lz_cons (k' := 763) rfl (lz_Ok_none _ _) ?_
  refine lz_cons (k' := 764) rfl (lz_Ok_none _ _) ?_
  refine lz_cons (k' := 765) rfl (lk_icmp_ne X dL_law_764 (by decide) rfl) ?_
  refine lz_cons (k' := 766) rfl (lz_Ok_none _ _) ?_
  refine lz_cons (k' := 767) rfl (lz_Ok_none _ _) ?_
  refine lz_cons (k' := 768) rfl (lk_iload X dL_law_767 rfl) ?_
  refine lz_cons (k' := 769) rfl (lz_Ok_none _ _) ?_
  refine lz_cons (k' := 770) rfl (lk_if_le X dL_law_769 (by decide) rfl) ?_
  refine lz_cons (k' := 771) rfl (lz_Ok_none _ _) ?_
  refine lz_cons (k' := 772) rfl (lz_Ok_none _ _) ?_
  refine lz_cons (k' := 773) rfl (lk_iload X dL_law_772 rfl) ?_
  refine lz_cons (k' := 774) rfl (lz_Ok_none _ _) ?_
  refine lz_cons (k' := 775) rfl (lk_iconst X dL_law_774 (by decide) rfl) ?_
  refine lz_cons (k' := 776) rfl (lk_icmp_lt X dL_law_775 (by decide) rfl) ?_
  refine lz_cons (k' := 777) rfl (lz_Ok_none _ _) ?_
  refine lz_cons (k' := 778) rfl (lz_Ok_none _ _) ?_
  refine lz_cons (k' := 779) rfl (lk_aload_n X dL_law_778 rfl rfl) ?_
  refine lz_cons (k' := 780) rfl (lk_iload X dL_law_779 rfl) ?_
  refine lz_cons (k' := 781) rfl (lz_Ok_none _ _) ?_
  refine lz_cons (k' := 782) rfl (lk_callv X kc_101 (mm_X11_ownerOf Wd.1) (by decide) dL_law_781 rfl) ?_
  refine lz_cons (k' := 783) rfl (lz_Ok_none _ _) ?_
  refine lz_cons (k' := 784) rfl (lz_Ok_none _ _) ?_
  refine lz_cons (k' := 785) rfl (lk_iconst X dL_law_784 (by decide) rfl) ?_
  refine lz_cons (k' := 786) rfl (lk_icmp_ne X dL_law_785 (by decide) rfl) ?_
  refine lz_cons (k' := 787) rfl (lz_Ok_none _ _) ?_
  refine lz_cons (k' := 788) rfl (lz_Ok_none _ _) ?_
  refine lz_cons (k' := 789) rfl (lk_aload_n X dL_law_788 rfl rfl) ?_
  refine lz_cons (k' := 790) rfl (lk_callv X kc_151 (mm_X11_version Wd.1) (by decide) dL_law_789 rfl) ?_
  refine lz_cons (k' := 791) rfl (lz_Ok_none _ _) ?_
  refine lz_cons (k' := 792) rfl (lz_Ok_none _ _) ?_
  refine lz_cons (k' := 793) rfl (lk_iload X dL_law_792 rfl) ?_
  refine lz_cons (k' := 794) rfl (lz_Ok_none _ _) ?_
  refine lz_cons (k' := 795) rfl (lk_iconst X dL_law_794 (by decide) rfl) ?_
  refine lz_cons (k' := 796) rfl (lk_iadd X dL_law_795 rfl) ?_
  refine lz_cons (k' := 797) rfl (lk_icmp_ne X dL_law_796 (by decide) rfl) ?_
  refine lz_cons (k' := 798) rfl (lz_Ok_none _ _) ?_
  refine lz_cons (k' := 799) rfl (lz_Ok_none _ _) ?_
  refine lz_cons (k' := 800) rfl (lk_iconst X dL_law_799 (by decide) rfl) ?_
  refine lz_cons (k' := 801) rfl (lk_goto X dL_law_800 (by decide)) ?_
  refine lz_cons (k' := 802) rfl (lz_Ok_none _ _) ?_
  refine lz_cons (k' := 803) rfl (lz_Ok_none _ _) ?_
  refine lz_cons (k' := 804) rfl (lk_iconst X dL_law_803 (by decide) rfl) ?_
  refine lz_cons (k' := 805) rfl (lk_goto X dL_law_804 (by decide)) ?_
  refine lz_cons (k' := 806) rfl (lz_Ok_none _ _) ?_
  refine lz_cons (k' := 807) rfl (lz_Ok_none _ _) ?_
  refine lz_cons (k' := 808) rfl (lk_iload X dL_law_807 rfl) ?_
  refine lz_cons (k' := 809) rfl (lz_Ok_none _ _) ?_
  refine lz_cons (k' := 810) rfl (lk_sipush X dL_law_809 (by decide) rfl) ?_
  refine lz_cons (k' := 811) rfl (lz_Ok_none _ _) ?_
  refine lz_cons (k' := 812) rfl (lz_Ok_none _ _) ?_
  refine lz_cons (k' := 813) rfl (lk_icmp_ne X dL_law_812 (by decide) rfl) ?_
  refine lz_cons (k' := 814) rfl (lz_Ok_none _ _) ?_
  refine lz_cons (k' := 815) rfl (lz_Ok_none _ _) ?_
  refine lz_cons (k' := 816) rfl (lk_iconst X dL_law_815 (by decide) rfl) ?_
  refine lz_cons (k' := 817) rfl (lk_goto X dL_law_816 (by decide)) ?_
  refine lz_cons (k' := 818) rfl (lz_Ok_none _ _) ?_
  refine lz_cons (k' := 819) rfl (lz_Ok_none _ _) ?_
  refine lz_cons (k' := 820) rfl (lk_iconst X dL_law_819 (by decide) rfl) ?_
  refine lz_cons (k' := 821) rfl (lk_istore X dL_law_820 (by decide) rfl) ?_
  refine lz_cons (k' := 822) rfl (lz_Ok_none _ _) ?_
  refine lz_cons (k' := 823) rfl (lk_goto X dL_law_822 (by decide)) ?_
  refine lz_cons (k' := 824) rfl (lz_Ok_none _ _) ?_
  refine lz_cons (k' := 825) rfl (lz_Ok_none _ _) ?_
  refine lz_cons (k' := 826) rfl (lk_iload X dL_law_825 rfl) ?_
  refine lz_cons (k' := 827) rfl (lz_Ok_none _ _) ?_
  refine lz_cons (k' := 828) rfl (lk_bipush X dL_law_827 (by decide) rfl) ?_
  refine lz_cons (k' := 829) rfl (lz_Ok_none _ _) ?_
  refine lz_cons (k' := 830) rfl (lk_icmp_ne X dL_law_829 (by decide) rfl) ?_
  refine lz_cons (k' := 831) rfl (lz_Ok_none _ _) ?_
  refine lz_cons (k' := 832) rfl (lz_Ok_none _ _) ?_
  refine lz_cons (k' := 833) rfl (lk_aload_n X dL_law_832 rfl rfl) ?_
  refine lz_cons (k' := 834) rfl (lk_iconst X dL_law_833 (by decide) rfl) ?_
  refine lz_cons (k' := 835) rfl (lk_iload X dL_law_834 rfl) ?_
  refine lz_cons (k' := 836) rfl (lz_Ok_none _ _) ?_
  refine lz_cons (k' := 837) rfl (lk_iload X dL_law_836 rfl) ?_
  refine lz_cons (k' := 838) rfl (lz_Ok_none _ _) ?_
  refine lz_cons (k' := 839) rfl (lk_bipush X dL_law_838 (by decide) rfl) ?_
  refine lz_cons (k' := 840) rfl (lz_Ok_none _ _) ?_
  refine lz_cons (k' := 841) rfl (lk_idiv X dL_law_840 rfl) ?_
  refine lz_cons (k' := 842) rfl (lk_iconst X dL_law_841 (by decide) rfl) ?_
  refine lz_cons (k' := 843) rfl (lk_irem X dL_law_842 rfl) ?_
  refine lz_cons (k' := 844) rfl (lk_iconst X dL_law_843 (by decide) rfl) ?_
  refine lz_cons (k' := 845) rfl (lk_idiv X dL_law_844 rfl) ?_
  refine lz_cons (k' := 846) rfl (lk_iconst X dL_law_845 (by decide) rfl) ?_
  refine lz_cons (k' := 847) rfl (lk_iconst X dL_law_846 (by decide) rfl) ?_
  refine lz_cons (k' := 848) rfl (lk_iconst X dL_law_847 (by decide) rfl) ?_
  refine lz_cons (k' := 849) rfl (lk_iconst X dL_law_848 (by decide) rfl) ?_
  refine lz_cons (k' := 850) rfl (lk_calls X kl_168 (mm_L_act Wd) (by decide) dL_law_849 rfl) ?_
  refine lz_cons (k' := 851) rfl (lz_Ok_none _ _) ?_
  refine lz_cons (k' := 852) rfl (lz_Ok_none _ _) ?_
  refine lz_cons (k' := 853) rfl (lk_istore X dL_law_852 (by decide) rfl) ?_
  refine lz_cons (k' := 854) rfl (lz_Ok_none _ _) ?_
  refine lz_cons (k' := 855) rfl (lk_iload X dL_law_854 rfl) ?_
  refine lz_cons (k' := 856) rfl (lz_Ok_none _ _) ?_
  refine lz_cons (k' := 857) rfl (lk_sipush X dL_law_856 (by decide) rfl) ?_
  refine lz_cons (k' := 858) rfl (lz_Ok_none _ _) ?_
  refine lz_cons (k' := 859) rfl (lz_Ok_none _ _) ?_
  refine lz_cons (k' := 860) rfl (lk_icmp_ne X dL_law_859 (by decide) rfl) ?_
  refine lz_cons (k' := 861) rfl (lz_Ok_none _ _) ?_
  refine lz_cons (k' := 862) rfl (lz_Ok_none _ _) ?_
  refine lz_cons (k' := 863) rfl (lk_aload_n X dL_law_862 rfl rfl) ?_
  refine lz_cons (k' := 864) rfl (lk_iload X dL_law_863 rfl) ?_
  refine lz_cons (k' := 865) rfl (lz_Ok_none _ _) ?_
  refine lz_cons (k' := 866) rfl (lk_callv X kc_98 (mm_X11_goingOf Wd.1) (by decide) dL_law_865 rfl) ?_
  refine lz_cons (k' := 867) rfl (lz_Ok_none _ _) ?_
  refine lz_cons (k' := 868) rfl (lz_Ok_none _ _) ?_
  refine lz_cons (k' := 869) rfl (lk_iconst X dL_law_868 (by decide) rfl) ?_
  refine lz_cons (k' := 870) rfl (lk_icmp_ne X dL_law_869 (by decide) rfl) ?_
  refine lz_cons (k' := 871) rfl (lz_Ok_none _ _) ?_
  refine lz_cons (k' := 872) rfl (lz_Ok_none _ _) ?_
  refine lz_cons (k' := 873) rfl (lk_iconst X dL_law_872 (by decide) rfl) ?_
  refine lz_cons (k' := 874) rfl (lk_goto X dL_law_873 (by decide)) ?_
  refine lz_cons (k' := 875) rfl (lz_Ok_none _ _) ?_
  refine lz_cons (k' := 876) rfl (lz_Ok_none _ _) ?_
  refine lz_cons (k' := 877) rfl (lk_iconst X dL_law_876 (by decide) rfl) ?_
  refine lz_cons (k' := 878) rfl (lk_goto X dL_law_877 (by decide)) ?_
  refine lz_cons (k' := 879) rfl (lz_Ok_none _ _) ?_
  refine lz_cons (k' := 880) rfl (lz_Ok_none _ _) ?_
  refine lz_cons (k' := 881) rfl (lk_aload_n X dL_law_880 rfl rfl) ?_
  refine lz_cons (k' := 882) rfl (lk_iconst X dL_law_881 (by decide) rfl) ?_
  refine lz_cons (k' := 883) rfl (lk_iload X dL_law_882 rfl) ?_
  refine lz_cons (k' := 884) rfl (lz_Ok_none _ _) ?_
  refine lz_cons (k' := 885) rfl (lk_iload X dL_law_884 rfl) ?_
  refine lz_cons (k' := 886) rfl (lz_Ok_none _ _) ?_
  refine lz_cons (k' := 887) rfl (lk_bipush X dL_law_886 (by decide) rfl) ?_
  refine lz_cons (k' := 888) rfl (lz_Ok_none _ _) ?_
  refine lz_cons (k' := 889) rfl (lk_idiv X dL_law_888 rfl) ?_
  refine lz_cons (k' := 890) rfl (lk_iconst X dL_law_889 (by decide) rfl) ?_
  refine lz_cons (k' := 891) rfl (lk_irem X dL_law_890 rfl) ?_
  refine lz_cons (k' := 892) rfl (lk_iconst X dL_law_891 (by decide) rfl) ?_
  refine lz_cons (k' := 893) rfl (lk_idiv X dL_law_892 rfl) ?_
  refine lz_cons (k' := 894) rfl (lk_iconst X dL_law_893 (by decide) rfl) ?_
  refine lz_cons (k' := 895) rfl (lk_iconst X dL_law_894 (by decide) rfl) ?_
  refine lz_cons (k' := 896) rfl (lk_iconst X dL_law_895 (by decide) rfl) ?_
  refine lz_cons (k' := 897) rfl (lk_iconst X dL_law_896 (by decide) rfl) ?_
  refine lz_cons (k' := 898) rfl (lk_calls X kl_168 (mm_L_act Wd) (by decide) dL_law_897 rfl) ?_
  refine lz_cons (k' := 899) rfl (lz_Ok_none _ _) ?_
  refine lz_cons (k' := 900) rfl (lz_Ok_none _ _) ?_
  refine lz_cons (k' := 901) rfl (lk_iload X dL_law_900 rfl) ?_
  refine lz_cons (k' := 902) rfl (lz_Ok_none _ _) ?_
  refine lz_cons (k' := 903) rfl (lk_bipush X dL_law_902 (by decide) rfl) ?_
  refine lz_cons (k' := 904) rfl (lz_Ok_none _ _) ?_
  refine lz_cons (k' := 905) rfl (lk_idiv X dL_law_904 rfl) ?_
  refine lz_cons (k' := 906) rfl (lk_iconst X dL_law_905 (by decide) rfl) ?_
  refine lz_cons (k' := 907) rfl (lk_irem X dL_law_906 rfl) ?_
  refine lz_cons (k' := 908) rfl (lk_iconst X dL_law_907 (by decide) rfl) ?_
  refine lz_cons (k' := 909) rfl (lk_idiv X dL_law_908 rfl) ?_
  refine lz_cons (k' := 910) rfl (lk_icmp_ne X dL_law_909 (by decide) rfl) ?_
  refine lz_cons (k' := 911) rfl (lz_Ok_none _ _) ?_
  refine lz_cons (k' := 912) rfl (lz_Ok_none _ _) ?_
  refine lz_cons (k' := 913) rfl (lk_iconst X dL_law_912 (by decide) rfl) ?_
  refine lz_cons (k' := 914) rfl (lk_goto X dL_law_913 (by decide)) ?_
  refine lz_cons (k' := 915) rfl (lz_Ok_none _ _) ?_
  refine lz_cons (k' := 916) rfl (lz_Ok_none _ _) ?_
  refine lz_cons (k' := 917) rfl (lk_iconst X dL_law_916 (by decide) rfl) ?_
  refine lz_cons (k' := 918) rfl (lk_istore X dL_law_917 (by decide) rfl) ?_
  refine lz_cons (k' := 919) rfl (lz_Ok_none _ _) ?_
  refine lz_cons (k' := 920) rfl (lk_goto X dL_law_919 (by decide)) ?_
  refine lz_cons (k' := 921) rfl (lz_Ok_none _ _) ?_
  refine lz_cons (k' := 922) rfl (lz_Ok_none _ _) ?_
  refine lz_cons (k' := 923) rfl (lk_iload X dL_law_922 rfl) ?_
  refine lz_cons (k' := 924) rfl (lz_Ok_none _ _) ?_
  refine lz_cons (k' := 925) rfl (lk_bipush X dL_law_924 (by decide) rfl) ?_
  refine lz_cons (k' := 926) rfl (lz_Ok_none _ _) ?_
  refine lz_cons (k' := 927) rfl (lk_icmp_ne X dL_law_926 (by decide) rfl) ?_
  refine lz_cons (k' := 928) rfl (lz_Ok_none _ _) ?_
  refine lz_cons (k' := 929) rfl (lz_Ok_none _ _) ?_
  refine lz_cons (k' := 930) rfl (lk_iload X dL_law_929 rfl) ?_
  refine lz_cons (k' := 931) rfl (lz_Ok_none _ _) ?_
  refine lz_cons (k' := 932) rfl (lk_iconst X dL_law_931 (by decide) rfl) ?_
  refine lz_cons (k' := 933) rfl (lk_icmp_ne X dL_law_932 (by decide) rfl) ?_
  refine lz_cons (k' := 934) rfl (lz_Ok_none _ _) ?_
  refine lz_cons (k' := 935) rfl (lz_Ok_none _ _) ?_
  refine lz_cons (k' := 936) rfl (lk_aload_n X dL_law_935 rfl rfl) ?_
  refine lz_cons (k' := 937) rfl (lk_iload X dL_law_936 rfl) ?_
  refine lz_cons (k' := 938) rfl (lz_Ok_none _ _) ?_
  refine lz_cons (k' := 939) rfl (lk_callv X kc_98 (mm_X11_goingOf Wd.1) (by decide) dL_law_938 rfl) ?_
  refine lz_cons (k' := 940) rfl (lz_Ok_none _ _) ?_
  refine lz_cons (k' := 941) rfl (lz_Ok_none _ _) ?_
  refine lz_cons (k' := 942) rfl (lk_iconst X dL_law_941 (by decide) rfl) ?_
  refine lz_cons (k' := 943) rfl (lk_icmp_ge X dL_law_942 (by decide) rfl) ?_
  refine lz_cons (k' := 944) rfl (lz_Ok_none _ _) ?_
  refine lz_cons (k' := 945) rfl (lz_Ok_none _ _) ?_
  refine lz_cons (k' := 946) rfl (lk_aload_n X dL_law_945 rfl rfl) ?_
  refine lz_cons (k' := 947) rfl (lk_iload X dL_law_946 rfl) ?_
  refine lz_cons (k' := 948) rfl (lz_Ok_none _ _) ?_
  refine lz_cons (k' := 949) rfl (lk_callv X kc_104 (mm_X11_phaseOf Wd.1) (by decide) dL_law_948 rfl) ?_
  refine lz_cons (k' := 950) rfl (lz_Ok_none _ _) ?_
  refine lz_cons (k' := 951) rfl (lz_Ok_none _ _) ?_
  refine lz_cons (k' := 952) rfl (lk_iconst X dL_law_951 (by decide) rfl) ?_
  refine lz_cons (k' := 953) rfl (lk_icmp_ne X dL_law_952 (by decide) rfl) ?_
  refine lz_cons (k' := 954) rfl (lz_Ok_none _ _) ?_
  refine lz_cons (k' := 955) rfl (lz_Ok_none _ _) ?_
  refine lz_cons (k' := 956) rfl (lk_iconst X dL_law_955 (by decide) rfl) ?_
  refine lz_cons (k' := 957) rfl (lk_goto X dL_law_956 (by decide)) ?_
  refine lz_cons (k' := 958) rfl (lz_Ok_none _ _) ?_
  refine lz_cons (k' := 959) rfl (lz_Ok_none _ _) ?_
  refine lz_cons (k' := 960) rfl (lk_iconst X dL_law_959 (by decide) rfl) ?_
  refine lz_cons (k' := 961) rfl (lk_istore X dL_law_960 (by decide) rfl) ?_
  refine lz_cons (k' := 962) rfl (lz_Ok_none _ _) ?_
  refine lz_cons (k' := 963) rfl (lk_aload_n X dL_law_962 rfl rfl) ?_
  refine lz_cons (k' := 964) rfl (lk_iconst X dL_law_963 (by decide) rfl) ?_
  refine lz_cons (k' := 965) rfl (lk_iload X dL_law_964 rfl) ?_
  refine lz_cons (k' := 966) rfl (lz_Ok_none _ _) ?_
  refine lz_cons (k' := 967) rfl (lk_iload X dL_law_966 rfl) ?_
  refine lz_cons (k' := 968) rfl (lz_Ok_none _ _) ?_
  refine lz_cons (k' := 969) rfl (lk_bipush X dL_law_968 (by decide) rfl) ?_
  refine lz_cons (k' := 970) rfl (lz_Ok_none _ _) ?_
  refine lz_cons (k' := 971) rfl (lk_idiv X dL_law_970 rfl) ?_
  refine lz_cons (k' := 972) rfl (lk_iconst X dL_law_971 (by decide) rfl) ?_
  refine lz_cons (k' := 973) rfl (lk_irem X dL_law_972 rfl) ?_
  refine lz_cons (k' := 974) rfl (lk_iconst X dL_law_973 (by decide) rfl) ?_
  refine lz_cons (k' := 975) rfl (lk_iconst X dL_law_974 (by decide) rfl) ?_
  refine lz_cons (k' := 976) rfl (lk_iconst X dL_law_975 (by decide) rfl) ?_
  refine lz_cons (k' := 977) rfl (lk_iconst X dL_law_976 (by decide) rfl) ?_
  refine lz_cons (k' := 978) rfl (lk_calls X kl_168 (mm_L_act Wd) (by decide) dL_law_977 rfl) ?_
  refine lz_cons (k' := 979) rfl (lz_Ok_none _ _) ?_
  refine lz_cons (k' := 980) rfl (lz_Ok_none _ _) ?_
  refine lz_cons (k' := 981) rfl (lk_istore X dL_law_980 (by decide) rfl) ?_
  refine lz_cons (k' := 982) rfl (lz_Ok_none _ _) ?_
  refine lz_cons (k' := 983) rfl (lk_iload X dL_law_982 rfl) ?_
  refine lz_cons (k' := 984) rfl (lz_Ok_none _ _) ?_
  refine lz_cons (k' := 985) rfl (lk_if_eq X dL_law_984 (by decide) rfl) ?_
  refine lz_cons (k' := 986) rfl (lz_Ok_none _ _) ?_
  refine lz_cons (k' := 987) rfl (lz_Ok_none _ _) ?_
  refine lz_cons (k' := 988) rfl (lk_iload X dL_law_987 rfl) ?_
  refine lz_cons (k' := 989) rfl (lz_Ok_none _ _) ?_
  refine lz_cons (k' := 990) rfl (lk_iload X dL_law_989 rfl) ?_
  refine lz_cons (k' := 991) rfl (lz_Ok_none _ _) ?_
  refine lz_cons (k' := 992) rfl (lk_iconst X dL_law_991 (by decide) rfl) ?_
  refine lz_cons (k' := 993) rfl (lk_iadd X dL_law_992 rfl) ?_
  refine lz_cons (k' := 994) rfl (lk_icmp_ne X dL_law_993 (by decide) rfl) ?_
  refine lz_cons (k' := 995) rfl (lz_Ok_none _ _) ?_
  refine lz_cons (k' := 996) rfl (lz_Ok_none _ _) ?_
  refine lz_cons (k' := 997) rfl (lk_aload_n X dL_law_996 rfl rfl) ?_
  refine lz_cons (k' := 998) rfl (lk_iload X dL_law_997 rfl) ?_
  refine lz_cons (k' := 999) rfl (lz_Ok_none _ _) ?_
  refine lz_cons (k' := 1000) rfl (lk_callv X kc_104 (mm_X11_phaseOf Wd.1) (by decide) dL_law_999 rfl) ?_
  refine lz_cons (k' := 1001) rfl (lz_Ok_none _ _) ?_
  refine lz_cons (k' := 1002) rfl (lz_Ok_none _ _) ?_
  refine lz_cons (k' := 1003) rfl (lk_iconst X dL_law_1002 (by decide) rfl) ?_
  refine lz_cons (k' := 1004) rfl (lk_iload X dL_law_1003 rfl) ?_
  refine lz_cons (k' := 1005) rfl (lz_Ok_none _ _) ?_
  refine lz_cons (k' := 1006) rfl (lk_bipush X dL_law_1005 (by decide) rfl) ?_
  refine lz_cons (k' := 1007) rfl (lz_Ok_none _ _) ?_
  refine lz_cons (k' := 1008) rfl (lk_idiv X dL_law_1007 rfl) ?_
  refine lz_cons (k' := 1009) rfl (lk_iconst X dL_law_1008 (by decide) rfl) ?_
  refine lz_cons (k' := 1010) rfl (lk_irem X dL_law_1009 rfl) ?_
  refine lz_cons (k' := 1011) rfl (lk_isub X dL_law_1010 rfl) ?_
  refine lz_cons (k' := 1012) rfl (lk_icmp_ne X dL_law_1011 (by decide) rfl) ?_
  refine lz_cons (k' := 1013) rfl (lz_Ok_none _ _) ?_
  refine lz_cons (k' := 1014) rfl (lz_Ok_none _ _) ?_
  refine lz_cons (k' := 1015) rfl (lk_iconst X dL_law_1014 (by decide) rfl) ?_
  refine lz_cons (k' := 1016) rfl (lk_goto X dL_law_1015 (by decide)) ?_
  refine lz_cons (k' := 1017) rfl (lz_Ok_none _ _) ?_
  refine lz_cons (k' := 1018) rfl (lz_Ok_none _ _) ?_
  refine lz_cons (k' := 1019) rfl (lk_iconst X dL_law_1018 (by decide) rfl) ?_
  refine lz_cons (k' := 1020) rfl (lk_goto X dL_law_1019 (by decide)) ?_
  refine lz_cons (k' := 1021) rfl (lz_Ok_none _ _) ?_
  refine lz_cons (k' := 1022) rfl (lz_Ok_none _ _) ?_
  refine lz_cons (k' := 1023) rfl (lk_iload X dL_law_1022 rfl) ?_
  refine lz_cons (k' := 1024) rfl (lz_Ok_none _ _) ?_
  refine lz_cons (k' := 1025) rfl (lk_sipush X dL_law_1024 (by decide) rfl) ?_
  refine lz_cons (k' := 1026) rfl (lz_Ok_none _ _) ?_
  refine lz_cons (k' := 1027) rfl (lz_Ok_none _ _) ?_
  refine lz_cons (k' := 1028) rfl (lk_icmp_ne X dL_law_1027 (by decide) rfl) ?_
  refine lz_cons (k' := 1029) rfl (lz_Ok_none _ _) ?_
  refine lz_cons (k' := 1030) rfl (lz_Ok_none _ _) ?_
  refine lz_cons (k' := 1031) rfl (lk_iconst X dL_law_1030 (by decide) rfl) ?_
  refine lz_cons (k' := 1032) rfl (lk_goto X dL_law_1031 (by decide)) ?_
  refine lz_cons (k' := 1033) rfl (lz_Ok_none _ _) ?_
  refine lz_cons (k' := 1034) rfl (lz_Ok_none _ _) ?_
  refine lz_cons (k' := 1035) rfl (lk_iconst X dL_law_1034 (by decide) rfl) ?_
  refine lz_cons (k' := 1036) rfl (lk_istore X dL_law_1035 (by decide) rfl) ?_
  refine lz_cons (k' := 1037) rfl (lz_Ok_none _ _) ?_
  refine lz_cons (k' := 1038) rfl (lk_goto X dL_law_1037 (by decide)) ?_
  refine lz_cons (k' := 1039) rfl (lz_Ok_none _ _) ?_
  refine lz_cons (k' := 1040) rfl (lz_Ok_none _ _) ?_
  refine lz_cons (k' := 1041) rfl (lk_iload X dL_law_1040 rfl) ?_
  refine lz_cons (k' := 1042) rfl (lz_Ok_none _ _) ?_
  refine lz_cons (k' := 1043) rfl (lk_bipush X dL_law_1042 (by decide) rfl) ?_
  refine lz_cons (k' := 1044) rfl (lz_Ok_none _ _) ?_
  refine lz_cons (k' := 1045) rfl (lk_icmp_ne X dL_law_1044 (by decide) rfl) ?_
  refine lz_cons (k' := 1046) rfl (lz_Ok_none _ _) ?_
  refine lz_cons (k' := 1047) rfl (lz_Ok_none _ _) ?_
  refine lz_cons (k' := 1048) rfl (lk_aload_n X dL_law_1047 rfl rfl) ?_
  refine lz_cons (k' := 1049) rfl (lk_calls X kl_185 (mm_L_isAtRest Wd) (by decide) dL_law_1048 rfl) ?_
  refine lz_cons (k' := 1050) rfl (lz_Ok_none _ _) ?_
  refine lz_cons (k' := 1051) rfl (lz_Ok_none _ _) ?_
  refine lz_cons (k' := 1052) rfl (lk_istore X dL_law_1051 (by decide) rfl) ?_
  refine lz_cons (k' := 1053) rfl (lz_Ok_none _ _) ?_
  refine lz_cons (k' := 1054) rfl (lk_goto X dL_law_1053 (by decide)) ?_
  refine lz_cons (k' := 1055) rfl (lz_Ok_none _ _) ?_
  refine lz_cons (k' := 1056) rfl (lz_Ok_none _ _) ?_
  refine lz_cons (k' := 1057) rfl (lk_iload X dL_law_1056 rfl) ?_
  refine lz_cons (k' := 1058) rfl (lz_Ok_none _ _) ?_
  refine lz_cons (k' := 1059) rfl (lk_bipush X dL_law_1058 (by decide) rfl) ?_
  refine lz_cons (k' := 1060) rfl (lz_Ok_none _ _) ?_
  refine lz_cons (k' := 1061) rfl (lk_icmp_ne X dL_law_1060 (by decide) rfl) ?_
  refine lz_cons (k' := 1062) rfl (lz_Ok_none _ _) ?_
  refine lz_cons (k' := 1063) rfl (lz_Ok_none _ _) ?_
  refine lz_cons (k' := 1064) rfl (lk_iload X dL_law_1063 rfl) ?_
  refine lz_cons (k' := 1065) rfl (lz_Ok_none _ _) ?_
  refine lz_cons (k' := 1066) rfl (lk_iconst X dL_law_1065 (by decide) rfl) ?_
  refine lz_cons (k' := 1067) rfl (lk_irem X dL_law_1066 rfl) ?_
  refine lz_cons (k' := 1068) rfl (lk_istore X dL_law_1067 (by decide) rfl) ?_
  refine lz_cons (k' := 1069) rfl (lz_Ok_none _ _) ?_
  refine lz_cons (k' := 1070) rfl (lk_aload_n X dL_law_1069 rfl rfl) ?_
  refine lz_cons (k' := 1071) rfl (lk_iload X dL_law_1070 rfl) ?_
  refine lz_cons (k' := 1072) rfl (lz_Ok_none _ _) ?_
  refine lz_cons (k' := 1073) rfl (lk_iald X Wd.2.2 dL_law_1072 rfl) ?_
  refine lz_cons (k' := 1074) rfl (lk_iload X dL_law_1073 rfl) ?_
  refine lz_cons (k' := 1075) rfl (lz_Ok_none _ _) ?_
  refine lz_cons (k' := 1076) rfl (lk_icmp_ge X dL_law_1075 (by decide) rfl) ?_
  refine lz_cons (k' := 1077) rfl (lz_Ok_none _ _) ?_
  refine lz_cons (k' := 1078) rfl (lz_Ok_none _ _) ?_
  refine lz_cons (k' := 1079) rfl (lk_sipush X dL_law_1078 (by decide) rfl) ?_
  refine lz_cons (k' := 1080) rfl (lz_Ok_none _ _) ?_
  refine lz_cons (k' := 1081) rfl (lz_Ok_none _ _) ?_
  refine lz_cons (k' := 1082) rfl (lk_goto X dL_law_1081 (by decide)) ?_
  refine lz_cons (k' := 1083) rfl (lz_Ok_none _ _) ?_
  refine lz_cons (k' := 1084) rfl (lz_Ok_none _ _) ?_
  refine lz_cons (k' := 1085) rfl (lk_aload_n X dL_law_1084 rfl rfl) ?_
  refine lz_cons (k' := 1086) rfl (lk_iload X dL_law_1085 rfl) ?_
  refine lz_cons (k' := 1087) rfl (lz_Ok_none _ _) ?_
  refine lz_cons (k' := 1088) rfl (lk_iald X Wd.2.2 dL_law_1087 rfl) ?_
  refine lz_cons (k' := 1089) rfl (lk_iload X dL_law_1088 rfl) ?_
  refine lz_cons (k' := 1090) rfl (lz_Ok_none _ _) ?_
  refine lz_cons (k' := 1091) rfl (lk_icmp_ne X dL_law_1090 (by decide) rfl) ?_
  refine lz_cons (k' := 1092) rfl (lz_Ok_none _ _) ?_
  refine lz_cons (k' := 1093) rfl (lz_Ok_none _ _) ?_
  refine lz_cons (k' := 1094) rfl (lk_iconst X dL_law_1093 (by decide) rfl) ?_
  refine lz_cons (k' := 1095) rfl (lk_goto X dL_law_1094 (by decide)) ?_
  refine lz_cons (k' := 1096) rfl (lz_Ok_none _ _) ?_
  refine lz_cons (k' := 1097) rfl (lz_Ok_none _ _) ?_
  refine lz_cons (k' := 1098) rfl (lk_aload_n X dL_law_1097 rfl rfl) ?_
  refine lz_cons (k' := 1099) rfl (lk_aload_n X dL_law_1098 rfl rfl) ?_
  refine lz_cons (k' := 1100) rfl (lk_iload X dL_law_1099 rfl) ?_
  refine lz_cons (k' := 1101) rfl (lz_Ok_none _ _) ?_
  refine lz_cons (k' := 1102) rfl (lk_iald X Wd.2.2 dL_law_1101 rfl) ?_
  refine lz_cons (k' := 1103) rfl (lk_iconst X dL_law_1102 (by decide) rfl) ?_
  refine lz_cons (k' := 1104) rfl (lk_iadd X dL_law_1103 rfl) ?_
  refine lz_cons (k' := 1105) rfl (lk_callv X kc_120 (mm_X11_objectOf Wd.1) (by decide) dL_law_1104 rfl) ?_
  refine lz_cons (k' := 1106) rfl (lz_Ok_none _ _) ?_
  refine lz_cons (k' := 1107) rfl (lz_Ok_none _ _) ?_
  refine lz_cons (k' := 1108) rfl (lk_istore X dL_law_1107 (by decide) rfl) ?_
  refine lz_cons (k' := 1109) rfl (lz_Ok_none _ _) ?_
  refine lz_cons (k' := 1110) rfl (lk_aload_n X dL_law_1109 rfl rfl) ?_
  refine lz_cons (k' := 1111) rfl (lk_bipush X dL_law_1110 (by decide) rfl) ?_
  refine lz_cons (k' := 1112) rfl (lz_Ok_none _ _) ?_
  refine lz_cons (k' := 1113) rfl (lk_iload X dL_law_1112 rfl) ?_
  refine lz_cons (k' := 1114) rfl (lz_Ok_none _ _) ?_
  refine lz_cons (k' := 1115) rfl (lk_iconst X dL_law_1114 (by decide) rfl) ?_
  refine lz_cons (k' := 1116) rfl (lk_iconst X dL_law_1115 (by decide) rfl) ?_
  refine lz_cons (k' := 1117) rfl (lk_iconst X dL_law_1116 (by decide) rfl) ?_
  refine lz_cons (k' := 1118) rfl (lk_iconst X dL_law_1117 (by decide) rfl) ?_
  refine lz_cons (k' := 1119) rfl (lk_iconst X dL_law_1118 (by decide) rfl) ?_
  refine lz_cons (k' := 1120) rfl (lk_calls X kl_168 (mm_L_act Wd) (by decide) dL_law_1119 rfl) ?_
  refine lz_cons (k' := 1121) rfl (lz_Ok_none _ _) ?_
  refine lz_cons (k' := 1122) rfl (lz_Ok_none _ _) ?_
  refine lz_cons (k' := 1123) rfl (lk_iload X dL_law_1122 rfl) ?_
  refine lz_cons (k' := 1124) rfl (lz_Ok_none _ _) ?_
  refine lz_cons (k' := 1125) rfl (lk_icmp_ne X dL_law_1124 (by decide) rfl) ?_
  refine lz_cons (k' := 1126) rfl (lz_Ok_none _ _) ?_
  refine lz_cons (k' := 1127) rfl (lz_Ok_none _ _) ?_
  refine lz_cons (k' := 1128) rfl (lk_iconst X dL_law_1127 (by decide) rfl) ?_
  refine lz_cons (k' := 1129) rfl (lk_goto X dL_law_1128 (by decide)) ?_
  refine lz_cons (k' := 1130) rfl (lz_Ok_none _ _) ?_
  refine lz_cons (k' := 1131) rfl (lz_Ok_none _ _) ?_
  refine lz_cons (k' := 1132) rfl (lk_iconst X dL_law_1131 (by decide) rfl) ?_
  refine lz_cons (k' := 1133) rfl (lk_istore X dL_law_1132 (by decide) rfl) ?_
  refine lz_cons (k' := 1134) rfl (lz_Ok_none _ _) ?_
  refine lz_cons (k' := 1135) rfl (lk_aload_n X dL_law_1134 rfl rfl) ?_
  refine lz_cons (k' := 1136) rfl (lk_iload X dL_law_1135 rfl) ?_
  refine lz_cons (k' := 1137) rfl (lz_Ok_none _ _) ?_
  refine lz_cons (k' := 1138) rfl (lk_dup2 X dL_law_1137 rfl) ?_
  refine lz_cons (k' := 1139) rfl (lk_iald X Wd.2.2 dL_law_1138 rfl) ?_
  refine lz_cons (k' := 1140) rfl (lk_iload X dL_law_1139 rfl) ?_
  refine lz_cons (k' := 1141) rfl (lz_Ok_none _ _) ?_
  refine lz_cons (k' := 1142) rfl (lk_if_lt X dL_law_1141 (by decide) rfl) ?_
  refine lz_cons (k' := 1143) rfl (lz_Ok_none _ _) ?_
  refine lz_cons (k' := 1144) rfl (lz_Ok_none _ _) ?_
  refine lz_cons (k' := 1145) rfl (lk_iconst X dL_law_1144 (by decide) rfl) ?_
  refine lz_cons (k' := 1146) rfl (lk_goto X dL_law_1145 (by decide)) ?_
  refine lz_cons (k' := 1147) rfl (lz_Ok_none _ _) ?_
  refine lz_cons (k' := 1148) rfl (lz_Ok_none _ _) ?_
  refine lz_cons (k' := 1149) rfl (lk_iconst X dL_law_1148 (by decide) rfl) ?_
  refine lz_cons (k' := 1150) rfl (lk_iadd X dL_law_1149 rfl) ?_
  refine lz_cons (k' := 1151) rfl (lk_iast X dL_law_1150 rfl) ?_
  refine lz_cons (k' := 1152) rfl (lk_goto X dL_law_1151 (by decide)) ?_
  refine lz_cons (k' := 1153) rfl (lz_Ok_none _ _) ?_
  refine lz_cons (k' := 1154) rfl (lz_Ok_none _ _) ?_
  refine lz_cons (k' := 1155) rfl (lk_iload X dL_law_1154 rfl) ?_
  refine lz_cons (k' := 1156) rfl (lz_Ok_none _ _) ?_
  refine lz_cons (k' := 1157) rfl (lk_bipush X dL_law_1156 (by decide) rfl) ?_
  refine lz_cons (k' := 1158) rfl (lz_Ok_none _ _) ?_
  refine lz_cons (k' := 1159) rfl (lk_icmp_ne X dL_law_1158 (by decide) rfl) ?_
  refine lz_cons (k' := 1160) rfl (lz_Ok_none _ _) ?_
  refine lz_cons (k' := 1161) rfl (lz_Ok_none _ _) ?_
  refine lz_cons (k' := 1162) rfl (lk_iload X dL_law_1161 rfl) ?_
  refine lz_cons (k' := 1163) rfl (lz_Ok_none _ _) ?_
  refine lz_cons (k' := 1164) rfl (lk_iconst X dL_law_1163 (by decide) rfl) ?_
  refine lz_cons (k' := 1165) rfl (lk_irem X dL_law_1164 rfl) ?_
  refine lz_cons (k' := 1166) rfl (lk_istore X dL_law_1165 (by decide) rfl) ?_
  refine lz_cons (k' := 1167) rfl (lz_Ok_none _ _) ?_
  refine lz_cons (k' := 1168) rfl (lk_iload X dL_law_1167 rfl) ?_
  refine lz_cons (k' := 1169) rfl (lz_Ok_none _ _) ?_
  refine lz_cons (k' := 1170) rfl (lk_iconst X dL_law_1169 (by decide) rfl) ?_
  refine lz_cons (k' := 1171) rfl (lk_idiv X dL_law_1170 rfl) ?_
  refine lz_cons (k' := 1172) rfl (lk_iload X dL_law_1171 rfl) ?_
  refine lz_cons (k' := 1173) rfl (lz_Ok_none _ _) ?_
  refine lz_cons (k' := 1174) rfl (lk_iconst X dL_law_1173 (by decide) rfl) ?_
  refine lz_cons (k' := 1175) rfl (lk_iadd X dL_law_1174 rfl) ?_
  refine lz_cons (k' := 1176) rfl (lk_irem X dL_law_1175 rfl) ?_
  refine lz_cons (k' := 1177) rfl (lk_istore X dL_law_1176 (by decide) rfl) ?_
  refine lz_cons (k' := 1178) rfl (lz_Ok_none _ _) ?_
  refine lz_cons (k' := 1179) rfl (lk_aload_n X dL_law_1178 rfl rfl) ?_
  refine lz_cons (k' := 1180) rfl (lk_bipush X dL_law_1179 (by decide) rfl) ?_
  refine lz_cons (k' := 1181) rfl (lz_Ok_none _ _) ?_
  refine lz_cons (k' := 1182) rfl (lk_iload X dL_law_1181 rfl) ?_
  refine lz_cons (k' := 1183) rfl (lz_Ok_none _ _) ?_
  refine lz_cons (k' := 1184) rfl (lk_iload X dL_law_1183 rfl) ?_
  refine lz_cons (k' := 1185) rfl (lz_Ok_none _ _) ?_
  refine lz_cons (k' := 1186) rfl (lk_iconst X dL_law_1185 (by decide) rfl) ?_
  refine lz_cons (k' := 1187) rfl (lk_iconst X dL_law_1186 (by decide) rfl) ?_
  refine lz_cons (k' := 1188) rfl (lk_iconst X dL_law_1187 (by decide) rfl) ?_
  refine lz_cons (k' := 1189) rfl (lk_iconst X dL_law_1188 (by decide) rfl) ?_
  refine lz_cons (k' := 1190) rfl (lk_calls X kl_168 (mm_L_act Wd) (by decide) dL_law_1189 rfl) ?_
  refine lz_cons (k' := 1191) rfl (lz_Ok_none _ _) ?_
  refine lz_cons (k' := 1192) rfl (lz_Ok_none _ _) ?_
  refine lz_cons (k' := 1193) rfl (lk_iload X dL_law_1192 rfl) ?_
  refine lz_cons (k' := 1194) rfl (lz_Ok_none _ _) ?_
  refine lz_cons (k' := 1195) rfl (lk_iload X dL_law_1194 rfl) ?_
  refine lz_cons (k' := 1196) rfl (lz_Ok_none _ _) ?_
  refine lz_cons (k' := 1197) rfl (lk_icmp_ge X dL_law_1196 (by decide) rfl) ?_
  refine lz_cons (k' := 1198) rfl (lz_Ok_none _ _) ?_
  refine lz_cons (k' := 1199) rfl (lz_Ok_none _ _) ?_
  refine lz_cons (k' := 1200) rfl (lk_sipush X dL_law_1199 (by decide) rfl) ?_
  refine lz_cons (k' := 1201) rfl (lz_Ok_none _ _) ?_
  refine lz_cons (k' := 1202) rfl (lz_Ok_none _ _) ?_
  refine lz_cons (k' := 1203) rfl (lk_goto X dL_law_1202 (by decide)) ?_
  refine lz_cons (k' := 1204) rfl (lz_Ok_none _ _) ?_
  refine lz_cons (k' := 1205) rfl (lz_Ok_none _ _) ?_
  refine lz_cons (k' := 1206) rfl (lk_iload X dL_law_1205 rfl) ?_
  refine lz_cons (k' := 1207) rfl (lz_Ok_none _ _) ?_
  refine lz_cons (k' := 1208) rfl (lk_iload X dL_law_1207 rfl) ?_
  refine lz_cons (k' := 1209) rfl (lz_Ok_none _ _) ?_
  refine lz_cons (k' := 1210) rfl (lk_isub X dL_law_1209 rfl) ?_
  refine lz_cons (k' := 1211) rfl (lk_icmp_ne X dL_law_1210 (by decide) rfl) ?_
  refine lz_cons (k' := 1212) rfl (lz_Ok_none _ _) ?_
  refine lz_cons (k' := 1213) rfl (lz_Ok_none _ _) ?_
  refine lz_cons (k' := 1214) rfl (lk_iconst X dL_law_1213 (by decide) rfl) ?_
  refine lz_cons (k' := 1215) rfl (lk_goto X dL_law_1214 (by decide)) ?_
  refine lz_cons (k' := 1216) rfl (lz_Ok_none _ _) ?_
  refine lz_cons (k' := 1217) rfl (lz_Ok_none _ _) ?_
  refine lz_cons (k' := 1218) rfl (lk_iconst X dL_law_1217 (by decide) rfl) ?_
  refine lz_cons (k' := 1219) rfl (lk_istore X dL_law_1218 (by decide) rfl) ?_
  refine lz_cons (k' := 1220) rfl (lz_Ok_none _ _) ?_
  refine lz_cons (k' := 1221) rfl (lk_aload_n X dL_law_1220 rfl rfl) ?_
  refine lz_cons (k' := 1222) rfl (lk_iload X dL_law_1221 rfl) ?_
  refine lz_cons (k' := 1223) rfl (lz_Ok_none _ _) ?_
  refine lz_cons (k' := 1224) rfl (lk_iload X dL_law_1223 rfl) ?_
  refine lz_cons (k' := 1225) rfl (lz_Ok_none _ _) ?_
  refine lz_cons (k' := 1226) rfl (lk_iload X dL_law_1225 rfl) ?_
  refine lz_cons (k' := 1227) rfl (lz_Ok_none _ _) ?_
  refine lz_cons (k' := 1228) rfl (lk_icmp_ge X dL_law_1227 (by decide) rfl) ?_
  refine lz_cons (k' := 1229) rfl (lz_Ok_none _ _) ?_
  refine lz_cons (k' := 1230) rfl (lz_Ok_none _ _) ?_
  refine lz_cons (k' := 1231) rfl (lk_aload_n X dL_law_1230 rfl rfl) ?_
  refine lz_cons (k' := 1232) rfl (lk_iload X dL_law_1231 rfl) ?_
  refine lz_cons (k' := 1233) rfl (lz_Ok_none _ _) ?_
  refine lz_cons (k' := 1234) rfl (lk_iald X Wd.2.2 dL_law_1233 rfl) ?_
  refine lz_cons (k' := 1235) rfl (lk_goto X dL_law_1234 (by decide)) ?_
  refine lz_cons (k' := 1236) rfl (lz_Ok_none _ _) ?_
  refine lz_cons (k' := 1237) rfl (lz_Ok_none _ _) ?_
  refine lz_cons (k' := 1238) rfl (lk_iload X dL_law_1237 rfl) ?_
  refine lz_cons (k' := 1239) rfl (lz_Ok_none _ _) ?_
  refine lz_cons (k' := 1240) rfl (lk_iast X dL_law_1239 rfl) ?_
  refine lz_cons (k' := 1241) rfl (lk_goto X dL_law_1240 (by decide)) ?_
  refine lz_cons (k' := 1242) rfl (lz_Ok_none _ _) ?_
  refine lz_cons (k' := 1243) rfl (lz_Ok_none _ _) ?_
  refine lz_cons (k' := 1244) rfl (lk_iload X dL_law_1243 rfl) ?_
  refine lz_cons (k' := 1245) rfl (lz_Ok_none _ _) ?_
  refine lz_cons (k' := 1246) rfl (lk_bipush X dL_law_1245 (by decide) rfl) ?_
  refine lz_cons (k' := 1247) rfl (lz_Ok_none _ _) ?_
  refine lz_cons (k' := 1248) rfl (lk_icmp_ne X dL_law_1247 (by decide) rfl) ?_
  refine lz_cons (k' := 1249) rfl (lz_Ok_none _ _) ?_
  refine lz_cons (k' := 1250) rfl (lz_Ok_none _ _) ?_
  refine lz_cons (k' := 1251) rfl (lk_iload X dL_law_1250 rfl) ?_
  refine lz_cons (k' := 1252) rfl (lz_Ok_none _ _) ?_
  refine lz_cons (k' := 1253) rfl (lk_iconst X dL_law_1252 (by decide) rfl) ?_
  refine lz_cons (k' := 1254) rfl (lk_irem X dL_law_1253 rfl) ?_
  refine lz_cons (k' := 1255) rfl (lk_if_ne X dL_law_1254 (by decide) rfl) ?_
  refine lz_cons (k' := 1256) rfl (lz_Ok_none _ _) ?_
  refine lz_cons (k' := 1257) rfl (lz_Ok_none _ _) ?_
  refine lz_cons (k' := 1258) rfl (lk_iload X dL_law_1257 rfl) ?_
  refine lz_cons (k' := 1259) rfl (lz_Ok_none _ _) ?_
  refine lz_cons (k' := 1260) rfl (lk_iconst X dL_law_1259 (by decide) rfl) ?_
  refine lz_cons (k' := 1261) rfl (lk_idiv X dL_law_1260 rfl) ?_
  refine lz_cons (k' := 1262) rfl (lk_iload X dL_law_1261 rfl) ?_
  refine lz_cons (k' := 1263) rfl (lz_Ok_none _ _) ?_
  refine lz_cons (k' := 1264) rfl (lk_iconst X dL_law_1263 (by decide) rfl) ?_
  refine lz_cons (k' := 1265) rfl (lk_iadd X dL_law_1264 rfl) ?_
  refine lz_cons (k' := 1266) rfl (lk_irem X dL_law_1265 rfl) ?_
  refine lz_cons (k' := 1267) rfl (lk_istore X dL_law_1266 (by decide) rfl) ?_
  refine lz_cons (k' := 1268) rfl (lz_Ok_none _ _) ?_
  refine lz_cons (k' := 1269) rfl (lk_iload X dL_law_1268 rfl) ?_
  refine lz_cons (k' := 1270) rfl (lz_Ok_none _ _) ?_
  refine lz_cons (k' := 1271) rfl (lk_iload X dL_law_1270 rfl) ?_
  refine lz_cons (k' := 1272) rfl (lz_Ok_none _ _) ?_
  refine lz_cons (k' := 1273) rfl (lk_icmp_le X dL_law_1272 (by decide) rfl) ?_
  refine lz_cons (k' := 1274) rfl (lz_Ok_none _ _) ?_
  refine lz_cons (k' := 1275) rfl (lz_Ok_none _ _) ?_
  refine lz_cons (k' := 1276) rfl (lk_iload X dL_law_1275 rfl) ?_
  refine lz_cons (k' := 1277) rfl (lz_Ok_none _ _) ?_
  refine lz_cons (k' := 1278) rfl (lk_goto X dL_law_1277 (by decide)) ?_
  refine lz_cons (k' := 1279) rfl (lz_Ok_none _ _) ?_
  refine lz_cons (k' := 1280) rfl (lz_Ok_none _ _) ?_
  refine lz_cons (k' := 1281) rfl (lk_iload X dL_law_1280 rfl) ?_
  refine lz_cons (k' := 1282) rfl (lz_Ok_none _ _) ?_
  refine lz_cons (k' := 1283) rfl (lk_istore X dL_law_1282 (by decide) rfl) ?_
  refine lz_cons (k' := 1284) rfl (lz_Ok_none _ _) ?_
  refine lz_cons (k' := 1285) rfl (lk_aload_n X dL_law_1284 rfl rfl) ?_
  refine lz_cons (k' := 1286) rfl (lk_bipush X dL_law_1285 (by decide) rfl) ?_
  refine lz_cons (k' := 1287) rfl (lz_Ok_none _ _) ?_
  refine lz_cons (k' := 1288) rfl (lk_iload X dL_law_1287 rfl) ?_
  refine lz_cons (k' := 1289) rfl (lz_Ok_none _ _) ?_
  refine lz_cons (k' := 1290) rfl (lk_iconst X dL_law_1289 (by decide) rfl) ?_
  refine lz_cons (k' := 1291) rfl (lk_iconst X dL_law_1290 (by decide) rfl) ?_
  refine lz_cons (k' := 1292) rfl (lk_iconst X dL_law_1291 (by decide) rfl) ?_
  refine lz_cons (k' := 1293) rfl (lk_iconst X dL_law_1292 (by decide) rfl) ?_
  refine lz_cons (k' := 1294) rfl (lk_iconst X dL_law_1293 (by decide) rfl) ?_
  refine lz_cons (k' := 1295) rfl (lk_calls X kl_168 (mm_L_act Wd) (by decide) dL_law_1294 rfl) ?_
  refine lz_cons (k' := 1296) rfl (lz_Ok_none _ _) ?_
  refine lz_cons (k' := 1297) rfl (lz_Ok_none _ _) ?_
  refine lz_cons (k' := 1298) rfl (lk_iload X dL_law_1297 rfl) ?_
  refine lz_cons (k' := 1299) rfl (lz_Ok_none _ _) ?_
  refine lz_cons (k' := 1300) rfl (lk_icmp_ne X dL_law_1299 (by decide) rfl) ?_
  refine lz_cons (k' := 1301) rfl (lz_Ok_none _ _) ?_
  refine lz_cons (k' := 1302) rfl (lz_Ok_none _ _) ?_
  refine lz_cons (k' := 1303) rfl (lk_iconst X dL_law_1302 (by decide) rfl) ?_
  refine lz_cons (k' := 1304) rfl (lk_goto X dL_law_1303 (by decide)) ?_
  refine lz_cons (k' := 1305) rfl (lz_Ok_none _ _) ?_
  refine lz_cons (k' := 1306) rfl (lz_Ok_none _ _) ?_
  refine lz_cons (k' := 1307) rfl (lk_iconst X dL_law_1306 (by decide) rfl) ?_
  refine lz_cons (k' := 1308) rfl (lk_istore X dL_law_1307 (by decide) rfl) ?_
  refine lz_cons (k' := 1309) rfl (lz_Ok_none _ _) ?_
  refine lz_cons (k' := 1310) rfl (lk_goto X dL_law_1309 (by decide)) ?_
  refine lz_cons (k' := 1311) rfl (lz_Ok_none _ _) ?_
  refine lz_cons (k' := 1312) rfl (lz_Ok_none _ _) ?_
  refine lz_cons (k' := 1313) rfl (lk_iload X dL_law_1312 rfl) ?_
  refine lz_cons (k' := 1314) rfl (lz_Ok_none _ _) ?_
  refine lz_cons (k' := 1315) rfl (lk_bipush X dL_law_1314 (by decide) rfl) ?_
  refine lz_cons (k' := 1316) rfl (lz_Ok_none _ _) ?_
  refine lz_cons (k' := 1317) rfl (lk_icmp_ne X dL_law_1316 (by decide) rfl) ?_
  refine lz_cons (k' := 1318) rfl (lz_Ok_none _ _) ?_
  refine lz_cons (k' := 1319) rfl (lz_Ok_none _ _) ?_
  refine lz_cons (k' := 1320) rfl (lk_iconst X dL_law_1319 (by decide) rfl) ?_
  refine lz_cons (k' := 1321) rfl (lk_istore X dL_law_1320 (by decide) rfl) ?_
  refine lz_cons (k' := 1322) rfl (lz_Ok_none _ _) ?_
  refine lz_cons (k' := 1323) rfl (lk_iconst X dL_law_1322 (by decide) rfl) ?_
  refine lz_cons (k' := 1324) rfl (lk_istore X dL_law_1323 (by decide) rfl) ?_
  refine lz_cons (k' := 1325) rfl (lz_Ok_none _ _) ?_
  refine lz_cons (k' := 1326) rfl (lk_iload X dL_law_1325 rfl) ?_
  refine lz_cons (k' := 1327) rfl (lz_Ok_none _ _) ?_
  refine lz_cons (k' := 1328) rfl (lk_iload X dL_law_1327 rfl) ?_
  refine lz_cons (k' := 1329) rfl (lz_Ok_none _ _) ?_
  refine lz_cons (k' := 1330) rfl (lk_icmp_ge X dL_law_1329 (by decide) rfl) ?_
  refine lz_cons (k' := 1331) rfl (lz_Ok_none _ _) ?_
  refine lz_cons (k' := 1332) rfl (lz_Ok_none _ _) ?_
  refine lz_cons (k' := 1333) rfl (lk_iload X dL_law_1332 rfl) ?_
  refine lz_cons (k' := 1334) rfl (lz_Ok_none _ _) ?_
  refine lz_cons (k' := 1335) rfl (lk_aload_n X dL_law_1334 rfl rfl) ?_
  refine lz_cons (k' := 1336) rfl (lk_iload X dL_law_1335 rfl) ?_
  refine lz_cons (k' := 1337) rfl (lz_Ok_none _ _) ?_
  refine lz_cons (k' := 1338) rfl (lk_callv X kc_98 (mm_X11_goingOf Wd.1) (by decide) dL_law_1337 rfl) ?_
  refine lz_cons (k' := 1339) rfl (lz_Ok_none _ _) ?_
  refine lz_cons (k' := 1340) rfl (lz_Ok_none _ _) ?_
  refine lz_cons (k' := 1341) rfl (lk_iconst X dL_law_1340 (by decide) rfl) ?_
  refine lz_cons (k' := 1342) rfl (lk_icmp_ge X dL_law_1341 (by decide) rfl) ?_
  refine lz_cons (k' := 1343) rfl (lz_Ok_none _ _) ?_
  refine lz_cons (k' := 1344) rfl (lz_Ok_none _ _) ?_
  refine lz_cons (k' := 1345) rfl (lk_iconst X dL_law_1344 (by decide) rfl) ?_
  refine lz_cons (k' := 1346) rfl (lk_goto X dL_law_1345 (by decide)) ?_
  refine lz_cons (k' := 1347) rfl (lz_Ok_none _ _) ?_
  refine lz_cons (k' := 1348) rfl (lz_Ok_none _ _) ?_
  refine lz_cons (k' := 1349) rfl (lk_iconst X dL_law_1348 (by decide) rfl) ?_
  refine lz_cons (k' := 1350) rfl (lk_iadd X dL_law_1349 rfl) ?_
  refine lz_cons (k' := 1351) rfl (lk_istore X dL_law_1350 (by decide) rfl) ?_
  refine lz_cons (k' := 1352) rfl (lz_Ok_none _ _) ?_
  refine lz_cons (k' := 1353) rfl (lk_iinc X dL_law_1352 (by decide) (by decide) rfl) ?_
  refine lz_cons (k' := 1354) rfl (lz_Ok_none _ _) ?_
  refine lz_cons (k' := 1355) rfl (lz_Ok_none _ _) ?_
  refine lz_cons (k' := 1356) rfl (lk_goto X dL_law_1355 (by decide)) ?_
  refine lz_cons (k' := 1357) rfl (lz_Ok_none _ _) ?_
  refine lz_cons (k' := 1358) rfl (lz_Ok_none _ _) ?_
  refine lz_cons (k' := 1359) rfl (lk_aload_n X dL_law_1358 rfl rfl) ?_
  refine lz_cons (k' := 1360) rfl (lk_bipush X dL_law_1359 (by decide) rfl) ?_
  refine lz_cons (k' := 1361) rfl (lz_Ok_none _ _) ?_
  refine lz_cons (k' := 1362) rfl (lk_iload X dL_law_1361 rfl) ?_
  refine lz_cons (k' := 1363) rfl (lz_Ok_none _ _) ?_
  refine lz_cons (k' := 1364) rfl (lk_iconst X dL_law_1363 (by decide) rfl) ?_
  refine lz_cons (k' := 1365) rfl (lk_irem X dL_law_1364 rfl) ?_
  refine lz_cons (k' := 1366) rfl (lk_iconst X dL_law_1365 (by decide) rfl) ?_
  refine lz_cons (k' := 1367) rfl (lk_iconst X dL_law_1366 (by decide) rfl) ?_
  refine lz_cons (k' := 1368) rfl (lk_iconst X dL_law_1367 (by decide) rfl) ?_
  refine lz_cons (k' := 1369) rfl (lk_iconst X dL_law_1368 (by decide) rfl) ?_
  refine lz_cons (k' := 1370) rfl (lk_iconst X dL_law_1369 (by decide) rfl) ?_
  refine lz_cons (k' := 1371) rfl (lk_calls X kl_168 (mm_L_act Wd) (by decide) dL_law_1370 rfl) ?_
  refine lz_cons (k' := 1372) rfl (lz_Ok_none _ _) ?_
  refine lz_cons (k' := 1373) rfl (lz_Ok_none _ _) ?_
  refine lz_cons (k' := 1374) rfl (lk_iload X dL_law_1373 rfl) ?_
  refine lz_cons (k' := 1375) rfl (lz_Ok_none _ _) ?_
  refine lz_cons (k' := 1376) rfl (lk_icmp_ne X dL_law_1375 (by decide) rfl) ?_
  refine lz_cons (k' := 1377) rfl (lz_Ok_none _ _) ?_
  refine lz_cons (k' := 1378) rfl (lz_Ok_none _ _) ?_
  refine lz_cons (k' := 1379) rfl (lk_iconst X dL_law_1378 (by decide) rfl) ?_
  refine lz_cons (k' := 1380) rfl (lk_goto X dL_law_1379 (by decide)) ?_
  refine lz_cons (k' := 1381) rfl (lz_Ok_none _ _) ?_
  refine lz_cons (k' := 1382) rfl (lz_Ok_none _ _) ?_
  refine lz_cons (k' := 1383) rfl (lk_iconst X dL_law_1382 (by decide) rfl) ?_
  refine lz_cons (k' := 1384) rfl (lk_istore X dL_law_1383 (by decide) rfl) ?_
  refine lz_cons (k' := 1385) rfl (lz_Ok_none _ _) ?_
  refine lz_cons (k' := 1386) rfl (lk_aload_n X dL_law_1385 rfl rfl) ?_
  refine lz_cons (k' := 1387) rfl (lk_iload X dL_law_1386 rfl) ?_
  refine lz_cons (k' := 1388) rfl (lz_Ok_none _ _) ?_
  refine lz_cons (k' := 1389) rfl (lk_iconst X dL_law_1388 (by decide) rfl) ?_
  refine lz_cons (k' := 1390) rfl (lk_irem X dL_law_1389 rfl) ?_
  refine lz_cons (k' := 1391) rfl (lk_iload X dL_law_1390 rfl) ?_
  refine lz_cons (k' := 1392) rfl (lz_Ok_none _ _) ?_
  refine lz_cons (k' := 1393) rfl (lk_iast X dL_law_1392 rfl) ?_
  refine lz_cons (k' := 1394) rfl (lk_goto X dL_law_1393 (by decide)) ?_
  refine lz_cons (k' := 1395) rfl (lz_Ok_none _ _) ?_
  refine lz_cons (k' := 1396) rfl (lz_Ok_none _ _) ?_
  refine lz_cons (k' := 1397) rfl (lk_iload X dL_law_1396 rfl) ?_
  refine lz_cons (k' := 1398) rfl (lz_Ok_none _ _) ?_
  refine lz_cons (k' := 1399) rfl (lk_bipush X dL_law_1398 (by decide) rfl) ?_
  refine lz_cons (k' := 1400) rfl (lz_Ok_none _ _) ?_
  refine lz_cons (k' := 1401) rfl (lk_icmp_ne X dL_law_1400 (by decide) rfl) ?_
  refine lz_cons (k' := 1402) rfl (lz_Ok_none _ _) ?_
  refine lz_cons (k' := 1403) rfl (lz_Ok_none _ _) ?_
  refine lz_cons (k' := 1404) rfl (lk_aload_n X dL_law_1403 rfl rfl) ?_
  refine lz_cons (k' := 1405) rfl (lk_bipush X dL_law_1404 (by decide) rfl) ?_
  refine lz_cons (k' := 1406) rfl (lz_Ok_none _ _) ?_
  refine lz_cons (k' := 1407) rfl (lk_iconst X dL_law_1406 (by decide) rfl) ?_
  refine lz_cons (k' := 1408) rfl (lk_iload X dL_law_1407 rfl) ?_
  refine lz_cons (k' := 1409) rfl (lz_Ok_none _ _) ?_
  refine lz_cons (k' := 1410) rfl (lk_bipush X dL_law_1409 (by decide) rfl) ?_
  refine lz_cons (k' := 1411) rfl (lz_Ok_none _ _) ?_
  refine lz_cons (k' := 1412) rfl (lk_irem X dL_law_1411 rfl) ?_
  refine lz_cons (k' := 1413) rfl (lk_iadd X dL_law_1412 rfl) ?_
  refine lz_cons (k' := 1414) rfl (lk_iconst X dL_law_1413 (by decide) rfl) ?_
  refine lz_cons (k' := 1415) rfl (lk_iconst X dL_law_1414 (by decide) rfl) ?_
  refine lz_cons (k' := 1416) rfl (lk_iconst X dL_law_1415 (by decide) rfl) ?_
  refine lz_cons (k' := 1417) rfl (lk_iconst X dL_law_1416 (by decide) rfl) ?_
  refine lz_cons (k' := 1418) rfl (lk_iconst X dL_law_1417 (by decide) rfl) ?_
  refine lz_cons (k' := 1419) rfl (lk_calls X kl_168 (mm_L_act Wd) (by decide) dL_law_1418 rfl) ?_
  refine lz_cons (k' := 1420) rfl (lz_Ok_none _ _) ?_
  refine lz_cons (k' := 1421) rfl (lz_Ok_none _ _) ?_
  refine lz_cons (k' := 1422) rfl (lk_if_le X dL_law_1421 (by decide) rfl) ?_
  refine lz_cons (k' := 1423) rfl (lz_Ok_none _ _) ?_
  refine lz_cons (k' := 1424) rfl (lz_Ok_none _ _) ?_
  refine lz_cons (k' := 1425) rfl (lk_aload_n X dL_law_1424 rfl rfl) ?_
  refine lz_cons (k' := 1426) rfl (lk_callv X kc_151 (mm_X11_version Wd.1) (by decide) dL_law_1425 rfl) ?_
  refine lz_cons (k' := 1427) rfl (lz_Ok_none _ _) ?_
  refine lz_cons (k' := 1428) rfl (lz_Ok_none _ _) ?_
  refine lz_cons (k' := 1429) rfl (lk_iload X dL_law_1428 rfl) ?_
  refine lz_cons (k' := 1430) rfl (lz_Ok_none _ _) ?_
  refine lz_cons (k' := 1431) rfl (lk_icmp_lt X dL_law_1430 (by decide) rfl) ?_
  refine lz_cons (k' := 1432) rfl (lz_Ok_none _ _) ?_
  refine lz_cons (k' := 1433) rfl (lz_Ok_none _ _) ?_
  refine lz_cons (k' := 1434) rfl (lk_iconst X dL_law_1433 (by decide) rfl) ?_
  refine lz_cons (k' := 1435) rfl (lk_goto X dL_law_1434 (by decide)) ?_
  refine lz_cons (k' := 1436) rfl (lz_Ok_none _ _) ?_
  refine lz_cons (k' := 1437) rfl (lz_Ok_none _ _) ?_
  refine lz_cons (k' := 1438) rfl (lk_iconst X dL_law_1437 (by decide) rfl) ?_
  refine lz_cons (k' := 1439) rfl (lk_istore X dL_law_1438 (by decide) rfl) ?_
  refine lz_cons (k' := 1440) rfl (lz_Ok_none _ _) ?_
  refine lz_cons (k' := 1441) rfl (lk_goto X dL_law_1440 (by decide)) ?_
  refine lz_cons (k' := 1442) rfl (lz_Ok_none _ _) ?_
  refine lz_cons (k' := 1443) rfl (lz_Ok_none _ _) ?_
  refine lz_cons (k' := 1444) rfl (lk_iload X dL_law_1443 rfl) ?_
  refine lz_cons (k' := 1445) rfl (lz_Ok_none _ _) ?_
  refine lz_cons (k' := 1446) rfl (lk_bipush X dL_law_1445 (by decide) rfl) ?_
  refine lz_cons (k' := 1447) rfl (lz_Ok_none _ _) ?_
  refine lz_cons (k' := 1448) rfl (lk_icmp_ne X dL_law_1447 (by decide) rfl) ?_
  refine lz_cons (k' := 1449) rfl (lz_Ok_none _ _) ?_
  refine lz_cons (k' := 1450) rfl (lz_Ok_none _ _) ?_
  refine lz_cons (k' := 1451) rfl (lk_iload X dL_law_1450 rfl) ?_
  refine lz_cons (k' := 1452) rfl (lz_Ok_none _ _) ?_
  refine lz_cons (k' := 1453) rfl (lk_iconst X dL_law_1452 (by decide) rfl) ?_
  refine lz_cons (k' := 1454) rfl (lk_icmp_ne X dL_law_1453 (by decide) rfl) ?_
  refine lz_cons (k' := 1455) rfl (lz_Ok_none _ _) ?_
  refine lz_cons (k' := 1456) rfl (lz_Ok_none _ _) ?_
  refine lz_cons (k' := 1457) rfl (lk_aload_n X dL_law_1456 rfl rfl) ?_
  refine lz_cons (k' := 1458) rfl (lk_iload X dL_law_1457 rfl) ?_
  refine lz_cons (k' := 1459) rfl (lz_Ok_none _ _) ?_
  refine lz_cons (k' := 1460) rfl (lk_callv X kc_98 (mm_X11_goingOf Wd.1) (by decide) dL_law_1459 rfl) ?_
  refine lz_cons (k' := 1461) rfl (lz_Ok_none _ _) ?_
  refine lz_cons (k' := 1462) rfl (lz_Ok_none _ _) ?_
  refine lz_cons (k' := 1463) rfl (lk_iconst X dL_law_1462 (by decide) rfl) ?_
  refine lz_cons (k' := 1464) rfl (lk_icmp_ne X dL_law_1463 (by decide) rfl) ?_
  refine lz_cons (k' := 1465) rfl (lz_Ok_none _ _) ?_
  refine lz_cons (k' := 1466) rfl (lz_Ok_none _ _) ?_
  refine lz_cons (k' := 1467) rfl (lk_iconst X dL_law_1466 (by decide) rfl) ?_
  refine lz_cons (k' := 1468) rfl (lk_goto X dL_law_1467 (by decide)) ?_
  refine lz_cons (k' := 1469) rfl (lz_Ok_none _ _) ?_
  refine lz_cons (k' := 1470) rfl (lz_Ok_none _ _) ?_
  refine lz_cons (k' := 1471) rfl (lk_iconst X dL_law_1470 (by decide) rfl) ?_
  refine lz_cons (k' := 1472) rfl (lk_istore X dL_law_1471 (by decide) rfl) ?_
  refine lz_cons (k' := 1473) rfl (lz_Ok_none _ _) ?_
  refine lz_cons (k' := 1474) rfl (lk_aload_n X dL_law_1473 rfl rfl) ?_
  refine lz_cons (k' := 1475) rfl (lk_iload X dL_law_1474 rfl) ?_
  refine lz_cons (k' := 1476) rfl (lz_Ok_none _ _) ?_
  refine lz_cons (k' := 1477) rfl (lk_callv X kc_110 (mm_X11_isReady Wd.1) (by decide) dL_law_1476 rfl) ?_
  refine lz_cons (k' := 1478) rfl (lz_Ok_none _ _) ?_
  refine lz_cons (k' := 1479) rfl (lz_Ok_none _ _) ?_
  refine lz_cons (k' := 1480) rfl (lk_if_eq X dL_law_1479 (by decide) rfl) ?_
  refine lz_cons (k' := 1481) rfl (lz_Ok_none _ _) ?_
  refine lz_cons (k' := 1482) rfl (lz_Ok_none _ _) ?_
  refine lz_cons (k' := 1483) rfl (lk_iconst X dL_law_1482 (by decide) rfl) ?_
  refine lz_cons (k' := 1484) rfl (lk_goto X dL_law_1483 (by decide)) ?_
  refine lz_cons (k' := 1485) rfl (lz_Ok_none _ _) ?_
  refine lz_cons (k' := 1486) rfl (lz_Ok_none _ _) ?_
  refine lz_cons (k' := 1487) rfl (lk_iconst X dL_law_1486 (by decide) rfl) ?_
  refine lz_cons (k' := 1488) rfl (lk_istore X dL_law_1487 (by decide) rfl) ?_
  refine lz_cons (k' := 1489) rfl (lz_Ok_none _ _) ?_
  refine lz_cons (k' := 1490) rfl (lk_aload_n X dL_law_1489 rfl rfl) ?_
  refine lz_cons (k' := 1491) rfl (lk_bipush X dL_law_1490 (by decide) rfl) ?_
  refine lz_cons (k' := 1492) rfl (lz_Ok_none _ _) ?_
  refine lz_cons (k' := 1493) rfl (lk_iload X dL_law_1492 rfl) ?_
  refine lz_cons (k' := 1494) rfl (lz_Ok_none _ _) ?_
  refine lz_cons (k' := 1495) rfl (lk_iconst X dL_law_1494 (by decide) rfl) ?_
  refine lz_cons (k' := 1496) rfl (lk_iconst X dL_law_1495 (by decide) rfl) ?_
  refine lz_cons (k' := 1497) rfl (lk_iconst X dL_law_1496 (by decide) rfl) ?_
  refine lz_cons (k' := 1498) rfl (lk_iconst X dL_law_1497 (by decide) rfl) ?_
  refine lz_cons (k' := 1499) rfl (lk_iconst X dL_law_1498 (by decide) rfl) ?_
  refine lz_cons (k' := 1500) rfl (lk_calls X kl_168 (mm_L_act Wd) (by decide) dL_law_1499 rfl) ?_
  refine lz_cons (k' := 1501) rfl (lz_Ok_none _ _) ?_
  refine lz_cons (k' := 1502) rfl (lz_Ok_none _ _) ?_
  refine lz_cons (k' := 1503) rfl (lk_iload X dL_law_1502 rfl) ?_
  refine lz_cons (k' := 1504) rfl (lz_Ok_none _ _) ?_
  refine lz_cons (k' := 1505) rfl (lk_if_eq X dL_law_1504 (by decide) rfl) ?_
  refine lz_cons (k' := 1506) rfl (lz_Ok_none _ _) ?_
  refine lz_cons (k' := 1507) rfl (lz_Ok_none _ _) ?_
  refine lz_cons (k' := 1508) rfl (lk_sipush X dL_law_1507 (by decide) rfl) ?_
  refine lz_cons (k' := 1509) rfl (lz_Ok_none _ _) ?_
  refine lz_cons (k' := 1510) rfl (lz_Ok_none _ _) ?_
  refine lz_cons (k' := 1511) rfl (lk_goto X dL_law_1510 (by decide)) ?_
  refine lz_cons (k' := 1512) rfl (lz_Ok_none _ _) ?_
  refine lz_cons (k' := 1513) rfl (lz_Ok_none _ _) ?_
  refine lz_cons (k' := 1514) rfl (lk_iload X dL_law_1513 rfl) ?_
  refine lz_cons (k' := 1515) rfl (lz_Ok_none _ _) ?_
  refine lz_cons (k' := 1516) rfl (lk_icmp_ne X dL_law_1515 (by decide) rfl) ?_
  refine lz_cons (k' := 1517) rfl (lz_Ok_none _ _) ?_
  refine lz_cons (k' := 1518) rfl (lz_Ok_none _ _) ?_
  refine lz_cons (k' := 1519) rfl (lk_iload X dL_law_1518 rfl) ?_
  refine lz_cons (k' := 1520) rfl (lz_Ok_none _ _) ?_
  refine lz_cons (k' := 1521) rfl (lk_if_ne X dL_law_1520 (by decide) rfl) ?_
  refine lz_cons (k' := 1522) rfl (lz_Ok_none _ _) ?_
  refine lz_cons (k' := 1523) rfl (lz_Ok_none _ _) ?_
  refine lz_cons (k' := 1524) rfl (lk_aload_n X dL_law_1523 rfl rfl) ?_
  refine lz_cons (k' := 1525) rfl (lk_iload X dL_law_1524 rfl) ?_
  refine lz_cons (k' := 1526) rfl (lz_Ok_none _ _) ?_
  refine lz_cons (k' := 1527) rfl (lk_callv X kc_110 (mm_X11_isReady Wd.1) (by decide) dL_law_1526 rfl) ?_
  refine lz_cons (k' := 1528) rfl (lz_Ok_none _ _) ?_
  refine lz_cons (k' := 1529) rfl (lz_Ok_none _ _) ?_
  refine lz_cons (k' := 1530) rfl (lk_if_eq X dL_law_1529 (by decide) rfl) ?_
  refine lz_cons (k' := 1531) rfl (lz_Ok_none _ _) ?_
  refine lz_cons (k' := 1532) rfl (lz_Ok_none _ _) ?_
  refine lz_cons (k' := 1533) rfl (lk_aload_n X dL_law_1532 rfl rfl) ?_
  refine lz_cons (k' := 1534) rfl (lk_callv X kc_151 (mm_X11_version Wd.1) (by decide) dL_law_1533 rfl) ?_
  refine lz_cons (k' := 1535) rfl (lz_Ok_none _ _) ?_
  refine lz_cons (k' := 1536) rfl (lz_Ok_none _ _) ?_
  refine lz_cons (k' := 1537) rfl (lk_iload X dL_law_1536 rfl) ?_
  refine lz_cons (k' := 1538) rfl (lz_Ok_none _ _) ?_
  refine lz_cons (k' := 1539) rfl (lk_iload X dL_law_1538 rfl) ?_
  refine lz_cons (k' := 1540) rfl (lz_Ok_none _ _) ?_
  refine lz_cons (k' := 1541) rfl (lk_if_ne X dL_law_1540 (by decide) rfl) ?_
  refine lz_cons (k' := 1542) rfl (lz_Ok_none _ _) ?_
  refine lz_cons (k' := 1543) rfl (lz_Ok_none _ _) ?_
  refine lz_cons (k' := 1544) rfl (lk_iload X dL_law_1543 rfl) ?_
  refine lz_cons (k' := 1545) rfl (lz_Ok_none _ _) ?_
  refine lz_cons (k' := 1546) rfl (lk_iconst X dL_law_1545 (by decide) rfl) ?_
  refine lz_cons (k' := 1547) rfl (lk_icmp_ne X dL_law_1546 (by decide) rfl) ?_
  refine lz_cons (k' := 1548) rfl (lz_Ok_none _ _) ?_
  refine lz_cons (k' := 1549) rfl (lz_Ok_none _ _) ?_
  refine lz_cons (k' := 1550) rfl (lk_iconst X dL_law_1549 (by decide) rfl) ?_
  refine lz_cons (k' := 1551) rfl (lk_goto X dL_law_1550 (by decide)) ?_
  refine lz_cons (k' := 1552) rfl (lz_Ok_none _ _) ?_
  refine lz_cons (k' := 1553) rfl (lz_Ok_none _ _) ?_
  refine lz_cons (k' := 1554) rfl (lk_iconst X dL_law_1553 (by decide) rfl) ?_
  refine lz_cons (k' := 1555) rfl (lk_iadd X dL_law_1554 rfl) ?_
  refine lz_cons (k' := 1556) rfl (lk_icmp_ne X dL_law_1555 (by decide) rfl) ?_
  refine lz_cons (k' := 1557) rfl (lz_Ok_none _ _) ?_
  refine lz_cons (k' := 1558) rfl (lz_Ok_none _ _) ?_
  refine lz_cons (k' := 1559) rfl (lk_iconst X dL_law_1558 (by decide) rfl) ?_
  refine lz_cons (k' := 1560) rfl (lk_goto X dL_law_1559 (by decide)) ?_
  refine lz_cons (k' := 1561) rfl (lz_Ok_none _ _) ?_
  refine lz_cons (k' := 1562) rfl (lz_Ok_none _ _) ?_
  refine lz_cons (k' := 1563) rfl (lk_iconst X dL_law_1562 (by decide) rfl) ?_
  refine lz_cons (k' := 1564) rfl (lk_istore X dL_law_1563 (by decide) rfl) ?_
  refine lz_cons (k' := 1565) rfl (lz_Ok_none _ _) ?_
  refine lz_cons (k' := 1566) rfl (lk_goto X dL_law_1565 (by decide)) ?_
  refine lz_cons (k' := 1567) rfl (lz_Ok_none _ _) ?_
  refine lz_cons (k' := 1568) rfl (lz_Ok_none _ _) ?_
  refine lz_cons (k' := 1569) rfl (lk_iload X dL_law_1568 rfl) ?_
  refine lz_cons (k' := 1570) rfl (lz_Ok_none _ _) ?_
  refine lz_cons (k' := 1571) rfl (lk_bipush X dL_law_1570 (by decide) rfl) ?_
  refine lz_cons (k' := 1572) rfl (lz_Ok_none _ _) ?_
  refine lz_cons (k' := 1573) rfl (lk_icmp_ge X dL_law_1572 (by decide) rfl) ?_
  refine lz_cons (k' := 1574) rfl (lz_Ok_none _ _) ?_
  refine lz_cons (k' := 1575) rfl (lz_Ok_none _ _) ?_
  refine lz_cons (k' := 1576) rfl (lk_iload X dL_law_1575 rfl) ?_
  refine lz_cons (k' := 1577) rfl (lz_Ok_none _ _) ?_
  refine lz_cons (k' := 1578) rfl (lk_bipush X dL_law_1577 (by decide) rfl) ?_
  refine lz_cons (k' := 1579) rfl (lz_Ok_none _ _) ?_
  refine lz_cons (k' := 1580) rfl (lk_irem X dL_law_1579 rfl) ?_
  refine lz_cons (k' := 1581) rfl (lk_istore X dL_law_1580 (by decide) rfl) ?_
  refine lz_cons (k' := 1582) rfl (lz_Ok_none _ _) ?_
  refine lz_cons (k' := 1583) rfl (lk_aload_n X dL_law_1582 rfl rfl) ?_
  refine lz_cons (k' := 1584) rfl (lk_iload X dL_law_1583 rfl) ?_
  refine lz_cons (k' := 1585) rfl (lz_Ok_none _ _) ?_
  refine lz_cons (k' := 1586) rfl (lk_callv X kc_123 (mm_X11_seen Wd.1) (by decide) dL_law_1585 rfl) ?_
  refine lz_cons (k' := 1587) rfl (lz_Ok_none _ _) ?_
  refine lz_cons (k' := 1588) rfl (lz_Ok_none _ _) ?_
  refine lz_cons (k' := 1589) rfl (lk_istore X dL_law_1588 (by decide) rfl) ?_
  refine lz_cons (k' := 1590) rfl (lz_Ok_none _ _) ?_
  refine lz_cons (k' := 1591) rfl (lk_aload_n X dL_law_1590 rfl rfl) ?_
  refine lz_cons (k' := 1592) rfl (lk_bipush X dL_law_1591 (by decide) rfl) ?_
  refine lz_cons (k' := 1593) rfl (lz_Ok_none _ _) ?_
  refine lz_cons (k' := 1594) rfl (lk_iload X dL_law_1593 rfl) ?_
  refine lz_cons (k' := 1595) rfl (lz_Ok_none _ _) ?_
  refine lz_cons (k' := 1596) rfl (lk_iconst X dL_law_1595 (by decide) rfl) ?_
  refine lz_cons (k' := 1597) rfl (lk_iload X dL_law_1596 rfl) ?_
  refine lz_cons (k' := 1598) rfl (lz_Ok_none _ _) ?_
  refine lz_cons (k' := 1599) rfl (lk_bipush X dL_law_1598 (by decide) rfl) ?_
  refine lz_cons (k' := 1600) rfl (lz_Ok_none _ _) ?_
  refine lz_cons (k' := 1601) rfl (lk_idiv X dL_law_1600 rfl) ?_
  refine lz_cons (k' := 1602) rfl (lk_bipush X dL_law_1601 (by decide) rfl) ?_
  refine lz_cons (k' := 1603) rfl (lz_Ok_none _ _) ?_
  refine lz_cons (k' := 1604) rfl (lk_irem X dL_law_1603 rfl) ?_
  refine lz_cons (k' := 1605) rfl (lk_iadd X dL_law_1604 rfl) ?_
  refine lz_cons (k' := 1606) rfl (lk_iconst X dL_law_1605 (by decide) rfl) ?_
  refine lz_cons (k' := 1607) rfl (lk_iconst X dL_law_1606 (by decide) rfl) ?_
  refine lz_cons (k' := 1608) rfl (lk_iconst X dL_law_1607 (by decide) rfl) ?_
  refine lz_cons (k' := 1609) rfl (lk_iconst X dL_law_1608 (by decide) rfl) ?_
  refine lz_cons (k' := 1610) rfl (lk_calls X kl_168 (mm_L_act Wd) (by decide) dL_law_1609 rfl) ?_
  refine lz_cons (k' := 1611) rfl (lz_Ok_none _ _) ?_
  refine lz_cons (k' := 1612) rfl (lz_Ok_none _ _) ?_
  refine lz_cons (k' := 1613) rfl (lk_istore X dL_law_1612 (by decide) rfl) ?_
  refine lz_cons (k' := 1614) rfl (lz_Ok_none _ _) ?_
  refine lz_cons (k' := 1615) rfl (lk_iload X dL_law_1614 rfl) ?_
  refine lz_cons (k' := 1616) rfl (lz_Ok_none _ _) ?_
  refine lz_cons (k' := 1617) rfl (lk_if_lt X dL_law_1616 (by decide) rfl) ?_
  refine lz_cons (k' := 1618) rfl (lz_Ok_none _ _) ?_
  refine lz_cons (k' := 1619) rfl (lz_Ok_none _ _) ?_
  refine lz_cons (k' := 1620) rfl (lk_iload X dL_law_1619 rfl) ?_
  refine lz_cons (k' := 1621) rfl (lz_Ok_none _ _) ?_
  refine lz_cons (k' := 1622) rfl (lk_iload X dL_law_1621 rfl) ?_
  refine lz_cons (k' := 1623) rfl (lz_Ok_none _ _) ?_
  refine lz_cons (k' := 1624) rfl (lk_icmp_ge X dL_law_1623 (by decide) rfl) ?_
  refine lz_cons (k' := 1625) rfl (lz_Ok_none _ _) ?_
  refine lz_cons (k' := 1626) rfl (lz_Ok_none _ _) ?_
  refine lz_cons (k' := 1627) rfl (lk_aload_n X dL_law_1626 rfl rfl) ?_
  refine lz_cons (k' := 1628) rfl (lk_iload X dL_law_1627 rfl) ?_
  refine lz_cons (k' := 1629) rfl (lz_Ok_none _ _) ?_
  refine lz_cons (k' := 1630) rfl (lk_callv X kc_123 (mm_X11_seen Wd.1) (by decide) dL_law_1629 rfl) ?_
  refine lz_cons (k' := 1631) rfl (lz_Ok_none _ _) ?_
  refine lz_cons (k' := 1632) rfl (lz_Ok_none _ _) ?_
  refine lz_cons (k' := 1633) rfl (lk_iload X dL_law_1632 rfl) ?_
  refine lz_cons (k' := 1634) rfl (lz_Ok_none _ _) ?_
  refine lz_cons (k' := 1635) rfl (lk_icmp_ne X dL_law_1634 (by decide) rfl) ?_
  refine lz_cons (k' := 1636) rfl (lz_Ok_none _ _) ?_
  refine lz_cons (k' := 1637) rfl (lz_Ok_none _ _) ?_
  refine lz_cons (k' := 1638) rfl (lk_goto X dL_law_1637 (by decide)) ?_
  refine lz_cons (k' := 1639) rfl (lz_Ok_none _ _) ?_
  refine lz_cons (k' := 1640) rfl (lz_Ok_none _ _) ?_
  refine lz_cons (k' := 1641) rfl (lk_aload_n X dL_law_1640 rfl rfl) ?_
  refine lz_cons (k' := 1642) rfl (lk_iload X dL_law_1641 rfl) ?_
  refine lz_cons (k' := 1643) rfl (lz_Ok_none _ _) ?_
  refine lz_cons (k' := 1644) rfl (lk_callv X kc_123 (mm_X11_seen Wd.1) (by decide) dL_law_1643 rfl) ?_
  refine lz_cons (k' := 1645) rfl (lz_Ok_none _ _) ?_
  refine lz_cons (k' := 1646) rfl (lz_Ok_none _ _) ?_
  refine lz_cons (k' := 1647) rfl (lk_iload X dL_law_1646 rfl) ?_
  refine lz_cons (k' := 1648) rfl (lz_Ok_none _ _) ?_
  refine lz_cons (k' := 1649) rfl (lk_iconst X dL_law_1648 (by decide) rfl) ?_
  refine lz_cons (k' := 1650) rfl (lk_iadd X dL_law_1649 rfl) ?_
  refine lz_cons (k' := 1651) rfl (lk_iload X dL_law_1650 rfl) ?_
  refine lz_cons (k' := 1652) rfl (lz_Ok_none _ _) ?_
  refine lz_cons (k' := 1653) rfl (lk_bipush X dL_law_1652 (by decide) rfl) ?_
  refine lz_cons (k' := 1654) rfl (lz_Ok_none _ _) ?_
  refine lz_cons (k' := 1655) rfl (lk_idiv X dL_law_1654 rfl) ?_
  refine lz_cons (k' := 1656) rfl (lk_bipush X dL_law_1655 (by decide) rfl) ?_
  refine lz_cons (k' := 1657) rfl (lz_Ok_none _ _) ?_
  refine lz_cons (k' := 1658) rfl (lk_irem X dL_law_1657 rfl) ?_
  refine lz_cons (k' := 1659) rfl (lk_iadd X dL_law_1658 rfl) ?_
  refine lz_cons (k' := 1660) rfl (lk_iload X dL_law_1659 rfl) ?_
  refine lz_cons (k' := 1661) rfl (lz_Ok_none _ _) ?_
  refine lz_cons (k' := 1662) rfl (lk_icmp_ge X dL_law_1661 (by decide) rfl) ?_
  refine lz_cons (k' := 1663) rfl (lz_Ok_none _ _) ?_
  refine lz_cons (k' := 1664) rfl (lz_Ok_none _ _) ?_
  refine lz_cons (k' := 1665) rfl (lk_iload X dL_law_1664 rfl) ?_
  refine lz_cons (k' := 1666) rfl (lz_Ok_none _ _) ?_
  refine lz_cons (k' := 1667) rfl (lk_iconst X dL_law_1666 (by decide) rfl) ?_
  refine lz_cons (k' := 1668) rfl (lk_iadd X dL_law_1667 rfl) ?_
  refine lz_cons (k' := 1669) rfl (lk_iload X dL_law_1668 rfl) ?_
  refine lz_cons (k' := 1670) rfl (lz_Ok_none _ _) ?_
  refine lz_cons (k' := 1671) rfl (lk_bipush X dL_law_1670 (by decide) rfl) ?_
  refine lz_cons (k' := 1672) rfl (lz_Ok_none _ _) ?_
  refine lz_cons (k' := 1673) rfl (lk_idiv X dL_law_1672 rfl) ?_
  refine lz_cons (k' := 1674) rfl (lk_bipush X dL_law_1673 (by decide) rfl) ?_
  refine lz_cons (k' := 1675) rfl (lz_Ok_none _ _) ?_
  refine lz_cons (k' := 1676) rfl (lk_irem X dL_law_1675 rfl) ?_
  refine lz_cons (k' := 1677) rfl (lk_iadd X dL_law_1676 rfl) ?_
  refine lz_cons (k' := 1678) rfl (lk_goto X dL_law_1677 (by decide)) ?_
  refine lz_cons (k' := 1679) rfl (lz_Ok_none _ _) ?_
  refine lz_cons (k' := 1680) rfl (lz_Ok_none _ _) ?_
  refine lz_cons (k' := 1681) rfl (lk_iload X dL_law_1680 rfl) ?_
  refine lz_cons (k' := 1682) rfl (lz_Ok_none _ _) ?_
  refine lz_cons (k' := 1683) rfl (lk_icmp_ne X dL_law_1682 (by decide) rfl) ?_
  refine lz_cons (k' := 1684) rfl (lz_Ok_none _ _) ?_
  refine lz_cons (k' := 1685) rfl (lz_Ok_none _ _) ?_
  refine lz_cons (k' := 1686) rfl (lk_aload_n X dL_law_1685 rfl rfl) ?_
  refine lz_cons (k' := 1687) rfl (lk_callv X kc_151 (mm_X11_version Wd.1) (by decide) dL_law_1686 rfl) ?_
  refine lz_cons (k' := 1688) rfl (lz_Ok_none _ _) ?_
  refine lz_cons (k' := 1689) rfl (lz_Ok_none _ _) ?_
  refine lz_cons (k' := 1690) rfl (lk_iload X dL_law_1689 rfl) ?_
  refine lz_cons (k' := 1691) rfl (lz_Ok_none _ _) ?_
  refine lz_cons (k' := 1692) rfl (lk_icmp_ne X dL_law_1691 (by decide) rfl) ?_
  refine lz_cons (k' := 1693) rfl (lz_Ok_none _ _) ?_
  refine lz_cons (k' := 1694) rfl (lz_Ok_none _ _) ?_
  refine lz_cons (k' := 1695) rfl (lk_iconst X dL_law_1694 (by decide) rfl) ?_
  refine lz_cons (k' := 1696) rfl (lk_goto X dL_law_1695 (by decide)) ?_
  refine lz_cons (k' := 1697) rfl (lz_Ok_none _ _) ?_
  refine lz_cons (k' := 1698) rfl (lz_Ok_none _ _) ?_
  refine lz_cons (k' := 1699) rfl (lk_iconst X dL_law_1698 (by decide) rfl) ?_
  refine lz_cons (k' := 1700) rfl (lk_istore X dL_law_1699 (by decide) rfl) ?_
  refine lz_cons (k' := 1701) rfl (lz_Ok_none _ _) ?_
  refine lz_cons (k' := 1702) rfl (lk_goto X dL_law_1701 (by decide)) ?_
  refine lz_cons (k' := 1703) rfl (lz_Ok_none _ _) ?_
  refine lz_cons (k' := 1704) rfl (lz_Ok_none _ _) ?_
  refine lz_cons (k' := 1705) rfl (lk_aload_n X dL_law_1704 rfl rfl) ?_
  refine lz_cons (k' := 1706) rfl (lk_iload X dL_law_1705 rfl) ?_
  refine lz_cons (k' := 1707) rfl (lz_Ok_none _ _) ?_
  refine lz_cons (k' := 1708) rfl (lk_bipush X dL_law_1707 (by decide) rfl) ?_
  refine lz_cons (k' := 1709) rfl (lz_Ok_none _ _) ?_
  refine lz_cons (k' := 1710) rfl (lk_irem X dL_law_1709 rfl) ?_
  refine lz_cons (k' := 1711) rfl (lk_calls X kl_189 (mm_L_isWorked Wd) (by decide) dL_law_1710 rfl) ?_
  refine lz_cons (k' := 1712) rfl (lz_Ok_none _ _) ?_
  refine lz_cons (k' := 1713) rfl (lz_Ok_none _ _) ?_
  refine lz_cons (k' := 1714) rfl (lk_istore X dL_law_1713 (by decide) rfl) ?_
  refine lz_cons (k' := 1715) rfl (lz_Ok_none _ _) ?_
  refine lz_cons (k' := 1716) rfl (lk_iload X dL_law_1715 rfl) ?_
  refine lz_cons (k' := 1717) rfl (lz_Ok_none _ _) ?_
  refine lz_cons (k' := 1718) rfl (lk_if_eq X dL_law_1717 (by decide) rfl) ?_
  refine lz_cons (k' := 1719) rfl (lz_Ok_none _ _) ?_
  refine lz_cons (k' := 1720) rfl (lz_Ok_none _ _) ?_
  refine lz_cons (k' := 1721) rfl (lk_iload X dL_law_1720 rfl) ?_
  refine lz_cons (k' := 1722) rfl (lz_Ok_none _ _) ?_
  refine lz_cons (k' := 1723) rfl (lk_iconst X dL_law_1722 (by decide) rfl) ?_
  refine lz_cons (k' := 1724) rfl (lk_irem X dL_law_1723 rfl) ?_
  refine lz_cons (k' := 1725) rfl (lk_if_gt X dL_law_1724 (by decide) rfl) ?_
  refine lz_cons (k' := 1726) rfl (lz_Ok_none _ _) ?_
  refine lz_cons (k' := 1727) rfl (lz_Ok_none _ _) ?_
  refine lz_cons (k' := 1728) rfl (lk_aload_n X dL_law_1727 rfl rfl) ?_
  refine lz_cons (k' := 1729) rfl (lk_aload_n X dL_law_1728 rfl rfl) ?_
  refine lz_cons (k' := 1730) rfl (lk_calls X kl_192 (mm_L_areVersions Wd) (by decide) dL_law_1729 rfl) ?_
  refine lz_cons (k' := 1731) rfl (lz_Ok_none _ _) ?_
  refine lz_cons (k' := 1732) rfl (lz_Ok_none _ _) ?_
  refine lz_cons (k' := 1733) rfl (lk_if_eq X dL_law_1732 (by decide) rfl) ?_
  refine lz_cons (k' := 1734) rfl (lz_Ok_none _ _) ?_
  refine lz_cons (k' := 1735) rfl (lz_Ok_none _ _) ?_
  refine lz_cons (k' := 1736) rfl (lk_aload_n X dL_law_1735 rfl rfl) ?_
  refine lz_cons (k' := 1737) rfl (lk_calls X kl_196 (mm_L_areObjects Wd) (by decide) dL_law_1736 rfl) ?_
  refine lz_cons (k' := 1738) rfl (lz_Ok_none _ _) ?_
  refine lz_cons (k' := 1739) rfl (lz_Ok_none _ _) ?_
  refine lz_cons (k' := 1740) rfl (lk_if_eq X dL_law_1739 (by decide) rfl) ?_
  refine lz_cons (k' := 1741) rfl (lz_Ok_none _ _) ?_
  refine lz_cons (k' := 1742) rfl (lz_Ok_none _ _) ?_
  refine lz_cons (k' := 1743) rfl (lk_iload X dL_law_1742 rfl) ?_
  refine lz_cons (k' := 1744) rfl (lz_Ok_none _ _) ?_
  refine lz_cons (k' := 1745) rfl (lk_iconst X dL_law_1744 (by decide) rfl) ?_
  refine lz_cons (k' := 1746) rfl (lk_irem X dL_law_1745 rfl) ?_
  refine lz_cons (k' := 1747) rfl (lk_if_gt X dL_law_1746 (by decide) rfl) ?_
  refine lz_cons (k' := 1748) rfl (lz_Ok_none _ _) ?_
  refine lz_cons (k' := 1749) rfl (lz_Ok_none _ _) ?_
  refine lz_cons (k' := 1750) rfl (lk_aload_n X dL_law_1749 rfl rfl) ?_
  refine lz_cons (k' := 1751) rfl (lk_calls X kl_199 (mm_L_areQueues Wd) (by decide) dL_law_1750 rfl) ?_
  refine lz_cons (k' := 1752) rfl (lz_Ok_none _ _) ?_
  refine lz_cons (k' := 1753) rfl (lz_Ok_none _ _) ?_
  refine lz_cons (k' := 1754) rfl (lk_if_eq X dL_law_1753 (by decide) rfl) ?_
  refine lz_cons (k' := 1755) rfl (lz_Ok_none _ _) ?_
  refine lz_cons (k' := 1756) rfl (lz_Ok_none _ _) ?_
  refine lz_cons (k' := 1757) rfl (lk_iload X dL_law_1756 rfl) ?_
  refine lz_cons (k' := 1758) rfl (lz_Ok_none _ _) ?_
  refine lz_cons (k' := 1759) rfl (lk_bipush X dL_law_1758 (by decide) rfl) ?_
  refine lz_cons (k' := 1760) rfl (lz_Ok_none _ _) ?_
  refine lz_cons (k' := 1761) rfl (lk_irem X dL_law_1760 rfl) ?_
  refine lz_cons (k' := 1762) rfl (lk_if_gt X dL_law_1761 (by decide) rfl) ?_
  refine lz_cons (k' := 1763) rfl (lz_Ok_none _ _) ?_
  refine lz_cons (k' := 1764) rfl (lz_Ok_none _ _) ?_
  refine lz_cons (k' := 1765) rfl (lk_aload_n X dL_law_1764 rfl rfl) ?_
  refine lz_cons (k' := 1766) rfl (lk_iload X dL_law_1765 rfl) ?_
  refine lz_cons (k' := 1767) rfl (lz_Ok_none _ _) ?_
  refine lz_cons (k' := 1768) rfl (lk_iconst X dL_law_1767 (by decide) rfl) ?_
  refine lz_cons (k' := 1769) rfl (lk_idiv X dL_law_1768 rfl) ?_
  refine lz_cons (k' := 1770) rfl (lk_calls X kl_177 (mm_L_isRefused Wd) (by decide) dL_law_1769 rfl) ?_
  refine lz_cons (k' := 1771) rfl (lz_Ok_none _ _) ?_
  refine lz_cons (k' := 1772) rfl (lz_Ok_none _ _) ?_
  refine lz_cons (k' := 1773) rfl (lk_if_eq X dL_law_1772 (by decide) rfl) ?_
  refine lz_cons (k' := 1774) rfl (lz_Ok_none _ _) ?_
  refine lz_cons (k' := 1775) rfl (lz_Ok_none _ _) ?_
  refine lz_cons (k' := 1776) rfl (lk_iconst X dL_law_1775 (by decide) rfl) ?_
  refine lz_cons (k' := 1777) rfl (lk_goto X dL_law_1776 (by decide)) ?_
  refine lz_cons (k' := 1778) rfl (lz_Ok_none _ _) ?_
  refine lz_cons (k' := 1779) rfl (lz_Ok_none _ _) ?_
  refine lz_cons (k' := 1780) rfl (lk_iconst X dL_law_1779 (by decide) rfl) ?_
  refine lz_cons (k' := 1781) rfl (lk_istore X dL_law_1780 (by decide) rfl) ?_
  refine lz_cons (k' := 1782) rfl (lz_Ok_none _ _) ?_
  refine lz_cons (k' := 1783) rfl (lk_iinc X dL_law_1782 (by decide) (by decide) rfl) ?_
  refine lz_cons (k' := 1784) rfl (lz_Ok_none _ _) ?_
  refine lz_cons (k' := 1785) rfl (lz_Ok_none _ _) ?_
  refine lz_cons (k' := 1786) rfl (lk_goto X dL_law_1785 (by decide)) ?_
  refine lz_cons (k' := 1787) rfl (lz_Ok_none _ _) ?_
  refine lz_cons (k' := 1788) rfl (lz_Ok_none _ _) ?_
  refine lz_cons (k' := 1789) rfl (lk_iload X dL_law_1788 rfl) ?_
  refine lz_cons (k' := 1790) rfl (lz_Ok_none _ _) ?_
  refine lz_cons (k' := 1791) rfl (lk_if_eq X dL_law_1790 (by decide) rfl) ?_
  refine lz_cons (k' := 1792) rfl (lz_Ok_none _ _) ?_
  refine lz_cons (k' := 1793) rfl (lz_Ok_none _ _) ?_
  refine lz_cons (k' := 1794) rfl (lk_aload_n X dL_law_1793 rfl rfl) ?_
  refine lz_cons (k' := 1795) rfl (lk_aload_n X dL_law_1794 rfl rfl) ?_
  refine lz_cons (k' := 1796) rfl (lk_calls X kl_192 (mm_L_areVersions Wd) (by decide) dL_law_1795 rfl) ?_
  refine lz_cons (k' := 1797) rfl (lz_Ok_none _ _) ?_
  refine lz_cons (k' := 1798) rfl (lz_Ok_none _ _) ?_
  refine lz_cons (k' := 1799) rfl (lk_if_eq X dL_law_1798 (by decide) rfl) ?_
  refine lz_cons (k' := 1800) rfl (lz_Ok_none _ _) ?_
  refine lz_cons (k' := 1801) rfl (lz_Ok_none _ _) ?_
  refine lz_cons (k' := 1802) rfl (lk_aload_n X dL_law_1801 rfl rfl) ?_
  refine lz_cons (k' := 1803) rfl (lk_calls X kl_199 (mm_L_areQueues Wd) (by decide) dL_law_1802 rfl) ?_
  refine lz_cons (k' := 1804) rfl (lz_Ok_none _ _) ?_
  refine lz_cons (k' := 1805) rfl (lz_Ok_none _ _) ?_
  refine lz_cons (k' := 1806) rfl (lk_if_eq X dL_law_1805 (by decide) rfl) ?_
  refine lz_cons (k' := 1807) rfl (lz_Ok_none _ _) ?_
  refine lz_cons (k' := 1808) rfl (lz_Ok_none _ _) ?_
  refine lz_cons (k' := 1809) rfl (lk_aload_n X dL_law_1808 rfl rfl) ?_
  refine lz_cons (k' := 1810) rfl (lk_calls X kl_196 (mm_L_areObjects Wd) (by decide) dL_law_1809 rfl) ?_
  refine lz_cons (k' := 1811) rfl (lz_Ok_none _ _) ?_
  refine lz_cons (k' := 1812) rfl (lz_Ok_none _ _) ?_
  refine lz_cons (k' := 1813) rfl (lk_if_eq X dL_law_1812 (by decide) rfl) ?_
  refine lz_cons (k' := 1814) rfl (lz_Ok_none _ _) ?_
  refine lz_cons (k' := 1815) rfl (lz_Ok_none _ _) ?_
  refine lz_cons (k' := 1816) rfl (lk_iconst X dL_law_1815 (by decide) rfl) ?_
  refine lz_cons (k' := 1817) rfl (lk_goto X dL_law_1816 (by decide)) ?_
  refine lz_cons (k' := 1818) rfl (lz_Ok_none _ _) ?_
  refine lz_cons (k' := 1819) rfl (lz_Ok_none _ _) ?_
  refine lz_cons (k' := 1820) rfl (lk_iconst X dL_law_1819 (by decide) rfl) ?_
  refine lz_cons (k' := 1821) rfl (lk_iret X rfl dL_law_1820) ?_
  exact trivial
end
