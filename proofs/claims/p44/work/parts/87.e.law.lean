section
noncomputable def tL_isRefused : List lzOp := [
  lo_iload 1 1,
  lo_pushI 2 2,
  lo_iid (fun x y => x - x / y * y) 3,
  lo_if (fun x => decide (¬ x = 0)) 10 6,
  lo_none,
  lo_none,
  lo_pushI 1 7,
  lo_goto 11,
  lo_none,
  lo_none,
  lo_pushI 0 11,
  lo_istore 2 12,
  lo_iload 2 13,
  lo_if (fun x => decide (x = 0)) 25 16,
  lo_none,
  lo_none,
  lo_pushI (-1) 17,
  lo_iload 1 18,
  lo_pushI 30 20,
  lo_none,
  lo_iid (fun x y => x - x / y * y) 21,
  lo_ii (fun x y => x - y) 22,
  lo_goto 34,
  lo_none,
  lo_none,
  lo_aload 0 26,
  lo_callv fX11_objects 0 3600 29,
  lo_none,
  lo_none,
  lo_iload 1 30,
  lo_pushI 30 32,
  lo_none,
  lo_iid (fun x y => x - x / y * y) 33,
  lo_ii (fun x y => x + y) 34,
  lo_istore 3 35,
  lo_iload 2 36,
  lo_if (fun x => decide (x = 0)) 48 39,
  lo_none,
  lo_none,
  lo_pushI (-1) 40,
  lo_iload 1 41,
  lo_pushI 30 43,
  lo_none,
  lo_iid (fun x y => x - x / y * y) 44,
  lo_ii (fun x y => x - y) 45,
  lo_goto 55,
  lo_none,
  lo_none,
  lo_pushI 8 50,
  lo_none,
  lo_iload 1 51,
  lo_pushI 30 53,
  lo_none,
  lo_iid (fun x y => x - x / y * y) 54,
  lo_ii (fun x y => x + y) 55,
  lo_istore 4 57,
  lo_none,
  lo_iload 2 58,
  lo_if (fun x => decide (x = 0)) 70 61,
  lo_none,
  lo_none,
  lo_pushI (-1) 62,
  lo_iload 1 63,
  lo_pushI 30 65,
  lo_none,
  lo_iid (fun x y => x - x / y * y) 66,
  lo_ii (fun x y => x - y) 67,
  lo_goto 76,
  lo_none,
  lo_none,
  lo_pushI 4 71,
  lo_iload 1 72,
  lo_pushI 30 74,
  lo_none,
  lo_iid (fun x y => x - x / y * y) 75,
  lo_ii (fun x y => x + y) 76,
  lo_istore 5 78,
  lo_none,
  lo_aload 0 79,
  lo_calls fL_all 1 1320 3600 82,
  lo_none,
  lo_none,
  lo_lstore 6 84,
  lo_none,
  lo_aload 0 85,
  lo_pushI 0 86,
  lo_iload 5 88,
  lo_none,
  lo_pushI 0 89,
  lo_pushI 0 90,
  lo_pushI 0 91,
  lo_pushI 0 92,
  lo_pushI 0 93,
  lo_calls fL_act 8 1 3600 96,
  lo_none,
  lo_none,
  lo_pushI (-1272) 99,
  lo_none,
  lo_none,
  lo_icmp (fun x y => decide (¬ x = y)) 682 102,
  lo_none,
  lo_none,
  lo_aload 0 103,
  lo_pushI 0 104,
  lo_pushI 0 105,
  lo_iload 2 106,
  lo_if (fun x => decide (x = 0)) 118 109,
  lo_none,
  lo_none,
  lo_pushI (-1) 110,
  lo_iload 1 111,
  lo_pushI 30 113,
  lo_none,
  lo_iid (fun x y => x - x / y * y) 114,
  lo_ii (fun x y => x - y) 115,
  lo_goto 120,
  lo_none,
  lo_none,
  lo_pushI 6 120,
  lo_none,
  lo_pushI 0 121,
  lo_pushI 0 122,
  lo_pushI 0 123,
  lo_pushI 0 124,
  lo_calls fL_act 8 1 3600 127,
  lo_none,
  lo_none,
  lo_pushI (-1272) 130,
  lo_none,
  lo_none,
  lo_icmp (fun x y => decide (¬ x = y)) 682 133,
  lo_none,
  lo_none,
  lo_aload 0 134,
  lo_pushI 1 135,
  lo_pushI 0 136,
  lo_iload 3 137,
  lo_pushI 0 138,
  lo_pushI 0 139,
  lo_pushI (-1) 140,
  lo_pushI 0 141,
  lo_calls fL_act 8 1 3600 144,
  lo_none,
  lo_none,
  lo_pushI (-1271) 147,
  lo_none,
  lo_none,
  lo_icmp (fun x y => decide (¬ x = y)) 682 150,
  lo_none,
  lo_none,
  lo_aload 0 151,
  lo_pushI 2 152,
  lo_pushI 0 153,
  lo_iload 3 154,
  lo_pushI 0 155,
  lo_pushI 0 156,
  lo_pushI 0 157,
  lo_pushI 0 158,
  lo_calls fL_act 8 1 3600 161,
  lo_none,
  lo_none,
  lo_pushI (-1271) 164,
  lo_none,
  lo_none,
  lo_icmp (fun x y => decide (¬ x = y)) 682 167,
  lo_none,
  lo_none,
  lo_aload 0 168,
  lo_pushI 3 169,
  lo_iload 3 170,
  lo_pushI 9 172,
  lo_none,
  lo_pushI 0 173,
  lo_pushI 0 174,
  lo_pushI 0 175,
  lo_pushI 0 176,
  lo_calls fL_act 8 1 3600 179,
  lo_none,
  lo_none,
  lo_pushI (-1271) 182,
  lo_none,
  lo_none,
  lo_icmp (fun x y => decide (¬ x = y)) 682 185,
  lo_none,
  lo_none,
  lo_aload 0 186,
  lo_pushI 4 187,
  lo_iload 3 188,
  lo_pushI 1 189,
  lo_pushI 0 190,
  lo_pushI 0 191,
  lo_pushI 0 192,
  lo_pushI 0 193,
  lo_calls fL_act 8 1 3600 196,
  lo_none,
  lo_none,
  lo_pushI (-1271) 199,
  lo_none,
  lo_none,
  lo_icmp (fun x y => decide (¬ x = y)) 682 202,
  lo_none,
  lo_none,
  lo_aload 0 203,
  lo_pushI 5 204,
  lo_iload 3 205,
  lo_pushI 1 206,
  lo_pushI 0 207,
  lo_pushI 0 208,
  lo_pushI 0 209,
  lo_pushI 0 210,
  lo_calls fL_act 8 1 3600 213,
  lo_none,
  lo_none,
  lo_pushI (-1271) 216,
  lo_none,
  lo_none,
  lo_icmp (fun x y => decide (¬ x = y)) 682 219,
  lo_none,
  lo_none,
  lo_aload 0 220,
  lo_pushI 6 222,
  lo_none,
  lo_iload 2 223,
  lo_if (fun x => decide (x = 0)) 235 226,
  lo_none,
  lo_none,
  lo_pushI (-1) 227,
  lo_iload 1 228,
  lo_pushI 30 230,
  lo_none,
  lo_iid (fun x y => x - x / y * y) 231,
  lo_ii (fun x y => x - y) 232,
  lo_goto 237,
  lo_none,
  lo_none,
  lo_pushI 6 237,
  lo_none,
  lo_pushI 0 238,
  lo_pushI 0 239,
  lo_pushI 5 240,
  lo_pushI 0 241,
  lo_pushI 0 242,
  lo_calls fL_act 8 1 3600 245,
  lo_none,
  lo_none,
  lo_pushI (-1272) 248,
  lo_none,
  lo_none,
  lo_icmp (fun x y => decide (¬ x = y)) 682 251,
  lo_none,
  lo_none,
  lo_aload 0 252,
  lo_pushI 6 254,
  lo_none,
  lo_pushI 0 255,
  lo_pushI 0 256,
  lo_iload 1 257,
  lo_pushI 30 259,
  lo_none,
  lo_iid (fun x y => x - x / y * y) 260,
  lo_pushI 1 261,
  lo_ii (fun x y => x + y) 262,
  lo_iload 1 263,
  lo_pushI 30 265,
  lo_none,
  lo_iid (fun x y => x - x / y * y) 266,
  lo_pushI 0 267,
  lo_pushI 0 268,
  lo_calls fL_act 8 1 3600 271,
  lo_none,
  lo_none,
  lo_pushI (-1272) 274,
  lo_none,
  lo_none,
  lo_icmp (fun x y => decide (¬ x = y)) 682 277,
  lo_none,
  lo_none,
  lo_aload 0 278,
  lo_pushI 6 280,
  lo_none,
  lo_pushI 1 281,
  lo_pushI 0 282,
  lo_pushI 0 283,
  lo_pushI 5 284,
  lo_pushI 2 285,
  lo_pushI 0 286,
  lo_calls fL_act 8 1 3600 289,
  lo_none,
  lo_none,
  lo_pushI (-1272) 292,
  lo_none,
  lo_none,
  lo_icmp (fun x y => decide (¬ x = y)) 682 295,
  lo_none,
  lo_none,
  lo_aload 0 296,
  lo_pushI 6 298,
  lo_none,
  lo_pushI 0 299,
  lo_pushI 0 300,
  lo_pushI 0 301,
  lo_pushI 5 302,
  lo_pushI 0 303,
  lo_iload 2 304,
  lo_if (fun x => decide (x = 0)) 316 307,
  lo_none,
  lo_none,
  lo_pushI (-1) 308,
  lo_iload 1 309,
  lo_pushI 30 311,
  lo_none,
  lo_iid (fun x y => x - x / y * y) 312,
  lo_ii (fun x y => x - y) 313,
  lo_goto 318,
  lo_none,
  lo_none,
  lo_pushI 6 318,
  lo_none,
  lo_calls fL_act 8 1 3600 321,
  lo_none,
  lo_none,
  lo_pushI (-1272) 324,
  lo_none,
  lo_none,
  lo_icmp (fun x y => decide (¬ x = y)) 682 327,
  lo_none,
  lo_none,
  lo_aload 0 328,
  lo_pushI 7 330,
  lo_none,
  lo_pushI 4 331,
  lo_pushI 0 332,
  lo_pushI 5 333,
  lo_pushI 0 334,
  lo_pushI 0 335,
  lo_pushI 0 336,
  lo_calls fL_act 8 1 3600 339,
  lo_none,
  lo_none,
  lo_pushI (-1272) 342,
  lo_none,
  lo_none,
  lo_icmp (fun x y => decide (¬ x = y)) 682 345,
  lo_none,
  lo_none,
  lo_aload 0 346,
  lo_pushI 8 348,
  lo_none,
  lo_iload 2 349,
  lo_if (fun x => decide (x = 0)) 361 352,
  lo_none,
  lo_none,
  lo_pushI (-1) 353,
  lo_iload 1 354,
  lo_pushI 30 356,
  lo_none,
  lo_iid (fun x y => x - x / y * y) 357,
  lo_ii (fun x y => x - y) 358,
  lo_goto 363,
  lo_none,
  lo_none,
  lo_pushI 61 363,
  lo_none,
  lo_pushI 0 364,
  lo_pushI 0 365,
  lo_pushI 0 366,
  lo_pushI 0 367,
  lo_pushI 0 368,
  lo_calls fL_act 8 1 3600 371,
  lo_none,
  lo_none,
  lo_pushI (-1272) 374,
  lo_none,
  lo_none,
  lo_icmp (fun x y => decide (¬ x = y)) 682 377,
  lo_none,
  lo_none,
  lo_aload 0 378,
  lo_pushI 9 380,
  lo_none,
  lo_iload 4 382,
  lo_none,
  lo_pushI 5 383,
  lo_pushI 0 384,
  lo_pushI 0 385,
  lo_pushI 0 386,
  lo_pushI 0 387,
  lo_calls fL_act 8 1 3600 390,
  lo_none,
  lo_none,
  lo_pushI (-1272) 393,
  lo_none,
  lo_none,
  lo_icmp (fun x y => decide (¬ x = y)) 682 396,
  lo_none,
  lo_none,
  lo_aload 0 397,
  lo_pushI 9 399,
  lo_none,
  lo_pushI 0 400,
  lo_iload 2 401,
  lo_if (fun x => decide (x = 0)) 413 404,
  lo_none,
  lo_none,
  lo_pushI 0 405,
  lo_iload 1 406,
  lo_pushI 30 408,
  lo_none,
  lo_iid (fun x y => x - x / y * y) 409,
  lo_ii (fun x y => x - y) 410,
  lo_goto 416,
  lo_none,
  lo_none,
  lo_pushI 401 416,
  lo_none,
  lo_none,
  lo_pushI 0 417,
  lo_pushI 0 418,
  lo_pushI 0 419,
  lo_pushI 0 420,
  lo_calls fL_act 8 1 3600 423,
  lo_none,
  lo_none,
  lo_pushI (-1272) 426,
  lo_none,
  lo_none,
  lo_icmp (fun x y => decide (¬ x = y)) 682 429,
  lo_none,
  lo_none,
  lo_aload 0 430,
  lo_pushI 10 432,
  lo_none,
  lo_iload 4 434,
  lo_none,
  lo_pushI 0 435,
  lo_pushI 0 436,
  lo_pushI 0 437,
  lo_pushI 0 438,
  lo_pushI 0 439,
  lo_calls fL_act 8 1 3600 442,
  lo_none,
  lo_none,
  lo_pushI (-1272) 445,
  lo_none,
  lo_none,
  lo_icmp (fun x y => decide (¬ x = y)) 682 448,
  lo_none,
  lo_none,
  lo_aload 0 449,
  lo_pushI 11 451,
  lo_none,
  lo_iload 2 452,
  lo_if (fun x => decide (x = 0)) 464 455,
  lo_none,
  lo_none,
  lo_pushI 0 456,
  lo_iload 1 457,
  lo_pushI 30 459,
  lo_none,
  lo_iid (fun x y => x - x / y * y) 460,
  lo_ii (fun x y => x - y) 461,
  lo_goto 466,
  lo_none,
  lo_none,
  lo_pushI 11 466,
  lo_none,
  lo_pushI 0 467,
  lo_pushI 0 468,
  lo_pushI 0 469,
  lo_pushI 0 470,
  lo_pushI 0 471,
  lo_calls fL_act 8 1 3600 474,
  lo_none,
  lo_none,
  lo_pushI (-1272) 477,
  lo_none,
  lo_none,
  lo_icmp (fun x y => decide (¬ x = y)) 682 480,
  lo_none,
  lo_none,
  lo_aload 0 481,
  lo_pushI 12 483,
  lo_none,
  lo_iload 5 485,
  lo_none,
  lo_pushI 0 486,
  lo_pushI 0 487,
  lo_pushI 0 488,
  lo_pushI 0 489,
  lo_pushI 0 490,
  lo_calls fL_act 8 1 3600 493,
  lo_none,
  lo_none,
  lo_pushI (-1272) 496,
  lo_none,
  lo_none,
  lo_icmp (fun x y => decide (¬ x = y)) 682 499,
  lo_none,
  lo_none,
  lo_aload 0 500,
  lo_pushI 12 502,
  lo_none,
  lo_pushI 0 503,
  lo_iload 2 504,
  lo_if (fun x => decide (x = 0)) 516 507,
  lo_none,
  lo_none,
  lo_pushI (-1) 508,
  lo_iload 1 509,
  lo_pushI 30 511,
  lo_none,
  lo_iid (fun x y => x - x / y * y) 512,
  lo_ii (fun x y => x - y) 513,
  lo_goto 522,
  lo_none,
  lo_none,
  lo_aload 0 517,
  lo_callv fX11_version 0 3600 520,
  lo_none,
  lo_none,
  lo_pushI 1 521,
  lo_ii (fun x y => x + y) 522,
  lo_pushI 0 523,
  lo_pushI 0 524,
  lo_pushI 0 525,
  lo_pushI 0 526,
  lo_calls fL_act 8 1 3600 529,
  lo_none,
  lo_none,
  lo_pushI (-1272) 532,
  lo_none,
  lo_none,
  lo_icmp (fun x y => decide (¬ x = y)) 682 535,
  lo_none,
  lo_none,
  lo_aload 0 536,
  lo_pushI 13 538,
  lo_none,
  lo_iload 5 540,
  lo_none,
  lo_pushI 0 541,
  lo_pushI 0 542,
  lo_pushI 0 543,
  lo_pushI 0 544,
  lo_pushI 0 545,
  lo_calls fL_act 8 1 3600 548,
  lo_none,
  lo_none,
  lo_pushI (-1272) 551,
  lo_none,
  lo_none,
  lo_icmp (fun x y => decide (¬ x = y)) 682 554,
  lo_none,
  lo_none,
  lo_aload 0 555,
  lo_pushI 14 557,
  lo_none,
  lo_iload 2 558,
  lo_if (fun x => decide (x = 0)) 570 561,
  lo_none,
  lo_none,
  lo_pushI (-1) 562,
  lo_iload 1 563,
  lo_pushI 30 565,
  lo_none,
  lo_iid (fun x y => x - x / y * y) 566,
  lo_ii (fun x y => x - y) 567,
  lo_goto 576,
  lo_none,
  lo_none,
  lo_aload 0 571,
  lo_callv fX11_version 0 3600 574,
  lo_none,
  lo_none,
  lo_pushI 1 575,
  lo_ii (fun x y => x + y) 576,
  lo_pushI 0 577,
  lo_pushI 0 578,
  lo_pushI 0 579,
  lo_pushI 0 580,
  lo_pushI 0 581,
  lo_calls fL_act 8 1 3600 584,
  lo_none,
  lo_none,
  lo_pushI (-1272) 587,
  lo_none,
  lo_none,
  lo_icmp (fun x y => decide (¬ x = y)) 682 590,
  lo_none,
  lo_none,
  lo_aload 0 591,
  lo_pushI 15 593,
  lo_none,
  lo_iload 2 594,
  lo_if (fun x => decide (x = 0)) 606 597,
  lo_none,
  lo_none,
  lo_pushI 0 598,
  lo_iload 1 599,
  lo_pushI 30 601,
  lo_none,
  lo_iid (fun x y => x - x / y * y) 602,
  lo_ii (fun x y => x - y) 603,
  lo_goto 608,
  lo_none,
  lo_none,
  lo_pushI 101 608,
  lo_none,
  lo_pushI 0 609,
  lo_pushI 0 610,
  lo_pushI 0 611,
  lo_pushI 0 612,
  lo_pushI 0 613,
  lo_calls fL_act 8 1 3600 616,
  lo_none,
  lo_none,
  lo_pushI (-1272) 619,
  lo_none,
  lo_none,
  lo_icmp (fun x y => decide (¬ x = y)) 682 622,
  lo_none,
  lo_none,
  lo_aload 0 623,
  lo_pushI 16 625,
  lo_none,
  lo_iload 3 626,
  lo_pushI 0 627,
  lo_pushI 0 628,
  lo_pushI 0 629,
  lo_pushI 0 630,
  lo_pushI 0 631,
  lo_calls fL_act 8 1 3600 634,
  lo_none,
  lo_none,
  lo_pushI (-1271) 637,
  lo_none,
  lo_none,
  lo_icmp (fun x y => decide (¬ x = y)) 682 640,
  lo_none,
  lo_none,
  lo_aload 0 641,
  lo_pushI 17 643,
  lo_none,
  lo_iload 3 644,
  lo_pushI 50 646,
  lo_none,
  lo_pushI 0 647,
  lo_pushI 0 648,
  lo_pushI 0 649,
  lo_pushI 0 650,
  lo_calls fL_act 8 1 3600 653,
  lo_none,
  lo_none,
  lo_pushI (-1271) 656,
  lo_none,
  lo_none,
  lo_icmp (fun x y => decide (¬ x = y)) 682 659,
  lo_none,
  lo_none,
  lo_aload 0 660,
  lo_pushI 18 662,
  lo_none,
  lo_iload 5 664,
  lo_none,
  lo_pushI 0 665,
  lo_pushI 0 666,
  lo_pushI 0 667,
  lo_pushI 0 668,
  lo_pushI 0 669,
  lo_calls fL_act 8 1 3600 672,
  lo_none,
  lo_none,
  lo_pushI (-1272) 675,
  lo_none,
  lo_none,
  lo_icmp (fun x y => decide (¬ x = y)) 682 678,
  lo_none,
  lo_none,
  lo_pushI 1 679,
  lo_goto 683,
  lo_none,
  lo_none,
  lo_pushI 0 683,
  lo_istore 8 685,
  lo_none,
  lo_pushI 0 686,
  lo_istore 9 688,
  lo_none,
  lo_iload 9 690,
  lo_none,
  lo_pushI 12 692,
  lo_none,
  lo_icmp (fun x y => decide (y ≤ x)) 728 695,
  lo_none,
  lo_none,
  lo_iload 8 697,
  lo_none,
  lo_if (fun x => decide (x = 0)) 728 700,
  lo_none,
  lo_none,
  lo_aload 0 701,
  lo_iload 9 703,
  lo_none,
  lo_iload 3 704,
  lo_pushI 0 705,
  lo_pushI 0 706,
  lo_calls fL_of 5 1 3600 709,
  lo_none,
  lo_none,
  lo_pushI (-1271) 712,
  lo_none,
  lo_none,
  lo_icmp (fun x y => decide (¬ x = y)) 719 715,
  lo_none,
  lo_none,
  lo_pushI 1 716,
  lo_goto 720,
  lo_none,
  lo_none,
  lo_pushI 0 720,
  lo_istore 8 722,
  lo_none,
  lo_iinc 9 1 725,
  lo_none,
  lo_none,
  lo_goto 688,
  lo_none,
  lo_none,
  lo_iload 8 730,
  lo_none,
  lo_if (fun x => decide (x = 0)) 835 733,
  lo_none,
  lo_none,
  lo_aload 0 734,
  lo_pushI 13 736,
  lo_none,
  lo_iload 4 738,
  lo_none,
  lo_pushI 0 739,
  lo_pushI 0 740,
  lo_calls fL_of 5 1 3600 743,
  lo_none,
  lo_none,
  lo_pushI (-1272) 746,
  lo_none,
  lo_none,
  lo_icmp (fun x y => decide (¬ x = y)) 835 749,
  lo_none,
  lo_none,
  lo_aload 0 750,
  lo_pushI 14 752,
  lo_none,
  lo_iload 4 754,
  lo_none,
  lo_pushI (-1) 755,
  lo_pushI 0 756,
  lo_calls fL_of 5 1 3600 759,
  lo_none,
  lo_none,
  lo_pushI (-1272) 762,
  lo_none,
  lo_none,
  lo_icmp (fun x y => decide (¬ x = y)) 835 765,
  lo_none,
  lo_none,
  lo_aload 0 766,
  lo_pushI 14 768,
  lo_none,
  lo_pushI 0 769,
  lo_pushI (-1) 770,
  lo_iload 1 771,
  lo_pushI 30 773,
  lo_none,
  lo_iid (fun x y => x - x / y * y) 774,
  lo_ii (fun x y => x - y) 775,
  lo_pushI 0 776,
  lo_calls fL_of 5 1 3600 779,
  lo_none,
  lo_none,
  lo_pushI (-1271) 782,
  lo_none,
  lo_none,
  lo_icmp (fun x y => decide (¬ x = y)) 835 785,
  lo_none,
  lo_none,
  lo_aload 0 786,
  lo_pushI 15 788,
  lo_none,
  lo_pushI 0 789,
  lo_iload 3 790,
  lo_pushI 0 791,
  lo_calls fL_of 5 1 3600 794,
  lo_none,
  lo_none,
  lo_pushI (-1271) 797,
  lo_none,
  lo_none,
  lo_icmp (fun x y => decide (¬ x = y)) 835 800,
  lo_none,
  lo_none,
  lo_aload 0 801,
  lo_pushI 16 803,
  lo_none,
  lo_iload 4 805,
  lo_none,
  lo_iload 3 806,
  lo_pushI 0 807,
  lo_calls fL_of 5 1 3600 810,
  lo_none,
  lo_none,
  lo_pushI (-1272) 813,
  lo_none,
  lo_none,
  lo_icmp (fun x y => decide (¬ x = y)) 835 816,
  lo_none,
  lo_none,
  lo_aload 0 817,
  lo_pushI 16 819,
  lo_none,
  lo_pushI 0 820,
  lo_iload 3 821,
  lo_pushI 0 822,
  lo_calls fL_of 5 1 3600 825,
  lo_none,
  lo_none,
  lo_pushI (-1271) 828,
  lo_none,
  lo_none,
  lo_icmp (fun x y => decide (¬ x = y)) 835 831,
  lo_none,
  lo_none,
  lo_pushI 1 832,
  lo_goto 836,
  lo_none,
  lo_none,
  lo_pushI 0 836,
  lo_istore 8 838,
  lo_none,
  lo_pushI 0 839,
  lo_istore 9 841,
  lo_none,
  lo_iload 9 843,
  lo_none,
  lo_aload 0 844,
  lo_callv fX11_objects 0 3600 847,
  lo_none,
  lo_none,
  lo_icmp (fun x y => decide (y ≤ x)) 1347 850,
  lo_none,
  lo_none,
  lo_iload 8 852,
  lo_none,
  lo_if (fun x => decide (x = 0)) 1347 855,
  lo_none,
  lo_none,
  lo_aload 0 856,
  lo_iload 9 858,
  lo_none,
  lo_callv fX11_kindOf 1 3600 861,
  lo_none,
  lo_none,
  lo_istore 10 863,
  lo_none,
  lo_iload 10 865,
  lo_none,
  lo_pushI 4 866,
  lo_icmp (fun x y => decide (¬ x = y)) 874 869,
  lo_none,
  lo_none,
  lo_pushI 7 871,
  lo_none,
  lo_goto 875,
  lo_none,
  lo_none,
  lo_pushI 1 875,
  lo_istore 11 877,
  lo_none,
  lo_aload 0 878,
  lo_iload 9 880,
  lo_none,
  lo_iload 11 882,
  lo_none,
  lo_callv fX11_managerOf 2 3600 885,
  lo_none,
  lo_none,
  lo_if (fun x => decide (¬ x = 0)) 892 888,
  lo_none,
  lo_none,
  lo_pushI 1 889,
  lo_goto 893,
  lo_none,
  lo_none,
  lo_pushI 0 893,
  lo_istore 12 895,
  lo_none,
  lo_aload 0 896,
  lo_pushI 1 897,
  lo_iload 5 899,
  lo_none,
  lo_iload 9 901,
  lo_none,
  lo_iload 11 903,
  lo_none,
  lo_pushI 0 904,
  lo_pushI (-1) 905,
  lo_pushI 1 906,
  lo_calls fL_act 8 1 3600 909,
  lo_none,
  lo_none,
  lo_pushI (-1272) 912,
  lo_none,
  lo_none,
  lo_icmp (fun x y => decide (¬ x = y)) 1338 915,
  lo_none,
  lo_none,
  lo_aload 0 916,
  lo_pushI 1 917,
  lo_pushI 0 918,
  lo_iload 9 920,
  lo_none,
  lo_iload 10 922,
  lo_none,
  lo_pushI 4 923,
  lo_icmp (fun x y => decide (¬ x = y)) 930 926,
  lo_none,
  lo_none,
  lo_pushI 1 927,
  lo_goto 932,
  lo_none,
  lo_none,
  lo_pushI 7 932,
  lo_none,
  lo_pushI 0 933,
  lo_pushI (-1) 934,
  lo_pushI 1 935,
  lo_calls fL_act 8 1 3600 938,
  lo_none,
  lo_none,
  lo_pushI (-1272) 941,
  lo_none,
  lo_none,
  lo_icmp (fun x y => decide (¬ x = y)) 1338 944,
  lo_none,
  lo_none,
  lo_aload 0 945,
  lo_pushI 1 946,
  lo_pushI 0 947,
  lo_iload 9 949,
  lo_none,
  lo_iload 11 951,
  lo_none,
  lo_iload 2 952,
  lo_if (fun x => decide (x = 0)) 964 955,
  lo_none,
  lo_none,
  lo_pushI (-1) 956,
  lo_iload 1 957,
  lo_pushI 30 959,
  lo_none,
  lo_iid (fun x y => x - x / y * y) 960,
  lo_ii (fun x y => x - y) 961,
  lo_goto 966,
  lo_none,
  lo_none,
  lo_pushI 10 966,
  lo_none,
  lo_pushI (-1) 967,
  lo_pushI 1 968,
  lo_calls fL_act 8 1 3600 971,
  lo_none,
  lo_none,
  lo_pushI (-1272) 974,
  lo_none,
  lo_none,
  lo_icmp (fun x y => decide (¬ x = y)) 1338 977,
  lo_none,
  lo_none,
  lo_aload 0 978,
  lo_pushI 1 979,
  lo_pushI 0 980,
  lo_iload 9 982,
  lo_none,
  lo_iload 11 984,
  lo_none,
  lo_pushI 0 985,
  lo_aload 0 986,
  lo_iload 9 988,
  lo_none,
  lo_callv fX11_versionOf 1 3600 991,
  lo_none,
  lo_none,
  lo_pushI 1 992,
  lo_ii (fun x y => x + y) 993,
  lo_iload 1 994,
  lo_pushI 30 996,
  lo_none,
  lo_iid (fun x y => x - x / y * y) 997,
  lo_ii (fun x y => x + y) 998,
  lo_pushI 1 999,
  lo_calls fL_act 8 1 3600 1002,
  lo_none,
  lo_none,
  lo_pushI (-1273) 1005,
  lo_none,
  lo_none,
  lo_icmp (fun x y => decide (¬ x = y)) 1338 1008,
  lo_none,
  lo_none,
  lo_aload 0 1009,
  lo_pushI 1 1010,
  lo_iload 12 1012,
  lo_none,
  lo_iload 9 1014,
  lo_none,
  lo_iload 11 1016,
  lo_none,
  lo_pushI 0 1017,
  lo_pushI (-1) 1018,
  lo_pushI 0 1019,
  lo_calls fL_act 8 1 3600 1022,
  lo_none,
  lo_none,
  lo_pushI (-1273) 1025,
  lo_none,
  lo_none,
  lo_icmp (fun x y => decide (¬ x = y)) 1338 1028,
  lo_none,
  lo_none,
  lo_aload 0 1029,
  lo_pushI 3 1030,
  lo_iload 9 1032,
  lo_none,
  lo_iload 2 1033,
  lo_if (fun x => decide (x = 0)) 1045 1036,
  lo_none,
  lo_none,
  lo_pushI 0 1037,
  lo_iload 1 1038,
  lo_pushI 30 1040,
  lo_none,
  lo_iid (fun x y => x - x / y * y) 1041,
  lo_ii (fun x y => x - y) 1042,
  lo_goto 1046,
  lo_none,
  lo_none,
  lo_pushI 4 1046,
  lo_pushI 0 1047,
  lo_pushI 0 1048,
  lo_pushI 0 1049,
  lo_pushI 0 1050,
  lo_calls fL_act 8 1 3600 1053,
  lo_none,
  lo_none,
  lo_pushI (-1272) 1056,
  lo_none,
  lo_none,
  lo_icmp (fun x y => decide (¬ x = y)) 1338 1059,
  lo_none,
  lo_none,
  lo_iload 10 1061,
  lo_none,
  lo_pushI 2 1062,
  lo_icmp (fun x y => decide (x = y)) 1083 1065,
  lo_none,
  lo_none,
  lo_aload 0 1066,
  lo_pushI 5 1067,
  lo_iload 9 1069,
  lo_none,
  lo_pushI 0 1070,
  lo_pushI 0 1071,
  lo_pushI 0 1072,
  lo_pushI 0 1073,
  lo_pushI 0 1074,
  lo_calls fL_act 8 1 3600 1077,
  lo_none,
  lo_none,
  lo_pushI (-1272) 1080,
  lo_none,
  lo_none,
  lo_icmp (fun x y => decide (¬ x = y)) 1338 1083,
  lo_none,
  lo_none,
  lo_iload 10 1085,
  lo_none,
  lo_pushI 4 1086,
  lo_icmp (fun x y => decide (x = y)) 1108 1089,
  lo_none,
  lo_none,
  lo_aload 0 1090,
  lo_pushI 16 1092,
  lo_none,
  lo_iload 9 1094,
  lo_none,
  lo_pushI 0 1095,
  lo_pushI 0 1096,
  lo_pushI 0 1097,
  lo_pushI 0 1098,
  lo_pushI 0 1099,
  lo_calls fL_act 8 1 3600 1102,
  lo_none,
  lo_none,
  lo_pushI (-1272) 1105,
  lo_none,
  lo_none,
  lo_icmp (fun x y => decide (¬ x = y)) 1338 1108,
  lo_none,
  lo_none,
  lo_iload 10 1110,
  lo_none,
  lo_if (fun x => decide (¬ x = 0)) 1218 1113,
  lo_none,
  lo_none,
  lo_aload 0 1114,
  lo_pushI 2 1115,
  lo_pushI 0 1116,
  lo_iload 9 1118,
  lo_none,
  lo_iload 2 1119,
  lo_if (fun x => decide (x = 0)) 1131 1122,
  lo_none,
  lo_none,
  lo_pushI (-1) 1123,
  lo_iload 1 1124,
  lo_pushI 30 1126,
  lo_none,
  lo_iid (fun x y => x - x / y * y) 1127,
  lo_ii (fun x y => x - y) 1128,
  lo_goto 1133,
  lo_none,
  lo_none,
  lo_pushI 30 1133,
  lo_none,
  lo_pushI 1 1134,
  lo_pushI 0 1135,
  lo_pushI 0 1136,
  lo_calls fL_act 8 1 3600 1139,
  lo_none,
  lo_none,
  lo_pushI (-1272) 1142,
  lo_none,
  lo_none,
  lo_icmp (fun x y => decide (¬ x = y)) 1338 1145,
  lo_none,
  lo_none,
  lo_aload 0 1146,
  lo_pushI 2 1147,
  lo_pushI 0 1148,
  lo_iload 9 1150,
  lo_none,
  lo_pushI 3 1151,
  lo_pushI 1 1152,
  lo_pushI 0 1153,
  lo_pushI 0 1154,
  lo_calls fL_act 8 1 3600 1157,
  lo_none,
  lo_none,
  lo_pushI (-1272) 1160,
  lo_none,
  lo_none,
  lo_icmp (fun x y => decide (¬ x = y)) 1338 1163,
  lo_none,
  lo_none,
  lo_aload 0 1164,
  lo_pushI 2 1165,
  lo_pushI 0 1166,
  lo_iload 9 1168,
  lo_none,
  lo_pushI 0 1169,
  lo_pushI 1 1170,
  lo_pushI 0 1171,
  lo_pushI 0 1172,
  lo_calls fL_act 8 1 3600 1175,
  lo_none,
  lo_none,
  lo_pushI (-1273) 1178,
  lo_none,
  lo_none,
  lo_icmp (fun x y => decide (¬ x = y)) 1338 1181,
  lo_none,
  lo_none,
  lo_aload 0 1182,
  lo_pushI 17 1184,
  lo_none,
  lo_iload 9 1186,
  lo_none,
  lo_iload 2 1187,
  lo_if (fun x => decide (x = 0)) 1200 1190,
  lo_none,
  lo_none,
  lo_pushI (-2) 1192,
  lo_none,
  lo_iload 1 1193,
  lo_pushI 30 1195,
  lo_none,
  lo_iid (fun x y => x - x / y * y) 1196,
  lo_ii (fun x y => x - y) 1197,
  lo_goto 1202,
  lo_none,
  lo_none,
  lo_pushI 10 1202,
  lo_none,
  lo_pushI 0 1203,
  lo_pushI 0 1204,
  lo_pushI 0 1205,
  lo_pushI 0 1206,
  lo_calls fL_act 8 1 3600 1209,
  lo_none,
  lo_none,
  lo_pushI (-1272) 1212,
  lo_none,
  lo_none,
  lo_icmp (fun x y => decide (¬ x = y)) 1338 1215,
  lo_none,
  lo_none,
  lo_goto 1256,
  lo_none,
  lo_none,
  lo_aload 0 1219,
  lo_pushI 2 1220,
  lo_pushI 0 1221,
  lo_iload 9 1223,
  lo_none,
  lo_pushI 10 1225,
  lo_none,
  lo_pushI 1 1226,
  lo_pushI 0 1227,
  lo_pushI 0 1228,
  lo_calls fL_act 8 1 3600 1231,
  lo_none,
  lo_none,
  lo_pushI (-1272) 1234,
  lo_none,
  lo_none,
  lo_icmp (fun x y => decide (¬ x = y)) 1338 1237,
  lo_none,
  lo_none,
  lo_aload 0 1238,
  lo_pushI 17 1240,
  lo_none,
  lo_iload 9 1242,
  lo_none,
  lo_pushI 1 1243,
  lo_pushI 0 1244,
  lo_pushI 0 1245,
  lo_pushI 0 1246,
  lo_pushI 0 1247,
  lo_calls fL_act 8 1 3600 1250,
  lo_none,
  lo_none,
  lo_pushI (-1272) 1253,
  lo_none,
  lo_none,
  lo_icmp (fun x y => decide (¬ x = y)) 1338 1256,
  lo_none,
  lo_none,
  lo_aload 0 1257,
  lo_iload 9 1259,
  lo_none,
  lo_callv fX11_goingOf 1 3600 1262,
  lo_none,
  lo_none,
  lo_if (fun x => decide (x = 0)) 1287 1265,
  lo_none,
  lo_none,
  lo_aload 0 1266,
  lo_pushI 3 1267,
  lo_iload 9 1269,
  lo_none,
  lo_pushI 1 1270,
  lo_iload 1 1271,
  lo_pushI 3 1272,
  lo_iid (fun x y => x - x / y * y) 1273,
  lo_ii (fun x y => x + y) 1274,
  lo_pushI 0 1275,
  lo_pushI 0 1276,
  lo_pushI 0 1277,
  lo_pushI 0 1278,
  lo_calls fL_act 8 1 3600 1281,
  lo_none,
  lo_none,
  lo_pushI (-1273) 1284,
  lo_none,
  lo_none,
  lo_icmp (fun x y => decide (¬ x = y)) 1338 1287,
  lo_none,
  lo_none,
  lo_aload 0 1288,
  lo_iload 9 1290,
  lo_none,
  lo_callv fX11_goingOf 1 3600 1293,
  lo_none,
  lo_none,
  lo_pushI 4 1294,
  lo_icmp (fun x y => decide (x < y)) 1334 1297,
  lo_none,
  lo_none,
  lo_aload 0 1298,
  lo_pushI 4 1299,
  lo_iload 9 1301,
  lo_none,
  lo_pushI 1 1302,
  lo_pushI 0 1303,
  lo_pushI 0 1304,
  lo_pushI 0 1305,
  lo_pushI 0 1306,
  lo_calls fL_act 8 1 3600 1309,
  lo_none,
  lo_none,
  lo_pushI (-1273) 1312,
  lo_none,
  lo_none,
  lo_icmp (fun x y => decide (¬ x = y)) 1338 1315,
  lo_none,
  lo_none,
  lo_aload 0 1316,
  lo_pushI 1 1317,
  lo_pushI 0 1318,
  lo_iload 9 1320,
  lo_none,
  lo_iload 11 1322,
  lo_none,
  lo_pushI 1 1323,
  lo_pushI (-1) 1324,
  lo_pushI 1 1325,
  lo_calls fL_act 8 1 3600 1328,
  lo_none,
  lo_none,
  lo_pushI (-1273) 1331,
  lo_none,
  lo_none,
  lo_icmp (fun x y => decide (¬ x = y)) 1338 1334,
  lo_none,
  lo_none,
  lo_pushI 1 1335,
  lo_goto 1339,
  lo_none,
  lo_none,
  lo_pushI 0 1339,
  lo_istore 8 1341,
  lo_none,
  lo_iinc 9 1 1344,
  lo_none,
  lo_none,
  lo_goto 841,
  lo_none,
  lo_none,
  lo_iload 8 1349,
  lo_none,
  lo_if (fun x => decide (x = 0)) 1366 1352,
  lo_none,
  lo_none,
  lo_aload 0 1353,
  lo_calls fL_all 1 1320 3600 1356,
  lo_none,
  lo_none,
  lo_lload 6 1358,
  lo_none,
  lo_lcmp 1359,
  lo_if (fun x => decide (¬ x = 0)) 1366 1362,
  lo_none,
  lo_none,
  lo_pushI 1 1363,
  lo_goto 1367,
  lo_none,
  lo_none,
  lo_pushI 0 1367,
  lo_iret 3600 true]
set_option maxRecDepth 100000 in
theorem tl_L_isRefused : ∀ pc, lz_Tl (tL_isRefused.getD pc lo_none) := by
  refine lz_Tl_mem ?_
  unfold tL_isRefused
  refine List.forall_mem_cons.mpr ⟨(lo_iload_tl _ _), ?_⟩
  refine List.forall_mem_cons.mpr ⟨(lo_pushI_tl _ _), ?_⟩
  refine List.forall_mem_cons.mpr ⟨(lo_iid_tl _ _), ?_⟩
  refine List.forall_mem_cons.mpr ⟨(lo_if_tl _ _ _), ?_⟩
  refine List.forall_mem_cons.mpr ⟨lo_none_tl, ?_⟩
  refine List.forall_mem_cons.mpr ⟨lo_none_tl, ?_⟩
  refine List.forall_mem_cons.mpr ⟨(lo_pushI_tl _ _), ?_⟩
  refine List.forall_mem_cons.mpr ⟨(lo_goto_tl _), ?_⟩
  refine List.forall_mem_cons.mpr ⟨lo_none_tl, ?_⟩
  refine List.forall_mem_cons.mpr ⟨lo_none_tl, ?_⟩
  refine List.forall_mem_cons.mpr ⟨(lo_pushI_tl _ _), ?_⟩
  refine List.forall_mem_cons.mpr ⟨(lo_istore_tl _ _), ?_⟩
  refine List.forall_mem_cons.mpr ⟨(lo_iload_tl _ _), ?_⟩
  refine List.forall_mem_cons.mpr ⟨(lo_if_tl _ _ _), ?_⟩
  refine List.forall_mem_cons.mpr ⟨lo_none_tl, ?_⟩
  refine List.forall_mem_cons.mpr ⟨lo_none_tl, ?_⟩
  refine List.forall_mem_cons.mpr ⟨(lo_pushI_tl _ _), ?_⟩
  refine List.forall_mem_cons.mpr ⟨(lo_iload_tl _ _), ?_⟩
  refine List.forall_mem_cons.mpr ⟨(lo_pushI_tl _ _), ?_⟩
  refine List.forall_mem_cons.mpr ⟨lo_none_tl, ?_⟩
  refine List.forall_mem_cons.mpr ⟨(lo_iid_tl _ _), ?_⟩
  refine List.forall_mem_cons.mpr ⟨(lo_ii_tl _ _), ?_⟩
  refine List.forall_mem_cons.mpr ⟨(lo_goto_tl _), ?_⟩
  refine List.forall_mem_cons.mpr ⟨lo_none_tl, ?_⟩
  refine List.forall_mem_cons.mpr ⟨lo_none_tl, ?_⟩
  refine List.forall_mem_cons.mpr ⟨(lo_aload_tl _ _), ?_⟩
  refine List.forall_mem_cons.mpr ⟨(lo_callv_tl _ _ _ _), ?_⟩
  refine List.forall_mem_cons.mpr ⟨lo_none_tl, ?_⟩
  refine List.forall_mem_cons.mpr ⟨lo_none_tl, ?_⟩
  refine List.forall_mem_cons.mpr ⟨(lo_iload_tl _ _), ?_⟩
  refine List.forall_mem_cons.mpr ⟨(lo_pushI_tl _ _), ?_⟩
  refine List.forall_mem_cons.mpr ⟨lo_none_tl, ?_⟩
  refine List.forall_mem_cons.mpr ⟨(lo_iid_tl _ _), ?_⟩
  refine List.forall_mem_cons.mpr ⟨(lo_ii_tl _ _), ?_⟩
  refine List.forall_mem_cons.mpr ⟨(lo_istore_tl _ _), ?_⟩
  refine List.forall_mem_cons.mpr ⟨(lo_iload_tl _ _), ?_⟩
  refine List.forall_mem_cons.mpr ⟨(lo_if_tl _ _ _), ?_⟩
  refine List.forall_mem_cons.mpr ⟨lo_none_tl, ?_⟩
  refine List.forall_mem_cons.mpr ⟨lo_none_tl, ?_⟩
  refine List.forall_mem_cons.mpr ⟨(lo_pushI_tl _ _), ?_⟩
  refine List.forall_mem_cons.mpr ⟨(lo_iload_tl _ _), ?_⟩
  refine List.forall_mem_cons.mpr ⟨(lo_pushI_tl _ _), ?_⟩
  refine List.forall_mem_cons.mpr ⟨lo_none_tl, ?_⟩
  refine List.forall_mem_cons.mpr ⟨(lo_iid_tl _ _), ?_⟩
  refine List.forall_mem_cons.mpr ⟨(lo_ii_tl _ _), ?_⟩
  refine List.forall_mem_cons.mpr ⟨(lo_goto_tl _), ?_⟩
  refine List.forall_mem_cons.mpr ⟨lo_none_tl, ?_⟩
  refine List.forall_mem_cons.mpr ⟨lo_none_tl, ?_⟩
  refine List.forall_mem_cons.mpr ⟨(lo_pushI_tl _ _), ?_⟩
  refine List.forall_mem_cons.mpr ⟨lo_none_tl, ?_⟩
  refine List.forall_mem_cons.mpr ⟨(lo_iload_tl _ _), ?_⟩
  refine List.forall_mem_cons.mpr ⟨(lo_pushI_tl _ _), ?_⟩
  refine List.forall_mem_cons.mpr ⟨lo_none_tl, ?_⟩
  refine List.forall_mem_cons.mpr ⟨(lo_iid_tl _ _), ?_⟩
  refine List.forall_mem_cons.mpr ⟨(lo_ii_tl _ _), ?_⟩
  refine List.forall_mem_cons.mpr ⟨(lo_istore_tl _ _), ?_⟩
  refine List.forall_mem_cons.mpr ⟨lo_none_tl, ?_⟩
  refine List.forall_mem_cons.mpr ⟨(lo_iload_tl _ _), ?_⟩
  refine List.forall_mem_cons.mpr ⟨(lo_if_tl _ _ _), ?_⟩
  refine List.forall_mem_cons.mpr ⟨lo_none_tl, ?_⟩
  refine List.forall_mem_cons.mpr ⟨lo_none_tl, ?_⟩
  refine List.forall_mem_cons.mpr ⟨(lo_pushI_tl _ _), ?_⟩
  refine List.forall_mem_cons.mpr ⟨(lo_iload_tl _ _), ?_⟩
  refine List.forall_mem_cons.mpr ⟨(lo_pushI_tl _ _), ?_⟩
  refine List.forall_mem_cons.mpr ⟨lo_none_tl, ?_⟩
  refine List.forall_mem_cons.mpr ⟨(lo_iid_tl _ _), ?_⟩
  refine List.forall_mem_cons.mpr ⟨(lo_ii_tl _ _), ?_⟩
  refine List.forall_mem_cons.mpr ⟨(lo_goto_tl _), ?_⟩
  refine List.forall_mem_cons.mpr ⟨lo_none_tl, ?_⟩
  refine List.forall_mem_cons.mpr ⟨lo_none_tl, ?_⟩
  refine List.forall_mem_cons.mpr ⟨(lo_pushI_tl _ _), ?_⟩
  refine List.forall_mem_cons.mpr ⟨(lo_iload_tl _ _), ?_⟩
  refine List.forall_mem_cons.mpr ⟨(lo_pushI_tl _ _), ?_⟩
  refine List.forall_mem_cons.mpr ⟨lo_none_tl, ?_⟩
  refine List.forall_mem_cons.mpr ⟨(lo_iid_tl _ _), ?_⟩
  refine List.forall_mem_cons.mpr ⟨(lo_ii_tl _ _), ?_⟩
  refine List.forall_mem_cons.mpr ⟨(lo_istore_tl _ _), ?_⟩
  refine List.forall_mem_cons.mpr ⟨lo_none_tl, ?_⟩
  refine List.forall_mem_cons.mpr ⟨(lo_aload_tl _ _), ?_⟩
  refine List.forall_mem_cons.mpr ⟨(lo_calls_tl _ _ _ _ _), ?_⟩
  refine List.forall_mem_cons.mpr ⟨lo_none_tl, ?_⟩
  refine List.forall_mem_cons.mpr ⟨lo_none_tl, ?_⟩
  refine List.forall_mem_cons.mpr ⟨(lo_lstore_tl _ _), ?_⟩
  refine List.forall_mem_cons.mpr ⟨lo_none_tl, ?_⟩
  refine List.forall_mem_cons.mpr ⟨(lo_aload_tl _ _), ?_⟩
  refine List.forall_mem_cons.mpr ⟨(lo_pushI_tl _ _), ?_⟩
  refine List.forall_mem_cons.mpr ⟨(lo_iload_tl _ _), ?_⟩
  refine List.forall_mem_cons.mpr ⟨lo_none_tl, ?_⟩
  refine List.forall_mem_cons.mpr ⟨(lo_pushI_tl _ _), ?_⟩
  refine List.forall_mem_cons.mpr ⟨(lo_pushI_tl _ _), ?_⟩
  refine List.forall_mem_cons.mpr ⟨(lo_pushI_tl _ _), ?_⟩
  refine List.forall_mem_cons.mpr ⟨(lo_pushI_tl _ _), ?_⟩
  refine List.forall_mem_cons.mpr ⟨(lo_pushI_tl _ _), ?_⟩
  refine List.forall_mem_cons.mpr ⟨(lo_calls_tl _ _ _ _ _), ?_⟩
  refine List.forall_mem_cons.mpr ⟨lo_none_tl, ?_⟩
  refine List.forall_mem_cons.mpr ⟨lo_none_tl, ?_⟩
  refine List.forall_mem_cons.mpr ⟨(lo_pushI_tl _ _), ?_⟩
  refine List.forall_mem_cons.mpr ⟨lo_none_tl, ?_⟩
  refine List.forall_mem_cons.mpr ⟨lo_none_tl, ?_⟩
  refine List.forall_mem_cons.mpr ⟨(lo_icmp_tl _ _ _), ?_⟩
  refine List.forall_mem_cons.mpr ⟨lo_none_tl, ?_⟩
  refine List.forall_mem_cons.mpr ⟨lo_none_tl, ?_⟩
  refine List.forall_mem_cons.mpr ⟨(lo_aload_tl _ _), ?_⟩
  refine List.forall_mem_cons.mpr ⟨(lo_pushI_tl _ _), ?_⟩
  refine List.forall_mem_cons.mpr ⟨(lo_pushI_tl _ _), ?_⟩
  refine List.forall_mem_cons.mpr ⟨(lo_iload_tl _ _), ?_⟩
  refine List.forall_mem_cons.mpr ⟨(lo_if_tl _ _ _), ?_⟩
  refine List.forall_mem_cons.mpr ⟨lo_none_tl, ?_⟩
  refine List.forall_mem_cons.mpr ⟨lo_none_tl, ?_⟩
  refine List.forall_mem_cons.mpr ⟨(lo_pushI_tl _ _), ?_⟩
  refine List.forall_mem_cons.mpr ⟨(lo_iload_tl _ _), ?_⟩
  refine List.forall_mem_cons.mpr ⟨(lo_pushI_tl _ _), ?_⟩
  refine List.forall_mem_cons.mpr ⟨lo_none_tl, ?_⟩
  refine List.forall_mem_cons.mpr ⟨(lo_iid_tl _ _), ?_⟩
  refine List.forall_mem_cons.mpr ⟨(lo_ii_tl _ _), ?_⟩
  refine List.forall_mem_cons.mpr ⟨(lo_goto_tl _), ?_⟩
  refine List.forall_mem_cons.mpr ⟨lo_none_tl, ?_⟩
  refine List.forall_mem_cons.mpr ⟨lo_none_tl, ?_⟩
  refine List.forall_mem_cons.mpr ⟨(lo_pushI_tl _ _), ?_⟩
  refine List.forall_mem_cons.mpr ⟨lo_none_tl, ?_⟩
  refine List.forall_mem_cons.mpr ⟨(lo_pushI_tl _ _), ?_⟩
  refine List.forall_mem_cons.mpr ⟨(lo_pushI_tl _ _), ?_⟩
  refine List.forall_mem_cons.mpr ⟨(lo_pushI_tl _ _), ?_⟩
  refine List.forall_mem_cons.mpr ⟨(lo_pushI_tl _ _), ?_⟩
  refine List.forall_mem_cons.mpr ⟨(lo_calls_tl _ _ _ _ _), ?_⟩
  refine List.forall_mem_cons.mpr ⟨lo_none_tl, ?_⟩
  refine List.forall_mem_cons.mpr ⟨lo_none_tl, ?_⟩
  refine List.forall_mem_cons.mpr ⟨(lo_pushI_tl _ _), ?_⟩
  refine List.forall_mem_cons.mpr ⟨lo_none_tl, ?_⟩
  refine List.forall_mem_cons.mpr ⟨lo_none_tl, ?_⟩
  refine List.forall_mem_cons.mpr ⟨(lo_icmp_tl _ _ _), ?_⟩
  refine List.forall_mem_cons.mpr ⟨lo_none_tl, ?_⟩
  refine List.forall_mem_cons.mpr ⟨lo_none_tl, ?_⟩
  refine List.forall_mem_cons.mpr ⟨(lo_aload_tl _ _), ?_⟩
  refine List.forall_mem_cons.mpr ⟨(lo_pushI_tl _ _), ?_⟩
  refine List.forall_mem_cons.mpr ⟨(lo_pushI_tl _ _), ?_⟩
  refine List.forall_mem_cons.mpr ⟨(lo_iload_tl _ _), ?_⟩
  refine List.forall_mem_cons.mpr ⟨(lo_pushI_tl _ _), ?_⟩
  refine List.forall_mem_cons.mpr ⟨(lo_pushI_tl _ _), ?_⟩
  refine List.forall_mem_cons.mpr ⟨(lo_pushI_tl _ _), ?_⟩
  refine List.forall_mem_cons.mpr ⟨(lo_pushI_tl _ _), ?_⟩
  refine List.forall_mem_cons.mpr ⟨(lo_calls_tl _ _ _ _ _), ?_⟩
  refine List.forall_mem_cons.mpr ⟨lo_none_tl, ?_⟩
  refine List.forall_mem_cons.mpr ⟨lo_none_tl, ?_⟩
  refine List.forall_mem_cons.mpr ⟨(lo_pushI_tl _ _), ?_⟩
  refine List.forall_mem_cons.mpr ⟨lo_none_tl, ?_⟩
  refine List.forall_mem_cons.mpr ⟨lo_none_tl, ?_⟩
  refine List.forall_mem_cons.mpr ⟨(lo_icmp_tl _ _ _), ?_⟩
  refine List.forall_mem_cons.mpr ⟨lo_none_tl, ?_⟩
  refine List.forall_mem_cons.mpr ⟨lo_none_tl, ?_⟩
  refine List.forall_mem_cons.mpr ⟨(lo_aload_tl _ _), ?_⟩
  refine List.forall_mem_cons.mpr ⟨(lo_pushI_tl _ _), ?_⟩
  refine List.forall_mem_cons.mpr ⟨(lo_pushI_tl _ _), ?_⟩
  refine List.forall_mem_cons.mpr ⟨(lo_iload_tl _ _), ?_⟩
  refine List.forall_mem_cons.mpr ⟨(lo_pushI_tl _ _), ?_⟩
  refine List.forall_mem_cons.mpr ⟨(lo_pushI_tl _ _), ?_⟩
  refine List.forall_mem_cons.mpr ⟨(lo_pushI_tl _ _), ?_⟩
  refine List.forall_mem_cons.mpr ⟨(lo_pushI_tl _ _), ?_⟩
  refine List.forall_mem_cons.mpr ⟨(lo_calls_tl _ _ _ _ _), ?_⟩
  refine List.forall_mem_cons.mpr ⟨lo_none_tl, ?_⟩
  refine List.forall_mem_cons.mpr ⟨lo_none_tl, ?_⟩
  refine List.forall_mem_cons.mpr ⟨(lo_pushI_tl _ _), ?_⟩
  refine List.forall_mem_cons.mpr ⟨lo_none_tl, ?_⟩
  refine List.forall_mem_cons.mpr ⟨lo_none_tl, ?_⟩
  refine List.forall_mem_cons.mpr ⟨(lo_icmp_tl _ _ _), ?_⟩
  refine List.forall_mem_cons.mpr ⟨lo_none_tl, ?_⟩
  refine List.forall_mem_cons.mpr ⟨lo_none_tl, ?_⟩
  refine List.forall_mem_cons.mpr ⟨(lo_aload_tl _ _), ?_⟩
  refine List.forall_mem_cons.mpr ⟨(lo_pushI_tl _ _), ?_⟩
  refine List.forall_mem_cons.mpr ⟨(lo_iload_tl _ _), ?_⟩
  refine List.forall_mem_cons.mpr ⟨(lo_pushI_tl _ _), ?_⟩
  refine List.forall_mem_cons.mpr ⟨lo_none_tl, ?_⟩
  refine List.forall_mem_cons.mpr ⟨(lo_pushI_tl _ _), ?_⟩
  refine List.forall_mem_cons.mpr ⟨(lo_pushI_tl _ _), ?_⟩
  refine List.forall_mem_cons.mpr ⟨(lo_pushI_tl _ _), ?_⟩
  refine List.forall_mem_cons.mpr ⟨(lo_pushI_tl _ _), ?_⟩
  refine List.forall_mem_cons.mpr ⟨(lo_calls_tl _ _ _ _ _), ?_⟩
  refine List.forall_mem_cons.mpr ⟨lo_none_tl, ?_⟩
  refine List.forall_mem_cons.mpr ⟨lo_none_tl, ?_⟩
  refine List.forall_mem_cons.mpr ⟨(lo_pushI_tl _ _), ?_⟩
  refine List.forall_mem_cons.mpr ⟨lo_none_tl, ?_⟩
  refine List.forall_mem_cons.mpr ⟨lo_none_tl, ?_⟩
  refine List.forall_mem_cons.mpr ⟨(lo_icmp_tl _ _ _), ?_⟩
  refine List.forall_mem_cons.mpr ⟨lo_none_tl, ?_⟩
  refine List.forall_mem_cons.mpr ⟨lo_none_tl, ?_⟩
  refine List.forall_mem_cons.mpr ⟨(lo_aload_tl _ _), ?_⟩
  refine List.forall_mem_cons.mpr ⟨(lo_pushI_tl _ _), ?_⟩
  refine List.forall_mem_cons.mpr ⟨(lo_iload_tl _ _), ?_⟩
  refine List.forall_mem_cons.mpr ⟨(lo_pushI_tl _ _), ?_⟩
  refine List.forall_mem_cons.mpr ⟨(lo_pushI_tl _ _), ?_⟩
  refine List.forall_mem_cons.mpr ⟨(lo_pushI_tl _ _), ?_⟩
  refine List.forall_mem_cons.mpr ⟨(lo_pushI_tl _ _), ?_⟩
  refine List.forall_mem_cons.mpr ⟨(lo_pushI_tl _ _), ?_⟩
  refine List.forall_mem_cons.mpr ⟨(lo_calls_tl _ _ _ _ _), ?_⟩
  refine List.forall_mem_cons.mpr ⟨lo_none_tl, ?_⟩
  refine List.forall_mem_cons.mpr ⟨lo_none_tl, ?_⟩
  refine List.forall_mem_cons.mpr ⟨(lo_pushI_tl _ _), ?_⟩
  refine List.forall_mem_cons.mpr ⟨lo_none_tl, ?_⟩
  refine List.forall_mem_cons.mpr ⟨lo_none_tl, ?_⟩
  refine List.forall_mem_cons.mpr ⟨(lo_icmp_tl _ _ _), ?_⟩
  refine List.forall_mem_cons.mpr ⟨lo_none_tl, ?_⟩
  refine List.forall_mem_cons.mpr ⟨lo_none_tl, ?_⟩
  refine List.forall_mem_cons.mpr ⟨(lo_aload_tl _ _), ?_⟩
  refine List.forall_mem_cons.mpr ⟨(lo_pushI_tl _ _), ?_⟩
  refine List.forall_mem_cons.mpr ⟨(lo_iload_tl _ _), ?_⟩
  refine List.forall_mem_cons.mpr ⟨(lo_pushI_tl _ _), ?_⟩
  refine List.forall_mem_cons.mpr ⟨(lo_pushI_tl _ _), ?_⟩
  refine List.forall_mem_cons.mpr ⟨(lo_pushI_tl _ _), ?_⟩
  refine List.forall_mem_cons.mpr ⟨(lo_pushI_tl _ _), ?_⟩
  refine List.forall_mem_cons.mpr ⟨(lo_pushI_tl _ _), ?_⟩
  refine List.forall_mem_cons.mpr ⟨(lo_calls_tl _ _ _ _ _), ?_⟩
  refine List.forall_mem_cons.mpr ⟨lo_none_tl, ?_⟩
  refine List.forall_mem_cons.mpr ⟨lo_none_tl, ?_⟩
  refine List.forall_mem_cons.mpr ⟨(lo_pushI_tl _ _), ?_⟩
  refine List.forall_mem_cons.mpr ⟨lo_none_tl, ?_⟩
  refine List.forall_mem_cons.mpr ⟨lo_none_tl, ?_⟩
  refine List.forall_mem_cons.mpr ⟨(lo_icmp_tl _ _ _), ?_⟩
  refine List.forall_mem_cons.mpr ⟨lo_none_tl, ?_⟩
  refine List.forall_mem_cons.mpr ⟨lo_none_tl, ?_⟩
  refine List.forall_mem_cons.mpr ⟨(lo_aload_tl _ _), ?_⟩
  refine List.forall_mem_cons.mpr ⟨(lo_pushI_tl _ _), ?_⟩
  refine List.forall_mem_cons.mpr ⟨lo_none_tl, ?_⟩
  refine List.forall_mem_cons.mpr ⟨(lo_iload_tl _ _), ?_⟩
  refine List.forall_mem_cons.mpr ⟨(lo_if_tl _ _ _), ?_⟩
  refine List.forall_mem_cons.mpr ⟨lo_none_tl, ?_⟩
  refine List.forall_mem_cons.mpr ⟨lo_none_tl, ?_⟩
  refine List.forall_mem_cons.mpr ⟨(lo_pushI_tl _ _), ?_⟩
  refine List.forall_mem_cons.mpr ⟨(lo_iload_tl _ _), ?_⟩
  refine List.forall_mem_cons.mpr ⟨(lo_pushI_tl _ _), ?_⟩
  refine List.forall_mem_cons.mpr ⟨lo_none_tl, ?_⟩
  refine List.forall_mem_cons.mpr ⟨(lo_iid_tl _ _), ?_⟩
  refine List.forall_mem_cons.mpr ⟨(lo_ii_tl _ _), ?_⟩
  refine List.forall_mem_cons.mpr ⟨(lo_goto_tl _), ?_⟩
  refine List.forall_mem_cons.mpr ⟨lo_none_tl, ?_⟩
  refine List.forall_mem_cons.mpr ⟨lo_none_tl, ?_⟩
  refine List.forall_mem_cons.mpr ⟨(lo_pushI_tl _ _), ?_⟩
  refine List.forall_mem_cons.mpr ⟨lo_none_tl, ?_⟩
  refine List.forall_mem_cons.mpr ⟨(lo_pushI_tl _ _), ?_⟩
  refine List.forall_mem_cons.mpr ⟨(lo_pushI_tl _ _), ?_⟩
  refine List.forall_mem_cons.mpr ⟨(lo_pushI_tl _ _), ?_⟩
  refine List.forall_mem_cons.mpr ⟨(lo_pushI_tl _ _), ?_⟩
  refine List.forall_mem_cons.mpr ⟨(lo_pushI_tl _ _), ?_⟩
  refine List.forall_mem_cons.mpr ⟨(lo_calls_tl _ _ _ _ _), ?_⟩
  refine List.forall_mem_cons.mpr ⟨lo_none_tl, ?_⟩
  refine List.forall_mem_cons.mpr ⟨lo_none_tl, ?_⟩
  refine List.forall_mem_cons.mpr ⟨(lo_pushI_tl _ _), ?_⟩
  refine List.forall_mem_cons.mpr ⟨lo_none_tl, ?_⟩
  refine List.forall_mem_cons.mpr ⟨lo_none_tl, ?_⟩
  refine List.forall_mem_cons.mpr ⟨(lo_icmp_tl _ _ _), ?_⟩
  refine List.forall_mem_cons.mpr ⟨lo_none_tl, ?_⟩
  refine List.forall_mem_cons.mpr ⟨lo_none_tl, ?_⟩
  refine List.forall_mem_cons.mpr ⟨(lo_aload_tl _ _), ?_⟩
  refine List.forall_mem_cons.mpr ⟨(lo_pushI_tl _ _), ?_⟩
  refine List.forall_mem_cons.mpr ⟨lo_none_tl, ?_⟩
  refine List.forall_mem_cons.mpr ⟨(lo_pushI_tl _ _), ?_⟩
  refine List.forall_mem_cons.mpr ⟨(lo_pushI_tl _ _), ?_⟩
  refine List.forall_mem_cons.mpr ⟨(lo_iload_tl _ _), ?_⟩
  refine List.forall_mem_cons.mpr ⟨(lo_pushI_tl _ _), ?_⟩
  refine List.forall_mem_cons.mpr ⟨lo_none_tl, ?_⟩
  refine List.forall_mem_cons.mpr ⟨(lo_iid_tl _ _), ?_⟩
  refine List.forall_mem_cons.mpr ⟨(lo_pushI_tl _ _), ?_⟩
  refine List.forall_mem_cons.mpr ⟨(lo_ii_tl _ _), ?_⟩
  refine List.forall_mem_cons.mpr ⟨(lo_iload_tl _ _), ?_⟩
  refine List.forall_mem_cons.mpr ⟨(lo_pushI_tl _ _), ?_⟩
  refine List.forall_mem_cons.mpr ⟨lo_none_tl, ?_⟩
  refine List.forall_mem_cons.mpr ⟨(lo_iid_tl _ _), ?_⟩
  refine List.forall_mem_cons.mpr ⟨(lo_pushI_tl _ _), ?_⟩
  refine List.forall_mem_cons.mpr ⟨(lo_pushI_tl _ _), ?_⟩
  refine List.forall_mem_cons.mpr ⟨(lo_calls_tl _ _ _ _ _), ?_⟩
  refine List.forall_mem_cons.mpr ⟨lo_none_tl, ?_⟩
  refine List.forall_mem_cons.mpr ⟨lo_none_tl, ?_⟩
  refine List.forall_mem_cons.mpr ⟨(lo_pushI_tl _ _), ?_⟩
  refine List.forall_mem_cons.mpr ⟨lo_none_tl, ?_⟩
  refine List.forall_mem_cons.mpr ⟨lo_none_tl, ?_⟩
  refine List.forall_mem_cons.mpr ⟨(lo_icmp_tl _ _ _), ?_⟩
  refine List.forall_mem_cons.mpr ⟨lo_none_tl, ?_⟩
  refine List.forall_mem_cons.mpr ⟨lo_none_tl, ?_⟩
  refine List.forall_mem_cons.mpr ⟨(lo_aload_tl _ _), ?_⟩
  refine List.forall_mem_cons.mpr ⟨(lo_pushI_tl _ _), ?_⟩
  refine List.forall_mem_cons.mpr ⟨lo_none_tl, ?_⟩
  refine List.forall_mem_cons.mpr ⟨(lo_pushI_tl _ _), ?_⟩
  refine List.forall_mem_cons.mpr ⟨(lo_pushI_tl _ _), ?_⟩
  refine List.forall_mem_cons.mpr ⟨(lo_pushI_tl _ _), ?_⟩
  refine List.forall_mem_cons.mpr ⟨(lo_pushI_tl _ _), ?_⟩
  refine List.forall_mem_cons.mpr ⟨(lo_pushI_tl _ _), ?_⟩
  refine List.forall_mem_cons.mpr ⟨(lo_pushI_tl _ _), ?_⟩
  refine List.forall_mem_cons.mpr ⟨(lo_calls_tl _ _ _ _ _), ?_⟩
  refine List.forall_mem_cons.mpr ⟨lo_none_tl, ?_⟩
  refine List.forall_mem_cons.mpr ⟨lo_none_tl, ?_⟩
  refine List.forall_mem_cons.mpr ⟨(lo_pushI_tl _ _), ?_⟩
  refine List.forall_mem_cons.mpr ⟨lo_none_tl, ?_⟩
  refine List.forall_mem_cons.mpr ⟨lo_none_tl, ?_⟩
  refine List.forall_mem_cons.mpr ⟨(lo_icmp_tl _ _ _), ?_⟩
  refine List.forall_mem_cons.mpr ⟨lo_none_tl, ?_⟩
  refine List.forall_mem_cons.mpr ⟨lo_none_tl, ?_⟩
  refine List.forall_mem_cons.mpr ⟨(lo_aload_tl _ _), ?_⟩
  refine List.forall_mem_cons.mpr ⟨(lo_pushI_tl _ _), ?_⟩
  refine List.forall_mem_cons.mpr ⟨lo_none_tl, ?_⟩
  refine List.forall_mem_cons.mpr ⟨(lo_pushI_tl _ _), ?_⟩
  refine List.forall_mem_cons.mpr ⟨(lo_pushI_tl _ _), ?_⟩
  refine List.forall_mem_cons.mpr ⟨(lo_pushI_tl _ _), ?_⟩
  refine List.forall_mem_cons.mpr ⟨(lo_pushI_tl _ _), ?_⟩
  refine List.forall_mem_cons.mpr ⟨(lo_pushI_tl _ _), ?_⟩
  refine List.forall_mem_cons.mpr ⟨(lo_iload_tl _ _), ?_⟩
  refine List.forall_mem_cons.mpr ⟨(lo_if_tl _ _ _), ?_⟩
  refine List.forall_mem_cons.mpr ⟨lo_none_tl, ?_⟩
  refine List.forall_mem_cons.mpr ⟨lo_none_tl, ?_⟩
  refine List.forall_mem_cons.mpr ⟨(lo_pushI_tl _ _), ?_⟩
  refine List.forall_mem_cons.mpr ⟨(lo_iload_tl _ _), ?_⟩
  refine List.forall_mem_cons.mpr ⟨(lo_pushI_tl _ _), ?_⟩
  refine List.forall_mem_cons.mpr ⟨lo_none_tl, ?_⟩
  refine List.forall_mem_cons.mpr ⟨(lo_iid_tl _ _), ?_⟩
  refine List.forall_mem_cons.mpr ⟨(lo_ii_tl _ _), ?_⟩
  refine List.forall_mem_cons.mpr ⟨(lo_goto_tl _), ?_⟩
  refine List.forall_mem_cons.mpr ⟨lo_none_tl, ?_⟩
  refine List.forall_mem_cons.mpr ⟨lo_none_tl, ?_⟩
  refine List.forall_mem_cons.mpr ⟨(lo_pushI_tl _ _), ?_⟩
  refine List.forall_mem_cons.mpr ⟨lo_none_tl, ?_⟩
  refine List.forall_mem_cons.mpr ⟨(lo_calls_tl _ _ _ _ _), ?_⟩
  refine List.forall_mem_cons.mpr ⟨lo_none_tl, ?_⟩
  refine List.forall_mem_cons.mpr ⟨lo_none_tl, ?_⟩
  refine List.forall_mem_cons.mpr ⟨(lo_pushI_tl _ _), ?_⟩
  refine List.forall_mem_cons.mpr ⟨lo_none_tl, ?_⟩
  refine List.forall_mem_cons.mpr ⟨lo_none_tl, ?_⟩
  refine List.forall_mem_cons.mpr ⟨(lo_icmp_tl _ _ _), ?_⟩
  refine List.forall_mem_cons.mpr ⟨lo_none_tl, ?_⟩
  refine List.forall_mem_cons.mpr ⟨lo_none_tl, ?_⟩
  refine List.forall_mem_cons.mpr ⟨(lo_aload_tl _ _), ?_⟩
  refine List.forall_mem_cons.mpr ⟨(lo_pushI_tl _ _), ?_⟩
  refine List.forall_mem_cons.mpr ⟨lo_none_tl, ?_⟩
  refine List.forall_mem_cons.mpr ⟨(lo_pushI_tl _ _), ?_⟩
  refine List.forall_mem_cons.mpr ⟨(lo_pushI_tl _ _), ?_⟩
  refine List.forall_mem_cons.mpr ⟨(lo_pushI_tl _ _), ?_⟩
  refine List.forall_mem_cons.mpr ⟨(lo_pushI_tl _ _), ?_⟩
  refine List.forall_mem_cons.mpr ⟨(lo_pushI_tl _ _), ?_⟩
  refine List.forall_mem_cons.mpr ⟨(lo_pushI_tl _ _), ?_⟩
  refine List.forall_mem_cons.mpr ⟨(lo_calls_tl _ _ _ _ _), ?_⟩
  refine List.forall_mem_cons.mpr ⟨lo_none_tl, ?_⟩
  refine List.forall_mem_cons.mpr ⟨lo_none_tl, ?_⟩
  refine List.forall_mem_cons.mpr ⟨(lo_pushI_tl _ _), ?_⟩
  refine List.forall_mem_cons.mpr ⟨lo_none_tl, ?_⟩
  refine List.forall_mem_cons.mpr ⟨lo_none_tl, ?_⟩
  refine List.forall_mem_cons.mpr ⟨(lo_icmp_tl _ _ _), ?_⟩
  refine List.forall_mem_cons.mpr ⟨lo_none_tl, ?_⟩
  refine List.forall_mem_cons.mpr ⟨lo_none_tl, ?_⟩
  refine List.forall_mem_cons.mpr ⟨(lo_aload_tl _ _), ?_⟩
  refine List.forall_mem_cons.mpr ⟨(lo_pushI_tl _ _), ?_⟩
  refine List.forall_mem_cons.mpr ⟨lo_none_tl, ?_⟩
  refine List.forall_mem_cons.mpr ⟨(lo_iload_tl _ _), ?_⟩
  refine List.forall_mem_cons.mpr ⟨(lo_if_tl _ _ _), ?_⟩
  refine List.forall_mem_cons.mpr ⟨lo_none_tl, ?_⟩
  refine List.forall_mem_cons.mpr ⟨lo_none_tl, ?_⟩
  refine List.forall_mem_cons.mpr ⟨(lo_pushI_tl _ _), ?_⟩
  refine List.forall_mem_cons.mpr ⟨(lo_iload_tl _ _), ?_⟩
  refine List.forall_mem_cons.mpr ⟨(lo_pushI_tl _ _), ?_⟩
  refine List.forall_mem_cons.mpr ⟨lo_none_tl, ?_⟩
  refine List.forall_mem_cons.mpr ⟨(lo_iid_tl _ _), ?_⟩
  refine List.forall_mem_cons.mpr ⟨(lo_ii_tl _ _), ?_⟩
  refine List.forall_mem_cons.mpr ⟨(lo_goto_tl _), ?_⟩
  refine List.forall_mem_cons.mpr ⟨lo_none_tl, ?_⟩
  refine List.forall_mem_cons.mpr ⟨lo_none_tl, ?_⟩
  refine List.forall_mem_cons.mpr ⟨(lo_pushI_tl _ _), ?_⟩
  refine List.forall_mem_cons.mpr ⟨lo_none_tl, ?_⟩
  refine List.forall_mem_cons.mpr ⟨(lo_pushI_tl _ _), ?_⟩
  refine List.forall_mem_cons.mpr ⟨(lo_pushI_tl _ _), ?_⟩
  refine List.forall_mem_cons.mpr ⟨(lo_pushI_tl _ _), ?_⟩
  refine List.forall_mem_cons.mpr ⟨(lo_pushI_tl _ _), ?_⟩
  refine List.forall_mem_cons.mpr ⟨(lo_pushI_tl _ _), ?_⟩
  refine List.forall_mem_cons.mpr ⟨(lo_calls_tl _ _ _ _ _), ?_⟩
  refine List.forall_mem_cons.mpr ⟨lo_none_tl, ?_⟩
  refine List.forall_mem_cons.mpr ⟨lo_none_tl, ?_⟩
  refine List.forall_mem_cons.mpr ⟨(lo_pushI_tl _ _), ?_⟩
  refine List.forall_mem_cons.mpr ⟨lo_none_tl, ?_⟩
  refine List.forall_mem_cons.mpr ⟨lo_none_tl, ?_⟩
  refine List.forall_mem_cons.mpr ⟨(lo_icmp_tl _ _ _), ?_⟩
  refine List.forall_mem_cons.mpr ⟨lo_none_tl, ?_⟩
  refine List.forall_mem_cons.mpr ⟨lo_none_tl, ?_⟩
  refine List.forall_mem_cons.mpr ⟨(lo_aload_tl _ _), ?_⟩
  refine List.forall_mem_cons.mpr ⟨(lo_pushI_tl _ _), ?_⟩
  refine List.forall_mem_cons.mpr ⟨lo_none_tl, ?_⟩
  refine List.forall_mem_cons.mpr ⟨(lo_iload_tl _ _), ?_⟩
  refine List.forall_mem_cons.mpr ⟨lo_none_tl, ?_⟩
  refine List.forall_mem_cons.mpr ⟨(lo_pushI_tl _ _), ?_⟩
  refine List.forall_mem_cons.mpr ⟨(lo_pushI_tl _ _), ?_⟩
  refine List.forall_mem_cons.mpr ⟨(lo_pushI_tl _ _), ?_⟩
  refine List.forall_mem_cons.mpr ⟨(lo_pushI_tl _ _), ?_⟩
  refine List.forall_mem_cons.mpr ⟨(lo_pushI_tl _ _), ?_⟩
  refine List.forall_mem_cons.mpr ⟨(lo_calls_tl _ _ _ _ _), ?_⟩
  refine List.forall_mem_cons.mpr ⟨lo_none_tl, ?_⟩
  refine List.forall_mem_cons.mpr ⟨lo_none_tl, ?_⟩
  refine List.forall_mem_cons.mpr ⟨(lo_pushI_tl _ _), ?_⟩
  refine List.forall_mem_cons.mpr ⟨lo_none_tl, ?_⟩
  refine List.forall_mem_cons.mpr ⟨lo_none_tl, ?_⟩
  refine List.forall_mem_cons.mpr ⟨(lo_icmp_tl _ _ _), ?_⟩
  refine List.forall_mem_cons.mpr ⟨lo_none_tl, ?_⟩
  refine List.forall_mem_cons.mpr ⟨lo_none_tl, ?_⟩
  refine List.forall_mem_cons.mpr ⟨(lo_aload_tl _ _), ?_⟩
  refine List.forall_mem_cons.mpr ⟨(lo_pushI_tl _ _), ?_⟩
  refine List.forall_mem_cons.mpr ⟨lo_none_tl, ?_⟩
  refine List.forall_mem_cons.mpr ⟨(lo_pushI_tl _ _), ?_⟩
  refine List.forall_mem_cons.mpr ⟨(lo_iload_tl _ _), ?_⟩
  refine List.forall_mem_cons.mpr ⟨(lo_if_tl _ _ _), ?_⟩
  refine List.forall_mem_cons.mpr ⟨lo_none_tl, ?_⟩
  refine List.forall_mem_cons.mpr ⟨lo_none_tl, ?_⟩
  refine List.forall_mem_cons.mpr ⟨(lo_pushI_tl _ _), ?_⟩
  refine List.forall_mem_cons.mpr ⟨(lo_iload_tl _ _), ?_⟩
  refine List.forall_mem_cons.mpr ⟨(lo_pushI_tl _ _), ?_⟩
  refine List.forall_mem_cons.mpr ⟨lo_none_tl, ?_⟩
  refine List.forall_mem_cons.mpr ⟨(lo_iid_tl _ _), ?_⟩
  refine List.forall_mem_cons.mpr ⟨(lo_ii_tl _ _), ?_⟩
  refine List.forall_mem_cons.mpr ⟨(lo_goto_tl _), ?_⟩
  refine List.forall_mem_cons.mpr ⟨lo_none_tl, ?_⟩
  refine List.forall_mem_cons.mpr ⟨lo_none_tl, ?_⟩
  refine List.forall_mem_cons.mpr ⟨(lo_pushI_tl _ _), ?_⟩
  refine List.forall_mem_cons.mpr ⟨lo_none_tl, ?_⟩
  refine List.forall_mem_cons.mpr ⟨lo_none_tl, ?_⟩
  refine List.forall_mem_cons.mpr ⟨(lo_pushI_tl _ _), ?_⟩
  refine List.forall_mem_cons.mpr ⟨(lo_pushI_tl _ _), ?_⟩
  refine List.forall_mem_cons.mpr ⟨(lo_pushI_tl _ _), ?_⟩
  refine List.forall_mem_cons.mpr ⟨(lo_pushI_tl _ _), ?_⟩
  refine List.forall_mem_cons.mpr ⟨(lo_calls_tl _ _ _ _ _), ?_⟩
  refine List.forall_mem_cons.mpr ⟨lo_none_tl, ?_⟩
  refine List.forall_mem_cons.mpr ⟨lo_none_tl, ?_⟩
  refine List.forall_mem_cons.mpr ⟨(lo_pushI_tl _ _), ?_⟩
  refine List.forall_mem_cons.mpr ⟨lo_none_tl, ?_⟩
  refine List.forall_mem_cons.mpr ⟨lo_none_tl, ?_⟩
  refine List.forall_mem_cons.mpr ⟨(lo_icmp_tl _ _ _), ?_⟩
  refine List.forall_mem_cons.mpr ⟨lo_none_tl, ?_⟩
  refine List.forall_mem_cons.mpr ⟨lo_none_tl, ?_⟩
  refine List.forall_mem_cons.mpr ⟨(lo_aload_tl _ _), ?_⟩
  refine List.forall_mem_cons.mpr ⟨(lo_pushI_tl _ _), ?_⟩
  refine List.forall_mem_cons.mpr ⟨lo_none_tl, ?_⟩
  refine List.forall_mem_cons.mpr ⟨(lo_iload_tl _ _), ?_⟩
  refine List.forall_mem_cons.mpr ⟨lo_none_tl, ?_⟩
  refine List.forall_mem_cons.mpr ⟨(lo_pushI_tl _ _), ?_⟩
  refine List.forall_mem_cons.mpr ⟨(lo_pushI_tl _ _), ?_⟩
  refine List.forall_mem_cons.mpr ⟨(lo_pushI_tl _ _), ?_⟩
  refine List.forall_mem_cons.mpr ⟨(lo_pushI_tl _ _), ?_⟩
  refine List.forall_mem_cons.mpr ⟨(lo_pushI_tl _ _), ?_⟩
  refine List.forall_mem_cons.mpr ⟨(lo_calls_tl _ _ _ _ _), ?_⟩
  refine List.forall_mem_cons.mpr ⟨lo_none_tl, ?_⟩
  refine List.forall_mem_cons.mpr ⟨lo_none_tl, ?_⟩
  refine List.forall_mem_cons.mpr ⟨(lo_pushI_tl _ _), ?_⟩
  refine List.forall_mem_cons.mpr ⟨lo_none_tl, ?_⟩
  refine List.forall_mem_cons.mpr ⟨lo_none_tl, ?_⟩
  refine List.forall_mem_cons.mpr ⟨(lo_icmp_tl _ _ _), ?_⟩
  refine List.forall_mem_cons.mpr ⟨lo_none_tl, ?_⟩
  refine List.forall_mem_cons.mpr ⟨lo_none_tl, ?_⟩
  refine List.forall_mem_cons.mpr ⟨(lo_aload_tl _ _), ?_⟩
  refine List.forall_mem_cons.mpr ⟨(lo_pushI_tl _ _), ?_⟩
  refine List.forall_mem_cons.mpr ⟨lo_none_tl, ?_⟩
  refine List.forall_mem_cons.mpr ⟨(lo_iload_tl _ _), ?_⟩
  refine List.forall_mem_cons.mpr ⟨(lo_if_tl _ _ _), ?_⟩
  refine List.forall_mem_cons.mpr ⟨lo_none_tl, ?_⟩
  refine List.forall_mem_cons.mpr ⟨lo_none_tl, ?_⟩
  refine List.forall_mem_cons.mpr ⟨(lo_pushI_tl _ _), ?_⟩
  refine List.forall_mem_cons.mpr ⟨(lo_iload_tl _ _), ?_⟩
  refine List.forall_mem_cons.mpr ⟨(lo_pushI_tl _ _), ?_⟩
  refine List.forall_mem_cons.mpr ⟨lo_none_tl, ?_⟩
  refine List.forall_mem_cons.mpr ⟨(lo_iid_tl _ _), ?_⟩
  refine List.forall_mem_cons.mpr ⟨(lo_ii_tl _ _), ?_⟩
  refine List.forall_mem_cons.mpr ⟨(lo_goto_tl _), ?_⟩
  refine List.forall_mem_cons.mpr ⟨lo_none_tl, ?_⟩
  refine List.forall_mem_cons.mpr ⟨lo_none_tl, ?_⟩
  refine List.forall_mem_cons.mpr ⟨(lo_pushI_tl _ _), ?_⟩
  refine List.forall_mem_cons.mpr ⟨lo_none_tl, ?_⟩
  refine List.forall_mem_cons.mpr ⟨(lo_pushI_tl _ _), ?_⟩
  refine List.forall_mem_cons.mpr ⟨(lo_pushI_tl _ _), ?_⟩
  refine List.forall_mem_cons.mpr ⟨(lo_pushI_tl _ _), ?_⟩
  refine List.forall_mem_cons.mpr ⟨(lo_pushI_tl _ _), ?_⟩
  refine List.forall_mem_cons.mpr ⟨(lo_pushI_tl _ _), ?_⟩
  refine List.forall_mem_cons.mpr ⟨(lo_calls_tl _ _ _ _ _), ?_⟩
  refine List.forall_mem_cons.mpr ⟨lo_none_tl, ?_⟩
  refine List.forall_mem_cons.mpr ⟨lo_none_tl, ?_⟩
  refine List.forall_mem_cons.mpr ⟨(lo_pushI_tl _ _), ?_⟩
  refine List.forall_mem_cons.mpr ⟨lo_none_tl, ?_⟩
  refine List.forall_mem_cons.mpr ⟨lo_none_tl, ?_⟩
  refine List.forall_mem_cons.mpr ⟨(lo_icmp_tl _ _ _), ?_⟩
  refine List.forall_mem_cons.mpr ⟨lo_none_tl, ?_⟩
  refine List.forall_mem_cons.mpr ⟨lo_none_tl, ?_⟩
  refine List.forall_mem_cons.mpr ⟨(lo_aload_tl _ _), ?_⟩
  refine List.forall_mem_cons.mpr ⟨(lo_pushI_tl _ _), ?_⟩
  refine List.forall_mem_cons.mpr ⟨lo_none_tl, ?_⟩
  refine List.forall_mem_cons.mpr ⟨(lo_iload_tl _ _), ?_⟩
  refine List.forall_mem_cons.mpr ⟨lo_none_tl, ?_⟩
  refine List.forall_mem_cons.mpr ⟨(lo_pushI_tl _ _), ?_⟩
  refine List.forall_mem_cons.mpr ⟨(lo_pushI_tl _ _), ?_⟩
  refine List.forall_mem_cons.mpr ⟨(lo_pushI_tl _ _), ?_⟩
  refine List.forall_mem_cons.mpr ⟨(lo_pushI_tl _ _), ?_⟩
  refine List.forall_mem_cons.mpr ⟨(lo_pushI_tl _ _), ?_⟩
  refine List.forall_mem_cons.mpr ⟨(lo_calls_tl _ _ _ _ _), ?_⟩
  refine List.forall_mem_cons.mpr ⟨lo_none_tl, ?_⟩
  refine List.forall_mem_cons.mpr ⟨lo_none_tl, ?_⟩
  refine List.forall_mem_cons.mpr ⟨(lo_pushI_tl _ _), ?_⟩
  refine List.forall_mem_cons.mpr ⟨lo_none_tl, ?_⟩
  refine List.forall_mem_cons.mpr ⟨lo_none_tl, ?_⟩
  refine List.forall_mem_cons.mpr ⟨(lo_icmp_tl _ _ _), ?_⟩
  refine List.forall_mem_cons.mpr ⟨lo_none_tl, ?_⟩
  refine List.forall_mem_cons.mpr ⟨lo_none_tl, ?_⟩
  refine List.forall_mem_cons.mpr ⟨(lo_aload_tl _ _), ?_⟩
  refine List.forall_mem_cons.mpr ⟨(lo_pushI_tl _ _), ?_⟩
  refine List.forall_mem_cons.mpr ⟨lo_none_tl, ?_⟩
  refine List.forall_mem_cons.mpr ⟨(lo_pushI_tl _ _), ?_⟩
  refine List.forall_mem_cons.mpr ⟨(lo_iload_tl _ _), ?_⟩
  refine List.forall_mem_cons.mpr ⟨(lo_if_tl _ _ _), ?_⟩
  refine List.forall_mem_cons.mpr ⟨lo_none_tl, ?_⟩
  refine List.forall_mem_cons.mpr ⟨lo_none_tl, ?_⟩
  refine List.forall_mem_cons.mpr ⟨(lo_pushI_tl _ _), ?_⟩
  refine List.forall_mem_cons.mpr ⟨(lo_iload_tl _ _), ?_⟩
  refine List.forall_mem_cons.mpr ⟨(lo_pushI_tl _ _), ?_⟩
  refine List.forall_mem_cons.mpr ⟨lo_none_tl, ?_⟩
  refine List.forall_mem_cons.mpr ⟨(lo_iid_tl _ _), ?_⟩
  refine List.forall_mem_cons.mpr ⟨(lo_ii_tl _ _), ?_⟩
  refine List.forall_mem_cons.mpr ⟨(lo_goto_tl _), ?_⟩
  refine List.forall_mem_cons.mpr ⟨lo_none_tl, ?_⟩
  refine List.forall_mem_cons.mpr ⟨lo_none_tl, ?_⟩
  refine List.forall_mem_cons.mpr ⟨(lo_aload_tl _ _), ?_⟩
  refine List.forall_mem_cons.mpr ⟨(lo_callv_tl _ _ _ _), ?_⟩
  refine List.forall_mem_cons.mpr ⟨lo_none_tl, ?_⟩
  refine List.forall_mem_cons.mpr ⟨lo_none_tl, ?_⟩
  refine List.forall_mem_cons.mpr ⟨(lo_pushI_tl _ _), ?_⟩
  refine List.forall_mem_cons.mpr ⟨(lo_ii_tl _ _), ?_⟩
  refine List.forall_mem_cons.mpr ⟨(lo_pushI_tl _ _), ?_⟩
  refine List.forall_mem_cons.mpr ⟨(lo_pushI_tl _ _), ?_⟩
  refine List.forall_mem_cons.mpr ⟨(lo_pushI_tl _ _), ?_⟩
  refine List.forall_mem_cons.mpr ⟨(lo_pushI_tl _ _), ?_⟩
  refine List.forall_mem_cons.mpr ⟨(lo_calls_tl _ _ _ _ _), ?_⟩
  refine List.forall_mem_cons.mpr ⟨lo_none_tl, ?_⟩
  refine List.forall_mem_cons.mpr ⟨lo_none_tl, ?_⟩
  refine List.forall_mem_cons.mpr ⟨(lo_pushI_tl _ _), ?_⟩
  refine List.forall_mem_cons.mpr ⟨lo_none_tl, ?_⟩
  refine List.forall_mem_cons.mpr ⟨lo_none_tl, ?_⟩
  refine List.forall_mem_cons.mpr ⟨(lo_icmp_tl _ _ _), ?_⟩
  refine List.forall_mem_cons.mpr ⟨lo_none_tl, ?_⟩
  refine List.forall_mem_cons.mpr ⟨lo_none_tl, ?_⟩
  refine List.forall_mem_cons.mpr ⟨(lo_aload_tl _ _), ?_⟩
  refine List.forall_mem_cons.mpr ⟨(lo_pushI_tl _ _), ?_⟩
  refine List.forall_mem_cons.mpr ⟨lo_none_tl, ?_⟩
  refine List.forall_mem_cons.mpr ⟨(lo_iload_tl _ _), ?_⟩
  refine List.forall_mem_cons.mpr ⟨lo_none_tl, ?_⟩
  refine List.forall_mem_cons.mpr ⟨(lo_pushI_tl _ _), ?_⟩
  refine List.forall_mem_cons.mpr ⟨(lo_pushI_tl _ _), ?_⟩
  refine List.forall_mem_cons.mpr ⟨(lo_pushI_tl _ _), ?_⟩
  refine List.forall_mem_cons.mpr ⟨(lo_pushI_tl _ _), ?_⟩
  refine List.forall_mem_cons.mpr ⟨(lo_pushI_tl _ _), ?_⟩
  refine List.forall_mem_cons.mpr ⟨(lo_calls_tl _ _ _ _ _), ?_⟩
  refine List.forall_mem_cons.mpr ⟨lo_none_tl, ?_⟩
  refine List.forall_mem_cons.mpr ⟨lo_none_tl, ?_⟩
  refine List.forall_mem_cons.mpr ⟨(lo_pushI_tl _ _), ?_⟩
  refine List.forall_mem_cons.mpr ⟨lo_none_tl, ?_⟩
  refine List.forall_mem_cons.mpr ⟨lo_none_tl, ?_⟩
  refine List.forall_mem_cons.mpr ⟨(lo_icmp_tl _ _ _), ?_⟩
  refine List.forall_mem_cons.mpr ⟨lo_none_tl, ?_⟩
  refine List.forall_mem_cons.mpr ⟨lo_none_tl, ?_⟩
  refine List.forall_mem_cons.mpr ⟨(lo_aload_tl _ _), ?_⟩
  refine List.forall_mem_cons.mpr ⟨(lo_pushI_tl _ _), ?_⟩
  refine List.forall_mem_cons.mpr ⟨lo_none_tl, ?_⟩
  refine List.forall_mem_cons.mpr ⟨(lo_iload_tl _ _), ?_⟩
  refine List.forall_mem_cons.mpr ⟨(lo_if_tl _ _ _), ?_⟩
  refine List.forall_mem_cons.mpr ⟨lo_none_tl, ?_⟩
  refine List.forall_mem_cons.mpr ⟨lo_none_tl, ?_⟩
  refine List.forall_mem_cons.mpr ⟨(lo_pushI_tl _ _), ?_⟩
  refine List.forall_mem_cons.mpr ⟨(lo_iload_tl _ _), ?_⟩
  refine List.forall_mem_cons.mpr ⟨(lo_pushI_tl _ _), ?_⟩
  refine List.forall_mem_cons.mpr ⟨lo_none_tl, ?_⟩
  refine List.forall_mem_cons.mpr ⟨(lo_iid_tl _ _), ?_⟩
  refine List.forall_mem_cons.mpr ⟨(lo_ii_tl _ _), ?_⟩
  refine List.forall_mem_cons.mpr ⟨(lo_goto_tl _), ?_⟩
  refine List.forall_mem_cons.mpr ⟨lo_none_tl, ?_⟩
  refine List.forall_mem_cons.mpr ⟨lo_none_tl, ?_⟩
  refine List.forall_mem_cons.mpr ⟨(lo_aload_tl _ _), ?_⟩
  refine List.forall_mem_cons.mpr ⟨(lo_callv_tl _ _ _ _), ?_⟩
  refine List.forall_mem_cons.mpr ⟨lo_none_tl, ?_⟩
  refine List.forall_mem_cons.mpr ⟨lo_none_tl, ?_⟩
  refine List.forall_mem_cons.mpr ⟨(lo_pushI_tl _ _), ?_⟩
  refine List.forall_mem_cons.mpr ⟨(lo_ii_tl _ _), ?_⟩
  refine List.forall_mem_cons.mpr ⟨(lo_pushI_tl _ _), ?_⟩
  refine List.forall_mem_cons.mpr ⟨(lo_pushI_tl _ _), ?_⟩
  refine List.forall_mem_cons.mpr ⟨(lo_pushI_tl _ _), ?_⟩
  refine List.forall_mem_cons.mpr ⟨(lo_pushI_tl _ _), ?_⟩
  refine List.forall_mem_cons.mpr ⟨(lo_pushI_tl _ _), ?_⟩
  refine List.forall_mem_cons.mpr ⟨(lo_calls_tl _ _ _ _ _), ?_⟩
  refine List.forall_mem_cons.mpr ⟨lo_none_tl, ?_⟩
  refine List.forall_mem_cons.mpr ⟨lo_none_tl, ?_⟩
  refine List.forall_mem_cons.mpr ⟨(lo_pushI_tl _ _), ?_⟩
  refine List.forall_mem_cons.mpr ⟨lo_none_tl, ?_⟩
  refine List.forall_mem_cons.mpr ⟨lo_none_tl, ?_⟩
  refine List.forall_mem_cons.mpr ⟨(lo_icmp_tl _ _ _), ?_⟩
  refine List.forall_mem_cons.mpr ⟨lo_none_tl, ?_⟩
  refine List.forall_mem_cons.mpr ⟨lo_none_tl, ?_⟩
  refine List.forall_mem_cons.mpr ⟨(lo_aload_tl _ _), ?_⟩
  refine List.forall_mem_cons.mpr ⟨(lo_pushI_tl _ _), ?_⟩
  refine List.forall_mem_cons.mpr ⟨lo_none_tl, ?_⟩
  refine List.forall_mem_cons.mpr ⟨(lo_iload_tl _ _), ?_⟩
  refine List.forall_mem_cons.mpr ⟨(lo_if_tl _ _ _), ?_⟩
  refine List.forall_mem_cons.mpr ⟨lo_none_tl, ?_⟩
  refine List.forall_mem_cons.mpr ⟨lo_none_tl, ?_⟩
  refine List.forall_mem_cons.mpr ⟨(lo_pushI_tl _ _), ?_⟩
  refine List.forall_mem_cons.mpr ⟨(lo_iload_tl _ _), ?_⟩
  refine List.forall_mem_cons.mpr ⟨(lo_pushI_tl _ _), ?_⟩
  refine List.forall_mem_cons.mpr ⟨lo_none_tl, ?_⟩
  refine List.forall_mem_cons.mpr ⟨(lo_iid_tl _ _), ?_⟩
  refine List.forall_mem_cons.mpr ⟨(lo_ii_tl _ _), ?_⟩
  refine List.forall_mem_cons.mpr ⟨(lo_goto_tl _), ?_⟩
  refine List.forall_mem_cons.mpr ⟨lo_none_tl, ?_⟩
  refine List.forall_mem_cons.mpr ⟨lo_none_tl, ?_⟩
  refine List.forall_mem_cons.mpr ⟨(lo_pushI_tl _ _), ?_⟩
  refine List.forall_mem_cons.mpr ⟨lo_none_tl, ?_⟩
  refine List.forall_mem_cons.mpr ⟨(lo_pushI_tl _ _), ?_⟩
  refine List.forall_mem_cons.mpr ⟨(lo_pushI_tl _ _), ?_⟩
  refine List.forall_mem_cons.mpr ⟨(lo_pushI_tl _ _), ?_⟩
  refine List.forall_mem_cons.mpr ⟨(lo_pushI_tl _ _), ?_⟩
  refine List.forall_mem_cons.mpr ⟨(lo_pushI_tl _ _), ?_⟩
  refine List.forall_mem_cons.mpr ⟨(lo_calls_tl _ _ _ _ _), ?_⟩
  refine List.forall_mem_cons.mpr ⟨lo_none_tl, ?_⟩
  refine List.forall_mem_cons.mpr ⟨lo_none_tl, ?_⟩
  refine List.forall_mem_cons.mpr ⟨(lo_pushI_tl _ _), ?_⟩
  refine List.forall_mem_cons.mpr ⟨lo_none_tl, ?_⟩
  refine List.forall_mem_cons.mpr ⟨lo_none_tl, ?_⟩
  refine List.forall_mem_cons.mpr ⟨(lo_icmp_tl _ _ _), ?_⟩
  refine List.forall_mem_cons.mpr ⟨lo_none_tl, ?_⟩
  refine List.forall_mem_cons.mpr ⟨lo_none_tl, ?_⟩
  refine List.forall_mem_cons.mpr ⟨(lo_aload_tl _ _), ?_⟩
  refine List.forall_mem_cons.mpr ⟨(lo_pushI_tl _ _), ?_⟩
  refine List.forall_mem_cons.mpr ⟨lo_none_tl, ?_⟩
  refine List.forall_mem_cons.mpr ⟨(lo_iload_tl _ _), ?_⟩
  refine List.forall_mem_cons.mpr ⟨(lo_pushI_tl _ _), ?_⟩
  refine List.forall_mem_cons.mpr ⟨(lo_pushI_tl _ _), ?_⟩
  refine List.forall_mem_cons.mpr ⟨(lo_pushI_tl _ _), ?_⟩
  refine List.forall_mem_cons.mpr ⟨(lo_pushI_tl _ _), ?_⟩
  refine List.forall_mem_cons.mpr ⟨(lo_pushI_tl _ _), ?_⟩
  refine List.forall_mem_cons.mpr ⟨(lo_calls_tl _ _ _ _ _), ?_⟩
  refine List.forall_mem_cons.mpr ⟨lo_none_tl, ?_⟩
  refine List.forall_mem_cons.mpr ⟨lo_none_tl, ?_⟩
  refine List.forall_mem_cons.mpr ⟨(lo_pushI_tl _ _), ?_⟩
  refine List.forall_mem_cons.mpr ⟨lo_none_tl, ?_⟩
  refine List.forall_mem_cons.mpr ⟨lo_none_tl, ?_⟩
  refine List.forall_mem_cons.mpr ⟨(lo_icmp_tl _ _ _), ?_⟩
  refine List.forall_mem_cons.mpr ⟨lo_none_tl, ?_⟩
  refine List.forall_mem_cons.mpr ⟨lo_none_tl, ?_⟩
  refine List.forall_mem_cons.mpr ⟨(lo_aload_tl _ _), ?_⟩
  refine List.forall_mem_cons.mpr ⟨(lo_pushI_tl _ _), ?_⟩
  refine List.forall_mem_cons.mpr ⟨lo_none_tl, ?_⟩
  refine List.forall_mem_cons.mpr ⟨(lo_iload_tl _ _), ?_⟩
  refine List.forall_mem_cons.mpr ⟨(lo_pushI_tl _ _), ?_⟩
  refine List.forall_mem_cons.mpr ⟨lo_none_tl, ?_⟩
  refine List.forall_mem_cons.mpr ⟨(lo_pushI_tl _ _), ?_⟩
  refine List.forall_mem_cons.mpr ⟨(lo_pushI_tl _ _), ?_⟩
  refine List.forall_mem_cons.mpr ⟨(lo_pushI_tl _ _), ?_⟩
  refine List.forall_mem_cons.mpr ⟨(lo_pushI_tl _ _), ?_⟩
  refine List.forall_mem_cons.mpr ⟨(lo_calls_tl _ _ _ _ _), ?_⟩
  refine List.forall_mem_cons.mpr ⟨lo_none_tl, ?_⟩
  refine List.forall_mem_cons.mpr ⟨lo_none_tl, ?_⟩
  refine List.forall_mem_cons.mpr ⟨(lo_pushI_tl _ _), ?_⟩
  refine List.forall_mem_cons.mpr ⟨lo_none_tl, ?_⟩
  refine List.forall_mem_cons.mpr ⟨lo_none_tl, ?_⟩
  refine List.forall_mem_cons.mpr ⟨(lo_icmp_tl _ _ _), ?_⟩
  refine List.forall_mem_cons.mpr ⟨lo_none_tl, ?_⟩
  refine List.forall_mem_cons.mpr ⟨lo_none_tl, ?_⟩
  refine List.forall_mem_cons.mpr ⟨(lo_aload_tl _ _), ?_⟩
  refine List.forall_mem_cons.mpr ⟨(lo_pushI_tl _ _), ?_⟩
  refine List.forall_mem_cons.mpr ⟨lo_none_tl, ?_⟩
  refine List.forall_mem_cons.mpr ⟨(lo_iload_tl _ _), ?_⟩
  refine List.forall_mem_cons.mpr ⟨lo_none_tl, ?_⟩
  refine List.forall_mem_cons.mpr ⟨(lo_pushI_tl _ _), ?_⟩
  refine List.forall_mem_cons.mpr ⟨(lo_pushI_tl _ _), ?_⟩
  refine List.forall_mem_cons.mpr ⟨(lo_pushI_tl _ _), ?_⟩
  refine List.forall_mem_cons.mpr ⟨(lo_pushI_tl _ _), ?_⟩
  refine List.forall_mem_cons.mpr ⟨(lo_pushI_tl _ _), ?_⟩
  refine List.forall_mem_cons.mpr ⟨(lo_calls_tl _ _ _ _ _), ?_⟩
  refine List.forall_mem_cons.mpr ⟨lo_none_tl, ?_⟩
  refine List.forall_mem_cons.mpr ⟨lo_none_tl, ?_⟩
  refine List.forall_mem_cons.mpr ⟨(lo_pushI_tl _ _), ?_⟩
  refine List.forall_mem_cons.mpr ⟨lo_none_tl, ?_⟩
  refine List.forall_mem_cons.mpr ⟨lo_none_tl, ?_⟩
  refine List.forall_mem_cons.mpr ⟨(lo_icmp_tl _ _ _), ?_⟩
  refine List.forall_mem_cons.mpr ⟨lo_none_tl, ?_⟩
  refine List.forall_mem_cons.mpr ⟨lo_none_tl, ?_⟩
  refine List.forall_mem_cons.mpr ⟨(lo_pushI_tl _ _), ?_⟩
  refine List.forall_mem_cons.mpr ⟨(lo_goto_tl _), ?_⟩
  refine List.forall_mem_cons.mpr ⟨lo_none_tl, ?_⟩
  refine List.forall_mem_cons.mpr ⟨lo_none_tl, ?_⟩
  refine List.forall_mem_cons.mpr ⟨(lo_pushI_tl _ _), ?_⟩
  refine List.forall_mem_cons.mpr ⟨(lo_istore_tl _ _), ?_⟩
  refine List.forall_mem_cons.mpr ⟨lo_none_tl, ?_⟩
  refine List.forall_mem_cons.mpr ⟨(lo_pushI_tl _ _), ?_⟩
  refine List.forall_mem_cons.mpr ⟨(lo_istore_tl _ _), ?_⟩
  refine List.forall_mem_cons.mpr ⟨lo_none_tl, ?_⟩
  refine List.forall_mem_cons.mpr ⟨(lo_iload_tl _ _), ?_⟩
  refine List.forall_mem_cons.mpr ⟨lo_none_tl, ?_⟩
  refine List.forall_mem_cons.mpr ⟨(lo_pushI_tl _ _), ?_⟩
  refine List.forall_mem_cons.mpr ⟨lo_none_tl, ?_⟩
  refine List.forall_mem_cons.mpr ⟨(lo_icmp_tl _ _ _), ?_⟩
  refine List.forall_mem_cons.mpr ⟨lo_none_tl, ?_⟩
  refine List.forall_mem_cons.mpr ⟨lo_none_tl, ?_⟩
  refine List.forall_mem_cons.mpr ⟨(lo_iload_tl _ _), ?_⟩
  refine List.forall_mem_cons.mpr ⟨lo_none_tl, ?_⟩
  refine List.forall_mem_cons.mpr ⟨(lo_if_tl _ _ _), ?_⟩
  refine List.forall_mem_cons.mpr ⟨lo_none_tl, ?_⟩
  refine List.forall_mem_cons.mpr ⟨lo_none_tl, ?_⟩
  refine List.forall_mem_cons.mpr ⟨(lo_aload_tl _ _), ?_⟩
  refine List.forall_mem_cons.mpr ⟨(lo_iload_tl _ _), ?_⟩
  refine List.forall_mem_cons.mpr ⟨lo_none_tl, ?_⟩
  refine List.forall_mem_cons.mpr ⟨(lo_iload_tl _ _), ?_⟩
  refine List.forall_mem_cons.mpr ⟨(lo_pushI_tl _ _), ?_⟩
  refine List.forall_mem_cons.mpr ⟨(lo_pushI_tl _ _), ?_⟩
  refine List.forall_mem_cons.mpr ⟨(lo_calls_tl _ _ _ _ _), ?_⟩
  refine List.forall_mem_cons.mpr ⟨lo_none_tl, ?_⟩
  refine List.forall_mem_cons.mpr ⟨lo_none_tl, ?_⟩
  refine List.forall_mem_cons.mpr ⟨(lo_pushI_tl _ _), ?_⟩
  refine List.forall_mem_cons.mpr ⟨lo_none_tl, ?_⟩
  refine List.forall_mem_cons.mpr ⟨lo_none_tl, ?_⟩
  refine List.forall_mem_cons.mpr ⟨(lo_icmp_tl _ _ _), ?_⟩
  refine List.forall_mem_cons.mpr ⟨lo_none_tl, ?_⟩
  refine List.forall_mem_cons.mpr ⟨lo_none_tl, ?_⟩
  refine List.forall_mem_cons.mpr ⟨(lo_pushI_tl _ _), ?_⟩
  refine List.forall_mem_cons.mpr ⟨(lo_goto_tl _), ?_⟩
  refine List.forall_mem_cons.mpr ⟨lo_none_tl, ?_⟩
  refine List.forall_mem_cons.mpr ⟨lo_none_tl, ?_⟩
  refine List.forall_mem_cons.mpr ⟨(lo_pushI_tl _ _), ?_⟩
  refine List.forall_mem_cons.mpr ⟨(lo_istore_tl _ _), ?_⟩
  refine List.forall_mem_cons.mpr ⟨lo_none_tl, ?_⟩
  refine List.forall_mem_cons.mpr ⟨(lo_iinc_tl _ _ _), ?_⟩
  refine List.forall_mem_cons.mpr ⟨lo_none_tl, ?_⟩
  refine List.forall_mem_cons.mpr ⟨lo_none_tl, ?_⟩
  refine List.forall_mem_cons.mpr ⟨(lo_goto_tl _), ?_⟩
  refine List.forall_mem_cons.mpr ⟨lo_none_tl, ?_⟩
  refine List.forall_mem_cons.mpr ⟨lo_none_tl, ?_⟩
  refine List.forall_mem_cons.mpr ⟨(lo_iload_tl _ _), ?_⟩
  refine List.forall_mem_cons.mpr ⟨lo_none_tl, ?_⟩
  refine List.forall_mem_cons.mpr ⟨(lo_if_tl _ _ _), ?_⟩
  refine List.forall_mem_cons.mpr ⟨lo_none_tl, ?_⟩
  refine List.forall_mem_cons.mpr ⟨lo_none_tl, ?_⟩
  refine List.forall_mem_cons.mpr ⟨(lo_aload_tl _ _), ?_⟩
  refine List.forall_mem_cons.mpr ⟨(lo_pushI_tl _ _), ?_⟩
  refine List.forall_mem_cons.mpr ⟨lo_none_tl, ?_⟩
  refine List.forall_mem_cons.mpr ⟨(lo_iload_tl _ _), ?_⟩
  refine List.forall_mem_cons.mpr ⟨lo_none_tl, ?_⟩
  refine List.forall_mem_cons.mpr ⟨(lo_pushI_tl _ _), ?_⟩
  refine List.forall_mem_cons.mpr ⟨(lo_pushI_tl _ _), ?_⟩
  refine List.forall_mem_cons.mpr ⟨(lo_calls_tl _ _ _ _ _), ?_⟩
  refine List.forall_mem_cons.mpr ⟨lo_none_tl, ?_⟩
  refine List.forall_mem_cons.mpr ⟨lo_none_tl, ?_⟩
  refine List.forall_mem_cons.mpr ⟨(lo_pushI_tl _ _), ?_⟩
  refine List.forall_mem_cons.mpr ⟨lo_none_tl, ?_⟩
  refine List.forall_mem_cons.mpr ⟨lo_none_tl, ?_⟩
  refine List.forall_mem_cons.mpr ⟨(lo_icmp_tl _ _ _), ?_⟩
  refine List.forall_mem_cons.mpr ⟨lo_none_tl, ?_⟩
  refine List.forall_mem_cons.mpr ⟨lo_none_tl, ?_⟩
  refine List.forall_mem_cons.mpr ⟨(lo_aload_tl _ _), ?_⟩
  refine List.forall_mem_cons.mpr ⟨(lo_pushI_tl _ _), ?_⟩
  refine List.forall_mem_cons.mpr ⟨lo_none_tl, ?_⟩
  refine List.forall_mem_cons.mpr ⟨(lo_iload_tl _ _), ?_⟩
  refine List.forall_mem_cons.mpr ⟨lo_none_tl, ?_⟩
  refine List.forall_mem_cons.mpr ⟨(lo_pushI_tl _ _), ?_⟩
  refine List.forall_mem_cons.mpr ⟨(lo_pushI_tl _ _), ?_⟩
  refine List.forall_mem_cons.mpr ⟨(lo_calls_tl _ _ _ _ _), ?_⟩
  refine List.forall_mem_cons.mpr ⟨lo_none_tl, ?_⟩
  refine List.forall_mem_cons.mpr ⟨lo_none_tl, ?_⟩
  refine List.forall_mem_cons.mpr ⟨(lo_pushI_tl _ _), ?_⟩
  refine List.forall_mem_cons.mpr ⟨lo_none_tl, ?_⟩
  refine List.forall_mem_cons.mpr ⟨lo_none_tl, ?_⟩
  refine List.forall_mem_cons.mpr ⟨(lo_icmp_tl _ _ _), ?_⟩
  refine List.forall_mem_cons.mpr ⟨lo_none_tl, ?_⟩
  refine List.forall_mem_cons.mpr ⟨lo_none_tl, ?_⟩
  refine List.forall_mem_cons.mpr ⟨(lo_aload_tl _ _), ?_⟩
  refine List.forall_mem_cons.mpr ⟨(lo_pushI_tl _ _), ?_⟩
  refine List.forall_mem_cons.mpr ⟨lo_none_tl, ?_⟩
  refine List.forall_mem_cons.mpr ⟨(lo_pushI_tl _ _), ?_⟩
  refine List.forall_mem_cons.mpr ⟨(lo_pushI_tl _ _), ?_⟩
  refine List.forall_mem_cons.mpr ⟨(lo_iload_tl _ _), ?_⟩
  refine List.forall_mem_cons.mpr ⟨(lo_pushI_tl _ _), ?_⟩
  refine List.forall_mem_cons.mpr ⟨lo_none_tl, ?_⟩
  refine List.forall_mem_cons.mpr ⟨(lo_iid_tl _ _), ?_⟩
  refine List.forall_mem_cons.mpr ⟨(lo_ii_tl _ _), ?_⟩
  refine List.forall_mem_cons.mpr ⟨(lo_pushI_tl _ _), ?_⟩
  refine List.forall_mem_cons.mpr ⟨(lo_calls_tl _ _ _ _ _), ?_⟩
  refine List.forall_mem_cons.mpr ⟨lo_none_tl, ?_⟩
  refine List.forall_mem_cons.mpr ⟨lo_none_tl, ?_⟩
  refine List.forall_mem_cons.mpr ⟨(lo_pushI_tl _ _), ?_⟩
  refine List.forall_mem_cons.mpr ⟨lo_none_tl, ?_⟩
  refine List.forall_mem_cons.mpr ⟨lo_none_tl, ?_⟩
  refine List.forall_mem_cons.mpr ⟨(lo_icmp_tl _ _ _), ?_⟩
  refine List.forall_mem_cons.mpr ⟨lo_none_tl, ?_⟩
  refine List.forall_mem_cons.mpr ⟨lo_none_tl, ?_⟩
  refine List.forall_mem_cons.mpr ⟨(lo_aload_tl _ _), ?_⟩
  refine List.forall_mem_cons.mpr ⟨(lo_pushI_tl _ _), ?_⟩
  refine List.forall_mem_cons.mpr ⟨lo_none_tl, ?_⟩
  refine List.forall_mem_cons.mpr ⟨(lo_pushI_tl _ _), ?_⟩
  refine List.forall_mem_cons.mpr ⟨(lo_iload_tl _ _), ?_⟩
  refine List.forall_mem_cons.mpr ⟨(lo_pushI_tl _ _), ?_⟩
  refine List.forall_mem_cons.mpr ⟨(lo_calls_tl _ _ _ _ _), ?_⟩
  refine List.forall_mem_cons.mpr ⟨lo_none_tl, ?_⟩
  refine List.forall_mem_cons.mpr ⟨lo_none_tl, ?_⟩
  refine List.forall_mem_cons.mpr ⟨(lo_pushI_tl _ _), ?_⟩
  refine List.forall_mem_cons.mpr ⟨lo_none_tl, ?_⟩
  refine List.forall_mem_cons.mpr ⟨lo_none_tl, ?_⟩
  refine List.forall_mem_cons.mpr ⟨(lo_icmp_tl _ _ _), ?_⟩
  refine List.forall_mem_cons.mpr ⟨lo_none_tl, ?_⟩
  refine List.forall_mem_cons.mpr ⟨lo_none_tl, ?_⟩
  refine List.forall_mem_cons.mpr ⟨(lo_aload_tl _ _), ?_⟩
  refine List.forall_mem_cons.mpr ⟨(lo_pushI_tl _ _), ?_⟩
  refine List.forall_mem_cons.mpr ⟨lo_none_tl, ?_⟩
  refine List.forall_mem_cons.mpr ⟨(lo_iload_tl _ _), ?_⟩
  refine List.forall_mem_cons.mpr ⟨lo_none_tl, ?_⟩
  refine List.forall_mem_cons.mpr ⟨(lo_iload_tl _ _), ?_⟩
  refine List.forall_mem_cons.mpr ⟨(lo_pushI_tl _ _), ?_⟩
  refine List.forall_mem_cons.mpr ⟨(lo_calls_tl _ _ _ _ _), ?_⟩
  refine List.forall_mem_cons.mpr ⟨lo_none_tl, ?_⟩
  refine List.forall_mem_cons.mpr ⟨lo_none_tl, ?_⟩
  refine List.forall_mem_cons.mpr ⟨(lo_pushI_tl _ _), ?_⟩
  refine List.forall_mem_cons.mpr ⟨lo_none_tl, ?_⟩
  refine List.forall_mem_cons.mpr ⟨lo_none_tl, ?_⟩
  refine List.forall_mem_cons.mpr ⟨(lo_icmp_tl _ _ _), ?_⟩
  refine List.forall_mem_cons.mpr ⟨lo_none_tl, ?_⟩
  refine List.forall_mem_cons.mpr ⟨lo_none_tl, ?_⟩
  refine List.forall_mem_cons.mpr ⟨(lo_aload_tl _ _), ?_⟩
  refine List.forall_mem_cons.mpr ⟨(lo_pushI_tl _ _), ?_⟩
  refine List.forall_mem_cons.mpr ⟨lo_none_tl, ?_⟩
  refine List.forall_mem_cons.mpr ⟨(lo_pushI_tl _ _), ?_⟩
  refine List.forall_mem_cons.mpr ⟨(lo_iload_tl _ _), ?_⟩
  refine List.forall_mem_cons.mpr ⟨(lo_pushI_tl _ _), ?_⟩
  refine List.forall_mem_cons.mpr ⟨(lo_calls_tl _ _ _ _ _), ?_⟩
  refine List.forall_mem_cons.mpr ⟨lo_none_tl, ?_⟩
  refine List.forall_mem_cons.mpr ⟨lo_none_tl, ?_⟩
  refine List.forall_mem_cons.mpr ⟨(lo_pushI_tl _ _), ?_⟩
  refine List.forall_mem_cons.mpr ⟨lo_none_tl, ?_⟩
  refine List.forall_mem_cons.mpr ⟨lo_none_tl, ?_⟩
  refine List.forall_mem_cons.mpr ⟨(lo_icmp_tl _ _ _), ?_⟩
  refine List.forall_mem_cons.mpr ⟨lo_none_tl, ?_⟩
  refine List.forall_mem_cons.mpr ⟨lo_none_tl, ?_⟩
  refine List.forall_mem_cons.mpr ⟨(lo_pushI_tl _ _), ?_⟩
  refine List.forall_mem_cons.mpr ⟨(lo_goto_tl _), ?_⟩
  refine List.forall_mem_cons.mpr ⟨lo_none_tl, ?_⟩
  refine List.forall_mem_cons.mpr ⟨lo_none_tl, ?_⟩
  refine List.forall_mem_cons.mpr ⟨(lo_pushI_tl _ _), ?_⟩
  refine List.forall_mem_cons.mpr ⟨(lo_istore_tl _ _), ?_⟩
  refine List.forall_mem_cons.mpr ⟨lo_none_tl, ?_⟩
  refine List.forall_mem_cons.mpr ⟨(lo_pushI_tl _ _), ?_⟩
  refine List.forall_mem_cons.mpr ⟨(lo_istore_tl _ _), ?_⟩
  refine List.forall_mem_cons.mpr ⟨lo_none_tl, ?_⟩
  refine List.forall_mem_cons.mpr ⟨(lo_iload_tl _ _), ?_⟩
  refine List.forall_mem_cons.mpr ⟨lo_none_tl, ?_⟩
  refine List.forall_mem_cons.mpr ⟨(lo_aload_tl _ _), ?_⟩
  refine List.forall_mem_cons.mpr ⟨(lo_callv_tl _ _ _ _), ?_⟩
  refine List.forall_mem_cons.mpr ⟨lo_none_tl, ?_⟩
  refine List.forall_mem_cons.mpr ⟨lo_none_tl, ?_⟩
  refine List.forall_mem_cons.mpr ⟨(lo_icmp_tl _ _ _), ?_⟩
  refine List.forall_mem_cons.mpr ⟨lo_none_tl, ?_⟩
  refine List.forall_mem_cons.mpr ⟨lo_none_tl, ?_⟩
  refine List.forall_mem_cons.mpr ⟨(lo_iload_tl _ _), ?_⟩
  refine List.forall_mem_cons.mpr ⟨lo_none_tl, ?_⟩
  refine List.forall_mem_cons.mpr ⟨(lo_if_tl _ _ _), ?_⟩
  refine List.forall_mem_cons.mpr ⟨lo_none_tl, ?_⟩
  refine List.forall_mem_cons.mpr ⟨lo_none_tl, ?_⟩
  refine List.forall_mem_cons.mpr ⟨(lo_aload_tl _ _), ?_⟩
  refine List.forall_mem_cons.mpr ⟨(lo_iload_tl _ _), ?_⟩
  refine List.forall_mem_cons.mpr ⟨lo_none_tl, ?_⟩
  refine List.forall_mem_cons.mpr ⟨(lo_callv_tl _ _ _ _), ?_⟩
  refine List.forall_mem_cons.mpr ⟨lo_none_tl, ?_⟩
  refine List.forall_mem_cons.mpr ⟨lo_none_tl, ?_⟩
  refine List.forall_mem_cons.mpr ⟨(lo_istore_tl _ _), ?_⟩
  refine List.forall_mem_cons.mpr ⟨lo_none_tl, ?_⟩
  refine List.forall_mem_cons.mpr ⟨(lo_iload_tl _ _), ?_⟩
  refine List.forall_mem_cons.mpr ⟨lo_none_tl, ?_⟩
  refine List.forall_mem_cons.mpr ⟨(lo_pushI_tl _ _), ?_⟩
  refine List.forall_mem_cons.mpr ⟨(lo_icmp_tl _ _ _), ?_⟩
  refine List.forall_mem_cons.mpr ⟨lo_none_tl, ?_⟩
  refine List.forall_mem_cons.mpr ⟨lo_none_tl, ?_⟩
  refine List.forall_mem_cons.mpr ⟨(lo_pushI_tl _ _), ?_⟩
  refine List.forall_mem_cons.mpr ⟨lo_none_tl, ?_⟩
  refine List.forall_mem_cons.mpr ⟨(lo_goto_tl _), ?_⟩
  refine List.forall_mem_cons.mpr ⟨lo_none_tl, ?_⟩
  refine List.forall_mem_cons.mpr ⟨lo_none_tl, ?_⟩
  refine List.forall_mem_cons.mpr ⟨(lo_pushI_tl _ _), ?_⟩
  refine List.forall_mem_cons.mpr ⟨(lo_istore_tl _ _), ?_⟩
  refine List.forall_mem_cons.mpr ⟨lo_none_tl, ?_⟩
  refine List.forall_mem_cons.mpr ⟨(lo_aload_tl _ _), ?_⟩
  refine List.forall_mem_cons.mpr ⟨(lo_iload_tl _ _), ?_⟩
  refine List.forall_mem_cons.mpr ⟨lo_none_tl, ?_⟩
  refine List.forall_mem_cons.mpr ⟨(lo_iload_tl _ _), ?_⟩
  refine List.forall_mem_cons.mpr ⟨lo_none_tl, ?_⟩
  refine List.forall_mem_cons.mpr ⟨(lo_callv_tl _ _ _ _), ?_⟩
  refine List.forall_mem_cons.mpr ⟨lo_none_tl, ?_⟩
  refine List.forall_mem_cons.mpr ⟨lo_none_tl, ?_⟩
  refine List.forall_mem_cons.mpr ⟨(lo_if_tl _ _ _), ?_⟩
  refine List.forall_mem_cons.mpr ⟨lo_none_tl, ?_⟩
  refine List.forall_mem_cons.mpr ⟨lo_none_tl, ?_⟩
  refine List.forall_mem_cons.mpr ⟨(lo_pushI_tl _ _), ?_⟩
  refine List.forall_mem_cons.mpr ⟨(lo_goto_tl _), ?_⟩
  refine List.forall_mem_cons.mpr ⟨lo_none_tl, ?_⟩
  refine List.forall_mem_cons.mpr ⟨lo_none_tl, ?_⟩
  refine List.forall_mem_cons.mpr ⟨(lo_pushI_tl _ _), ?_⟩
  refine List.forall_mem_cons.mpr ⟨(lo_istore_tl _ _), ?_⟩
  refine List.forall_mem_cons.mpr ⟨lo_none_tl, ?_⟩
  refine List.forall_mem_cons.mpr ⟨(lo_aload_tl _ _), ?_⟩
  refine List.forall_mem_cons.mpr ⟨(lo_pushI_tl _ _), ?_⟩
  refine List.forall_mem_cons.mpr ⟨(lo_iload_tl _ _), ?_⟩
  refine List.forall_mem_cons.mpr ⟨lo_none_tl, ?_⟩
  refine List.forall_mem_cons.mpr ⟨(lo_iload_tl _ _), ?_⟩
  refine List.forall_mem_cons.mpr ⟨lo_none_tl, ?_⟩
  refine List.forall_mem_cons.mpr ⟨(lo_iload_tl _ _), ?_⟩
  refine List.forall_mem_cons.mpr ⟨lo_none_tl, ?_⟩
  refine List.forall_mem_cons.mpr ⟨(lo_pushI_tl _ _), ?_⟩
  refine List.forall_mem_cons.mpr ⟨(lo_pushI_tl _ _), ?_⟩
  refine List.forall_mem_cons.mpr ⟨(lo_pushI_tl _ _), ?_⟩
  refine List.forall_mem_cons.mpr ⟨(lo_calls_tl _ _ _ _ _), ?_⟩
  refine List.forall_mem_cons.mpr ⟨lo_none_tl, ?_⟩
  refine List.forall_mem_cons.mpr ⟨lo_none_tl, ?_⟩
  refine List.forall_mem_cons.mpr ⟨(lo_pushI_tl _ _), ?_⟩
  refine List.forall_mem_cons.mpr ⟨lo_none_tl, ?_⟩
  refine List.forall_mem_cons.mpr ⟨lo_none_tl, ?_⟩
  refine List.forall_mem_cons.mpr ⟨(lo_icmp_tl _ _ _), ?_⟩
  refine List.forall_mem_cons.mpr ⟨lo_none_tl, ?_⟩
  refine List.forall_mem_cons.mpr ⟨lo_none_tl, ?_⟩
  refine List.forall_mem_cons.mpr ⟨(lo_aload_tl _ _), ?_⟩
  refine List.forall_mem_cons.mpr ⟨(lo_pushI_tl _ _), ?_⟩
  refine List.forall_mem_cons.mpr ⟨(lo_pushI_tl _ _), ?_⟩
  refine List.forall_mem_cons.mpr ⟨(lo_iload_tl _ _), ?_⟩
  refine List.forall_mem_cons.mpr ⟨lo_none_tl, ?_⟩
  refine List.forall_mem_cons.mpr ⟨(lo_iload_tl _ _), ?_⟩
  refine List.forall_mem_cons.mpr ⟨lo_none_tl, ?_⟩
  refine List.forall_mem_cons.mpr ⟨(lo_pushI_tl _ _), ?_⟩
  refine List.forall_mem_cons.mpr ⟨(lo_icmp_tl _ _ _), ?_⟩
  refine List.forall_mem_cons.mpr ⟨lo_none_tl, ?_⟩
  refine List.forall_mem_cons.mpr ⟨lo_none_tl, ?_⟩
  refine List.forall_mem_cons.mpr ⟨(lo_pushI_tl _ _), ?_⟩
  refine List.forall_mem_cons.mpr ⟨(lo_goto_tl _), ?_⟩
  refine List.forall_mem_cons.mpr ⟨lo_none_tl, ?_⟩
  refine List.forall_mem_cons.mpr ⟨lo_none_tl, ?_⟩
  refine List.forall_mem_cons.mpr ⟨(lo_pushI_tl _ _), ?_⟩
  refine List.forall_mem_cons.mpr ⟨lo_none_tl, ?_⟩
  refine List.forall_mem_cons.mpr ⟨(lo_pushI_tl _ _), ?_⟩
  refine List.forall_mem_cons.mpr ⟨(lo_pushI_tl _ _), ?_⟩
  refine List.forall_mem_cons.mpr ⟨(lo_pushI_tl _ _), ?_⟩
  refine List.forall_mem_cons.mpr ⟨(lo_calls_tl _ _ _ _ _), ?_⟩
  refine List.forall_mem_cons.mpr ⟨lo_none_tl, ?_⟩
  refine List.forall_mem_cons.mpr ⟨lo_none_tl, ?_⟩
  refine List.forall_mem_cons.mpr ⟨(lo_pushI_tl _ _), ?_⟩
  refine List.forall_mem_cons.mpr ⟨lo_none_tl, ?_⟩
  refine List.forall_mem_cons.mpr ⟨lo_none_tl, ?_⟩
  refine List.forall_mem_cons.mpr ⟨(lo_icmp_tl _ _ _), ?_⟩
  refine List.forall_mem_cons.mpr ⟨lo_none_tl, ?_⟩
  refine List.forall_mem_cons.mpr ⟨lo_none_tl, ?_⟩
  refine List.forall_mem_cons.mpr ⟨(lo_aload_tl _ _), ?_⟩
  refine List.forall_mem_cons.mpr ⟨(lo_pushI_tl _ _), ?_⟩
  refine List.forall_mem_cons.mpr ⟨(lo_pushI_tl _ _), ?_⟩
  refine List.forall_mem_cons.mpr ⟨(lo_iload_tl _ _), ?_⟩
  refine List.forall_mem_cons.mpr ⟨lo_none_tl, ?_⟩
  refine List.forall_mem_cons.mpr ⟨(lo_iload_tl _ _), ?_⟩
  refine List.forall_mem_cons.mpr ⟨lo_none_tl, ?_⟩
  refine List.forall_mem_cons.mpr ⟨(lo_iload_tl _ _), ?_⟩
  refine List.forall_mem_cons.mpr ⟨(lo_if_tl _ _ _), ?_⟩
  refine List.forall_mem_cons.mpr ⟨lo_none_tl, ?_⟩
  refine List.forall_mem_cons.mpr ⟨lo_none_tl, ?_⟩
  refine List.forall_mem_cons.mpr ⟨(lo_pushI_tl _ _), ?_⟩
  refine List.forall_mem_cons.mpr ⟨(lo_iload_tl _ _), ?_⟩
  refine List.forall_mem_cons.mpr ⟨(lo_pushI_tl _ _), ?_⟩
  refine List.forall_mem_cons.mpr ⟨lo_none_tl, ?_⟩
  refine List.forall_mem_cons.mpr ⟨(lo_iid_tl _ _), ?_⟩
  refine List.forall_mem_cons.mpr ⟨(lo_ii_tl _ _), ?_⟩
  refine List.forall_mem_cons.mpr ⟨(lo_goto_tl _), ?_⟩
  refine List.forall_mem_cons.mpr ⟨lo_none_tl, ?_⟩
  refine List.forall_mem_cons.mpr ⟨lo_none_tl, ?_⟩
  refine List.forall_mem_cons.mpr ⟨(lo_pushI_tl _ _), ?_⟩
  refine List.forall_mem_cons.mpr ⟨lo_none_tl, ?_⟩
  refine List.forall_mem_cons.mpr ⟨(lo_pushI_tl _ _), ?_⟩
  refine List.forall_mem_cons.mpr ⟨(lo_pushI_tl _ _), ?_⟩
  refine List.forall_mem_cons.mpr ⟨(lo_calls_tl _ _ _ _ _), ?_⟩
  refine List.forall_mem_cons.mpr ⟨lo_none_tl, ?_⟩
  refine List.forall_mem_cons.mpr ⟨lo_none_tl, ?_⟩
  refine List.forall_mem_cons.mpr ⟨(lo_pushI_tl _ _), ?_⟩
  refine List.forall_mem_cons.mpr ⟨lo_none_tl, ?_⟩
  refine List.forall_mem_cons.mpr ⟨lo_none_tl, ?_⟩
  refine List.forall_mem_cons.mpr ⟨(lo_icmp_tl _ _ _), ?_⟩
  refine List.forall_mem_cons.mpr ⟨lo_none_tl, ?_⟩
  refine List.forall_mem_cons.mpr ⟨lo_none_tl, ?_⟩
  refine List.forall_mem_cons.mpr ⟨(lo_aload_tl _ _), ?_⟩
  refine List.forall_mem_cons.mpr ⟨(lo_pushI_tl _ _), ?_⟩
  refine List.forall_mem_cons.mpr ⟨(lo_pushI_tl _ _), ?_⟩
  refine List.forall_mem_cons.mpr ⟨(lo_iload_tl _ _), ?_⟩
  refine List.forall_mem_cons.mpr ⟨lo_none_tl, ?_⟩
  refine List.forall_mem_cons.mpr ⟨(lo_iload_tl _ _), ?_⟩
  refine List.forall_mem_cons.mpr ⟨lo_none_tl, ?_⟩
  refine List.forall_mem_cons.mpr ⟨(lo_pushI_tl _ _), ?_⟩
  refine List.forall_mem_cons.mpr ⟨(lo_aload_tl _ _), ?_⟩
  refine List.forall_mem_cons.mpr ⟨(lo_iload_tl _ _), ?_⟩
  refine List.forall_mem_cons.mpr ⟨lo_none_tl, ?_⟩
  refine List.forall_mem_cons.mpr ⟨(lo_callv_tl _ _ _ _), ?_⟩
  refine List.forall_mem_cons.mpr ⟨lo_none_tl, ?_⟩
  refine List.forall_mem_cons.mpr ⟨lo_none_tl, ?_⟩
  refine List.forall_mem_cons.mpr ⟨(lo_pushI_tl _ _), ?_⟩
  refine List.forall_mem_cons.mpr ⟨(lo_ii_tl _ _), ?_⟩
  refine List.forall_mem_cons.mpr ⟨(lo_iload_tl _ _), ?_⟩
  refine List.forall_mem_cons.mpr ⟨(lo_pushI_tl _ _), ?_⟩
  refine List.forall_mem_cons.mpr ⟨lo_none_tl, ?_⟩
  refine List.forall_mem_cons.mpr ⟨(lo_iid_tl _ _), ?_⟩
  refine List.forall_mem_cons.mpr ⟨(lo_ii_tl _ _), ?_⟩
  refine List.forall_mem_cons.mpr ⟨(lo_pushI_tl _ _), ?_⟩
  refine List.forall_mem_cons.mpr ⟨(lo_calls_tl _ _ _ _ _), ?_⟩
  refine List.forall_mem_cons.mpr ⟨lo_none_tl, ?_⟩
  refine List.forall_mem_cons.mpr ⟨lo_none_tl, ?_⟩
  refine List.forall_mem_cons.mpr ⟨(lo_pushI_tl _ _), ?_⟩
  refine List.forall_mem_cons.mpr ⟨lo_none_tl, ?_⟩
  refine List.forall_mem_cons.mpr ⟨lo_none_tl, ?_⟩
  refine List.forall_mem_cons.mpr ⟨(lo_icmp_tl _ _ _), ?_⟩
  refine List.forall_mem_cons.mpr ⟨lo_none_tl, ?_⟩
  refine List.forall_mem_cons.mpr ⟨lo_none_tl, ?_⟩
  refine List.forall_mem_cons.mpr ⟨(lo_aload_tl _ _), ?_⟩
  refine List.forall_mem_cons.mpr ⟨(lo_pushI_tl _ _), ?_⟩
  refine List.forall_mem_cons.mpr ⟨(lo_iload_tl _ _), ?_⟩
  refine List.forall_mem_cons.mpr ⟨lo_none_tl, ?_⟩
  refine List.forall_mem_cons.mpr ⟨(lo_iload_tl _ _), ?_⟩
  refine List.forall_mem_cons.mpr ⟨lo_none_tl, ?_⟩
  refine List.forall_mem_cons.mpr ⟨(lo_iload_tl _ _), ?_⟩
  refine List.forall_mem_cons.mpr ⟨lo_none_tl, ?_⟩
  refine List.forall_mem_cons.mpr ⟨(lo_pushI_tl _ _), ?_⟩
  refine List.forall_mem_cons.mpr ⟨(lo_pushI_tl _ _), ?_⟩
  refine List.forall_mem_cons.mpr ⟨(lo_pushI_tl _ _), ?_⟩
  refine List.forall_mem_cons.mpr ⟨(lo_calls_tl _ _ _ _ _), ?_⟩
  refine List.forall_mem_cons.mpr ⟨lo_none_tl, ?_⟩
  refine List.forall_mem_cons.mpr ⟨lo_none_tl, ?_⟩
  refine List.forall_mem_cons.mpr ⟨(lo_pushI_tl _ _), ?_⟩
  refine List.forall_mem_cons.mpr ⟨lo_none_tl, ?_⟩
  refine List.forall_mem_cons.mpr ⟨lo_none_tl, ?_⟩
  refine List.forall_mem_cons.mpr ⟨(lo_icmp_tl _ _ _), ?_⟩
  refine List.forall_mem_cons.mpr ⟨lo_none_tl, ?_⟩
  refine List.forall_mem_cons.mpr ⟨lo_none_tl, ?_⟩
  refine List.forall_mem_cons.mpr ⟨(lo_aload_tl _ _), ?_⟩
  refine List.forall_mem_cons.mpr ⟨(lo_pushI_tl _ _), ?_⟩
  refine List.forall_mem_cons.mpr ⟨(lo_iload_tl _ _), ?_⟩
  refine List.forall_mem_cons.mpr ⟨lo_none_tl, ?_⟩
  refine List.forall_mem_cons.mpr ⟨(lo_iload_tl _ _), ?_⟩
  refine List.forall_mem_cons.mpr ⟨(lo_if_tl _ _ _), ?_⟩
  refine List.forall_mem_cons.mpr ⟨lo_none_tl, ?_⟩
  refine List.forall_mem_cons.mpr ⟨lo_none_tl, ?_⟩
  refine List.forall_mem_cons.mpr ⟨(lo_pushI_tl _ _), ?_⟩
  refine List.forall_mem_cons.mpr ⟨(lo_iload_tl _ _), ?_⟩
  refine List.forall_mem_cons.mpr ⟨(lo_pushI_tl _ _), ?_⟩
  refine List.forall_mem_cons.mpr ⟨lo_none_tl, ?_⟩
  refine List.forall_mem_cons.mpr ⟨(lo_iid_tl _ _), ?_⟩
  refine List.forall_mem_cons.mpr ⟨(lo_ii_tl _ _), ?_⟩
  refine List.forall_mem_cons.mpr ⟨(lo_goto_tl _), ?_⟩
  refine List.forall_mem_cons.mpr ⟨lo_none_tl, ?_⟩
  refine List.forall_mem_cons.mpr ⟨lo_none_tl, ?_⟩
  refine List.forall_mem_cons.mpr ⟨(lo_pushI_tl _ _), ?_⟩
  refine List.forall_mem_cons.mpr ⟨(lo_pushI_tl _ _), ?_⟩
  refine List.forall_mem_cons.mpr ⟨(lo_pushI_tl _ _), ?_⟩
  refine List.forall_mem_cons.mpr ⟨(lo_pushI_tl _ _), ?_⟩
  refine List.forall_mem_cons.mpr ⟨(lo_pushI_tl _ _), ?_⟩
  refine List.forall_mem_cons.mpr ⟨(lo_calls_tl _ _ _ _ _), ?_⟩
  refine List.forall_mem_cons.mpr ⟨lo_none_tl, ?_⟩
  refine List.forall_mem_cons.mpr ⟨lo_none_tl, ?_⟩
  refine List.forall_mem_cons.mpr ⟨(lo_pushI_tl _ _), ?_⟩
  refine List.forall_mem_cons.mpr ⟨lo_none_tl, ?_⟩
  refine List.forall_mem_cons.mpr ⟨lo_none_tl, ?_⟩
  refine List.forall_mem_cons.mpr ⟨(lo_icmp_tl _ _ _), ?_⟩
  refine List.forall_mem_cons.mpr ⟨lo_none_tl, ?_⟩
  refine List.forall_mem_cons.mpr ⟨lo_none_tl, ?_⟩
  refine List.forall_mem_cons.mpr ⟨(lo_iload_tl _ _), ?_⟩
  refine List.forall_mem_cons.mpr ⟨lo_none_tl, ?_⟩
  refine List.forall_mem_cons.mpr ⟨(lo_pushI_tl _ _), ?_⟩
  refine List.forall_mem_cons.mpr ⟨(lo_icmp_tl _ _ _), ?_⟩
  refine List.forall_mem_cons.mpr ⟨lo_none_tl, ?_⟩
  refine List.forall_mem_cons.mpr ⟨lo_none_tl, ?_⟩
  refine List.forall_mem_cons.mpr ⟨(lo_aload_tl _ _), ?_⟩
  refine List.forall_mem_cons.mpr ⟨(lo_pushI_tl _ _), ?_⟩
  refine List.forall_mem_cons.mpr ⟨(lo_iload_tl _ _), ?_⟩
  refine List.forall_mem_cons.mpr ⟨lo_none_tl, ?_⟩
  refine List.forall_mem_cons.mpr ⟨(lo_pushI_tl _ _), ?_⟩
  refine List.forall_mem_cons.mpr ⟨(lo_pushI_tl _ _), ?_⟩
  refine List.forall_mem_cons.mpr ⟨(lo_pushI_tl _ _), ?_⟩
  refine List.forall_mem_cons.mpr ⟨(lo_pushI_tl _ _), ?_⟩
  refine List.forall_mem_cons.mpr ⟨(lo_pushI_tl _ _), ?_⟩
  refine List.forall_mem_cons.mpr ⟨(lo_calls_tl _ _ _ _ _), ?_⟩
  refine List.forall_mem_cons.mpr ⟨lo_none_tl, ?_⟩
  refine List.forall_mem_cons.mpr ⟨lo_none_tl, ?_⟩
  refine List.forall_mem_cons.mpr ⟨(lo_pushI_tl _ _), ?_⟩
  refine List.forall_mem_cons.mpr ⟨lo_none_tl, ?_⟩
  refine List.forall_mem_cons.mpr ⟨lo_none_tl, ?_⟩
  refine List.forall_mem_cons.mpr ⟨(lo_icmp_tl _ _ _), ?_⟩
  refine List.forall_mem_cons.mpr ⟨lo_none_tl, ?_⟩
  refine List.forall_mem_cons.mpr ⟨lo_none_tl, ?_⟩
  refine List.forall_mem_cons.mpr ⟨(lo_iload_tl _ _), ?_⟩
  refine List.forall_mem_cons.mpr ⟨lo_none_tl, ?_⟩
  refine List.forall_mem_cons.mpr ⟨(lo_pushI_tl _ _), ?_⟩
  refine List.forall_mem_cons.mpr ⟨(lo_icmp_tl _ _ _), ?_⟩
  refine List.forall_mem_cons.mpr ⟨lo_none_tl, ?_⟩
  refine List.forall_mem_cons.mpr ⟨lo_none_tl, ?_⟩
  refine List.forall_mem_cons.mpr ⟨(lo_aload_tl _ _), ?_⟩
  refine List.forall_mem_cons.mpr ⟨(lo_pushI_tl _ _), ?_⟩
  refine List.forall_mem_cons.mpr ⟨lo_none_tl, ?_⟩
  refine List.forall_mem_cons.mpr ⟨(lo_iload_tl _ _), ?_⟩
  refine List.forall_mem_cons.mpr ⟨lo_none_tl, ?_⟩
  refine List.forall_mem_cons.mpr ⟨(lo_pushI_tl _ _), ?_⟩
  refine List.forall_mem_cons.mpr ⟨(lo_pushI_tl _ _), ?_⟩
  refine List.forall_mem_cons.mpr ⟨(lo_pushI_tl _ _), ?_⟩
  refine List.forall_mem_cons.mpr ⟨(lo_pushI_tl _ _), ?_⟩
  refine List.forall_mem_cons.mpr ⟨(lo_pushI_tl _ _), ?_⟩
  refine List.forall_mem_cons.mpr ⟨(lo_calls_tl _ _ _ _ _), ?_⟩
  refine List.forall_mem_cons.mpr ⟨lo_none_tl, ?_⟩
  refine List.forall_mem_cons.mpr ⟨lo_none_tl, ?_⟩
  refine List.forall_mem_cons.mpr ⟨(lo_pushI_tl _ _), ?_⟩
  refine List.forall_mem_cons.mpr ⟨lo_none_tl, ?_⟩
  refine List.forall_mem_cons.mpr ⟨lo_none_tl, ?_⟩
  refine List.forall_mem_cons.mpr ⟨(lo_icmp_tl _ _ _), ?_⟩
  refine List.forall_mem_cons.mpr ⟨lo_none_tl, ?_⟩
  refine List.forall_mem_cons.mpr ⟨lo_none_tl, ?_⟩
  refine List.forall_mem_cons.mpr ⟨(lo_iload_tl _ _), ?_⟩
  refine List.forall_mem_cons.mpr ⟨lo_none_tl, ?_⟩
  refine List.forall_mem_cons.mpr ⟨(lo_if_tl _ _ _), ?_⟩
  refine List.forall_mem_cons.mpr ⟨lo_none_tl, ?_⟩
  refine List.forall_mem_cons.mpr ⟨lo_none_tl, ?_⟩
  refine List.forall_mem_cons.mpr ⟨(lo_aload_tl _ _), ?_⟩
  refine List.forall_mem_cons.mpr ⟨(lo_pushI_tl _ _), ?_⟩
  refine List.forall_mem_cons.mpr ⟨(lo_pushI_tl _ _), ?_⟩
  refine List.forall_mem_cons.mpr ⟨(lo_iload_tl _ _), ?_⟩
  refine List.forall_mem_cons.mpr ⟨lo_none_tl, ?_⟩
  refine List.forall_mem_cons.mpr ⟨(lo_iload_tl _ _), ?_⟩
  refine List.forall_mem_cons.mpr ⟨(lo_if_tl _ _ _), ?_⟩
  refine List.forall_mem_cons.mpr ⟨lo_none_tl, ?_⟩
  refine List.forall_mem_cons.mpr ⟨lo_none_tl, ?_⟩
  refine List.forall_mem_cons.mpr ⟨(lo_pushI_tl _ _), ?_⟩
  refine List.forall_mem_cons.mpr ⟨(lo_iload_tl _ _), ?_⟩
  refine List.forall_mem_cons.mpr ⟨(lo_pushI_tl _ _), ?_⟩
  refine List.forall_mem_cons.mpr ⟨lo_none_tl, ?_⟩
  refine List.forall_mem_cons.mpr ⟨(lo_iid_tl _ _), ?_⟩
  refine List.forall_mem_cons.mpr ⟨(lo_ii_tl _ _), ?_⟩
  refine List.forall_mem_cons.mpr ⟨(lo_goto_tl _), ?_⟩
  refine List.forall_mem_cons.mpr ⟨lo_none_tl, ?_⟩
  refine List.forall_mem_cons.mpr ⟨lo_none_tl, ?_⟩
  refine List.forall_mem_cons.mpr ⟨(lo_pushI_tl _ _), ?_⟩
  refine List.forall_mem_cons.mpr ⟨lo_none_tl, ?_⟩
  refine List.forall_mem_cons.mpr ⟨(lo_pushI_tl _ _), ?_⟩
  refine List.forall_mem_cons.mpr ⟨(lo_pushI_tl _ _), ?_⟩
  refine List.forall_mem_cons.mpr ⟨(lo_pushI_tl _ _), ?_⟩
  refine List.forall_mem_cons.mpr ⟨(lo_calls_tl _ _ _ _ _), ?_⟩
  refine List.forall_mem_cons.mpr ⟨lo_none_tl, ?_⟩
  refine List.forall_mem_cons.mpr ⟨lo_none_tl, ?_⟩
  refine List.forall_mem_cons.mpr ⟨(lo_pushI_tl _ _), ?_⟩
  refine List.forall_mem_cons.mpr ⟨lo_none_tl, ?_⟩
  refine List.forall_mem_cons.mpr ⟨lo_none_tl, ?_⟩
  refine List.forall_mem_cons.mpr ⟨(lo_icmp_tl _ _ _), ?_⟩
  refine List.forall_mem_cons.mpr ⟨lo_none_tl, ?_⟩
  refine List.forall_mem_cons.mpr ⟨lo_none_tl, ?_⟩
  refine List.forall_mem_cons.mpr ⟨(lo_aload_tl _ _), ?_⟩
  refine List.forall_mem_cons.mpr ⟨(lo_pushI_tl _ _), ?_⟩
  refine List.forall_mem_cons.mpr ⟨(lo_pushI_tl _ _), ?_⟩
  refine List.forall_mem_cons.mpr ⟨(lo_iload_tl _ _), ?_⟩
  refine List.forall_mem_cons.mpr ⟨lo_none_tl, ?_⟩
  refine List.forall_mem_cons.mpr ⟨(lo_pushI_tl _ _), ?_⟩
  refine List.forall_mem_cons.mpr ⟨(lo_pushI_tl _ _), ?_⟩
  refine List.forall_mem_cons.mpr ⟨(lo_pushI_tl _ _), ?_⟩
  refine List.forall_mem_cons.mpr ⟨(lo_pushI_tl _ _), ?_⟩
  refine List.forall_mem_cons.mpr ⟨(lo_calls_tl _ _ _ _ _), ?_⟩
  refine List.forall_mem_cons.mpr ⟨lo_none_tl, ?_⟩
  refine List.forall_mem_cons.mpr ⟨lo_none_tl, ?_⟩
  refine List.forall_mem_cons.mpr ⟨(lo_pushI_tl _ _), ?_⟩
  refine List.forall_mem_cons.mpr ⟨lo_none_tl, ?_⟩
  refine List.forall_mem_cons.mpr ⟨lo_none_tl, ?_⟩
  refine List.forall_mem_cons.mpr ⟨(lo_icmp_tl _ _ _), ?_⟩
  refine List.forall_mem_cons.mpr ⟨lo_none_tl, ?_⟩
  refine List.forall_mem_cons.mpr ⟨lo_none_tl, ?_⟩
  refine List.forall_mem_cons.mpr ⟨(lo_aload_tl _ _), ?_⟩
  refine List.forall_mem_cons.mpr ⟨(lo_pushI_tl _ _), ?_⟩
  refine List.forall_mem_cons.mpr ⟨(lo_pushI_tl _ _), ?_⟩
  refine List.forall_mem_cons.mpr ⟨(lo_iload_tl _ _), ?_⟩
  refine List.forall_mem_cons.mpr ⟨lo_none_tl, ?_⟩
  refine List.forall_mem_cons.mpr ⟨(lo_pushI_tl _ _), ?_⟩
  refine List.forall_mem_cons.mpr ⟨(lo_pushI_tl _ _), ?_⟩
  refine List.forall_mem_cons.mpr ⟨(lo_pushI_tl _ _), ?_⟩
  refine List.forall_mem_cons.mpr ⟨(lo_pushI_tl _ _), ?_⟩
  refine List.forall_mem_cons.mpr ⟨(lo_calls_tl _ _ _ _ _), ?_⟩
  refine List.forall_mem_cons.mpr ⟨lo_none_tl, ?_⟩
  refine List.forall_mem_cons.mpr ⟨lo_none_tl, ?_⟩
  refine List.forall_mem_cons.mpr ⟨(lo_pushI_tl _ _), ?_⟩
  refine List.forall_mem_cons.mpr ⟨lo_none_tl, ?_⟩
  refine List.forall_mem_cons.mpr ⟨lo_none_tl, ?_⟩
  refine List.forall_mem_cons.mpr ⟨(lo_icmp_tl _ _ _), ?_⟩
  refine List.forall_mem_cons.mpr ⟨lo_none_tl, ?_⟩
  refine List.forall_mem_cons.mpr ⟨lo_none_tl, ?_⟩
  refine List.forall_mem_cons.mpr ⟨(lo_aload_tl _ _), ?_⟩
  refine List.forall_mem_cons.mpr ⟨(lo_pushI_tl _ _), ?_⟩
  refine List.forall_mem_cons.mpr ⟨lo_none_tl, ?_⟩
  refine List.forall_mem_cons.mpr ⟨(lo_iload_tl _ _), ?_⟩
  refine List.forall_mem_cons.mpr ⟨lo_none_tl, ?_⟩
  refine List.forall_mem_cons.mpr ⟨(lo_iload_tl _ _), ?_⟩
  refine List.forall_mem_cons.mpr ⟨(lo_if_tl _ _ _), ?_⟩
  refine List.forall_mem_cons.mpr ⟨lo_none_tl, ?_⟩
  refine List.forall_mem_cons.mpr ⟨lo_none_tl, ?_⟩
  refine List.forall_mem_cons.mpr ⟨(lo_pushI_tl _ _), ?_⟩
  refine List.forall_mem_cons.mpr ⟨lo_none_tl, ?_⟩
  refine List.forall_mem_cons.mpr ⟨(lo_iload_tl _ _), ?_⟩
  refine List.forall_mem_cons.mpr ⟨(lo_pushI_tl _ _), ?_⟩
  refine List.forall_mem_cons.mpr ⟨lo_none_tl, ?_⟩
  refine List.forall_mem_cons.mpr ⟨(lo_iid_tl _ _), ?_⟩
  refine List.forall_mem_cons.mpr ⟨(lo_ii_tl _ _), ?_⟩
  refine List.forall_mem_cons.mpr ⟨(lo_goto_tl _), ?_⟩
  refine List.forall_mem_cons.mpr ⟨lo_none_tl, ?_⟩
  refine List.forall_mem_cons.mpr ⟨lo_none_tl, ?_⟩
  refine List.forall_mem_cons.mpr ⟨(lo_pushI_tl _ _), ?_⟩
  refine List.forall_mem_cons.mpr ⟨lo_none_tl, ?_⟩
  refine List.forall_mem_cons.mpr ⟨(lo_pushI_tl _ _), ?_⟩
  refine List.forall_mem_cons.mpr ⟨(lo_pushI_tl _ _), ?_⟩
  refine List.forall_mem_cons.mpr ⟨(lo_pushI_tl _ _), ?_⟩
  refine List.forall_mem_cons.mpr ⟨(lo_pushI_tl _ _), ?_⟩
  refine List.forall_mem_cons.mpr ⟨(lo_calls_tl _ _ _ _ _), ?_⟩
  refine List.forall_mem_cons.mpr ⟨lo_none_tl, ?_⟩
  refine List.forall_mem_cons.mpr ⟨lo_none_tl, ?_⟩
  refine List.forall_mem_cons.mpr ⟨(lo_pushI_tl _ _), ?_⟩
  refine List.forall_mem_cons.mpr ⟨lo_none_tl, ?_⟩
  refine List.forall_mem_cons.mpr ⟨lo_none_tl, ?_⟩
  refine List.forall_mem_cons.mpr ⟨(lo_icmp_tl _ _ _), ?_⟩
  refine List.forall_mem_cons.mpr ⟨lo_none_tl, ?_⟩
  refine List.forall_mem_cons.mpr ⟨lo_none_tl, ?_⟩
  refine List.forall_mem_cons.mpr ⟨(lo_goto_tl _), ?_⟩
  refine List.forall_mem_cons.mpr ⟨lo_none_tl, ?_⟩
  refine List.forall_mem_cons.mpr ⟨lo_none_tl, ?_⟩
  refine List.forall_mem_cons.mpr ⟨(lo_aload_tl _ _), ?_⟩
  refine List.forall_mem_cons.mpr ⟨(lo_pushI_tl _ _), ?_⟩
  refine List.forall_mem_cons.mpr ⟨(lo_pushI_tl _ _), ?_⟩
  refine List.forall_mem_cons.mpr ⟨(lo_iload_tl _ _), ?_⟩
  refine List.forall_mem_cons.mpr ⟨lo_none_tl, ?_⟩
  refine List.forall_mem_cons.mpr ⟨(lo_pushI_tl _ _), ?_⟩
  refine List.forall_mem_cons.mpr ⟨lo_none_tl, ?_⟩
  refine List.forall_mem_cons.mpr ⟨(lo_pushI_tl _ _), ?_⟩
  refine List.forall_mem_cons.mpr ⟨(lo_pushI_tl _ _), ?_⟩
  refine List.forall_mem_cons.mpr ⟨(lo_pushI_tl _ _), ?_⟩
  refine List.forall_mem_cons.mpr ⟨(lo_calls_tl _ _ _ _ _), ?_⟩
  refine List.forall_mem_cons.mpr ⟨lo_none_tl, ?_⟩
  refine List.forall_mem_cons.mpr ⟨lo_none_tl, ?_⟩
  refine List.forall_mem_cons.mpr ⟨(lo_pushI_tl _ _), ?_⟩
  refine List.forall_mem_cons.mpr ⟨lo_none_tl, ?_⟩
  refine List.forall_mem_cons.mpr ⟨lo_none_tl, ?_⟩
  refine List.forall_mem_cons.mpr ⟨(lo_icmp_tl _ _ _), ?_⟩
  refine List.forall_mem_cons.mpr ⟨lo_none_tl, ?_⟩
  refine List.forall_mem_cons.mpr ⟨lo_none_tl, ?_⟩
  refine List.forall_mem_cons.mpr ⟨(lo_aload_tl _ _), ?_⟩
  refine List.forall_mem_cons.mpr ⟨(lo_pushI_tl _ _), ?_⟩
  refine List.forall_mem_cons.mpr ⟨lo_none_tl, ?_⟩
  refine List.forall_mem_cons.mpr ⟨(lo_iload_tl _ _), ?_⟩
  refine List.forall_mem_cons.mpr ⟨lo_none_tl, ?_⟩
  refine List.forall_mem_cons.mpr ⟨(lo_pushI_tl _ _), ?_⟩
  refine List.forall_mem_cons.mpr ⟨(lo_pushI_tl _ _), ?_⟩
  refine List.forall_mem_cons.mpr ⟨(lo_pushI_tl _ _), ?_⟩
  refine List.forall_mem_cons.mpr ⟨(lo_pushI_tl _ _), ?_⟩
  refine List.forall_mem_cons.mpr ⟨(lo_pushI_tl _ _), ?_⟩
  refine List.forall_mem_cons.mpr ⟨(lo_calls_tl _ _ _ _ _), ?_⟩
  refine List.forall_mem_cons.mpr ⟨lo_none_tl, ?_⟩
  refine List.forall_mem_cons.mpr ⟨lo_none_tl, ?_⟩
  refine List.forall_mem_cons.mpr ⟨(lo_pushI_tl _ _), ?_⟩
  refine List.forall_mem_cons.mpr ⟨lo_none_tl, ?_⟩
  refine List.forall_mem_cons.mpr ⟨lo_none_tl, ?_⟩
  refine List.forall_mem_cons.mpr ⟨(lo_icmp_tl _ _ _), ?_⟩
  refine List.forall_mem_cons.mpr ⟨lo_none_tl, ?_⟩
  refine List.forall_mem_cons.mpr ⟨lo_none_tl, ?_⟩
  refine List.forall_mem_cons.mpr ⟨(lo_aload_tl _ _), ?_⟩
  refine List.forall_mem_cons.mpr ⟨(lo_iload_tl _ _), ?_⟩
  refine List.forall_mem_cons.mpr ⟨lo_none_tl, ?_⟩
  refine List.forall_mem_cons.mpr ⟨(lo_callv_tl _ _ _ _), ?_⟩
  refine List.forall_mem_cons.mpr ⟨lo_none_tl, ?_⟩
  refine List.forall_mem_cons.mpr ⟨lo_none_tl, ?_⟩
  refine List.forall_mem_cons.mpr ⟨(lo_if_tl _ _ _), ?_⟩
  refine List.forall_mem_cons.mpr ⟨lo_none_tl, ?_⟩
  refine List.forall_mem_cons.mpr ⟨lo_none_tl, ?_⟩
  refine List.forall_mem_cons.mpr ⟨(lo_aload_tl _ _), ?_⟩
  refine List.forall_mem_cons.mpr ⟨(lo_pushI_tl _ _), ?_⟩
  refine List.forall_mem_cons.mpr ⟨(lo_iload_tl _ _), ?_⟩
  refine List.forall_mem_cons.mpr ⟨lo_none_tl, ?_⟩
  refine List.forall_mem_cons.mpr ⟨(lo_pushI_tl _ _), ?_⟩
  refine List.forall_mem_cons.mpr ⟨(lo_iload_tl _ _), ?_⟩
  refine List.forall_mem_cons.mpr ⟨(lo_pushI_tl _ _), ?_⟩
  refine List.forall_mem_cons.mpr ⟨(lo_iid_tl _ _), ?_⟩
  refine List.forall_mem_cons.mpr ⟨(lo_ii_tl _ _), ?_⟩
  refine List.forall_mem_cons.mpr ⟨(lo_pushI_tl _ _), ?_⟩
  refine List.forall_mem_cons.mpr ⟨(lo_pushI_tl _ _), ?_⟩
  refine List.forall_mem_cons.mpr ⟨(lo_pushI_tl _ _), ?_⟩
  refine List.forall_mem_cons.mpr ⟨(lo_pushI_tl _ _), ?_⟩
  refine List.forall_mem_cons.mpr ⟨(lo_calls_tl _ _ _ _ _), ?_⟩
  refine List.forall_mem_cons.mpr ⟨lo_none_tl, ?_⟩
  refine List.forall_mem_cons.mpr ⟨lo_none_tl, ?_⟩
  refine List.forall_mem_cons.mpr ⟨(lo_pushI_tl _ _), ?_⟩
  refine List.forall_mem_cons.mpr ⟨lo_none_tl, ?_⟩
  refine List.forall_mem_cons.mpr ⟨lo_none_tl, ?_⟩
  refine List.forall_mem_cons.mpr ⟨(lo_icmp_tl _ _ _), ?_⟩
  refine List.forall_mem_cons.mpr ⟨lo_none_tl, ?_⟩
  refine List.forall_mem_cons.mpr ⟨lo_none_tl, ?_⟩
  refine List.forall_mem_cons.mpr ⟨(lo_aload_tl _ _), ?_⟩
  refine List.forall_mem_cons.mpr ⟨(lo_iload_tl _ _), ?_⟩
  refine List.forall_mem_cons.mpr ⟨lo_none_tl, ?_⟩
  refine List.forall_mem_cons.mpr ⟨(lo_callv_tl _ _ _ _), ?_⟩
  refine List.forall_mem_cons.mpr ⟨lo_none_tl, ?_⟩
  refine List.forall_mem_cons.mpr ⟨lo_none_tl, ?_⟩
  refine List.forall_mem_cons.mpr ⟨(lo_pushI_tl _ _), ?_⟩
  refine List.forall_mem_cons.mpr ⟨(lo_icmp_tl _ _ _), ?_⟩
  refine List.forall_mem_cons.mpr ⟨lo_none_tl, ?_⟩
  refine List.forall_mem_cons.mpr ⟨lo_none_tl, ?_⟩
  refine List.forall_mem_cons.mpr ⟨(lo_aload_tl _ _), ?_⟩
  refine List.forall_mem_cons.mpr ⟨(lo_pushI_tl _ _), ?_⟩
  refine List.forall_mem_cons.mpr ⟨(lo_iload_tl _ _), ?_⟩
  refine List.forall_mem_cons.mpr ⟨lo_none_tl, ?_⟩
  refine List.forall_mem_cons.mpr ⟨(lo_pushI_tl _ _), ?_⟩
  refine List.forall_mem_cons.mpr ⟨(lo_pushI_tl _ _), ?_⟩
  refine List.forall_mem_cons.mpr ⟨(lo_pushI_tl _ _), ?_⟩
  refine List.forall_mem_cons.mpr ⟨(lo_pushI_tl _ _), ?_⟩
  refine List.forall_mem_cons.mpr ⟨(lo_pushI_tl _ _), ?_⟩
  refine List.forall_mem_cons.mpr ⟨(lo_calls_tl _ _ _ _ _), ?_⟩
  refine List.forall_mem_cons.mpr ⟨lo_none_tl, ?_⟩
  refine List.forall_mem_cons.mpr ⟨lo_none_tl, ?_⟩
  refine List.forall_mem_cons.mpr ⟨(lo_pushI_tl _ _), ?_⟩
  refine List.forall_mem_cons.mpr ⟨lo_none_tl, ?_⟩
  refine List.forall_mem_cons.mpr ⟨lo_none_tl, ?_⟩
  refine List.forall_mem_cons.mpr ⟨(lo_icmp_tl _ _ _), ?_⟩
  refine List.forall_mem_cons.mpr ⟨lo_none_tl, ?_⟩
  refine List.forall_mem_cons.mpr ⟨lo_none_tl, ?_⟩
  refine List.forall_mem_cons.mpr ⟨(lo_aload_tl _ _), ?_⟩
  refine List.forall_mem_cons.mpr ⟨(lo_pushI_tl _ _), ?_⟩
  refine List.forall_mem_cons.mpr ⟨(lo_pushI_tl _ _), ?_⟩
  refine List.forall_mem_cons.mpr ⟨(lo_iload_tl _ _), ?_⟩
  refine List.forall_mem_cons.mpr ⟨lo_none_tl, ?_⟩
  refine List.forall_mem_cons.mpr ⟨(lo_iload_tl _ _), ?_⟩
  refine List.forall_mem_cons.mpr ⟨lo_none_tl, ?_⟩
  refine List.forall_mem_cons.mpr ⟨(lo_pushI_tl _ _), ?_⟩
  refine List.forall_mem_cons.mpr ⟨(lo_pushI_tl _ _), ?_⟩
  refine List.forall_mem_cons.mpr ⟨(lo_pushI_tl _ _), ?_⟩
  refine List.forall_mem_cons.mpr ⟨(lo_calls_tl _ _ _ _ _), ?_⟩
  refine List.forall_mem_cons.mpr ⟨lo_none_tl, ?_⟩
  refine List.forall_mem_cons.mpr ⟨lo_none_tl, ?_⟩
  refine List.forall_mem_cons.mpr ⟨(lo_pushI_tl _ _), ?_⟩
  refine List.forall_mem_cons.mpr ⟨lo_none_tl, ?_⟩
  refine List.forall_mem_cons.mpr ⟨lo_none_tl, ?_⟩
  refine List.forall_mem_cons.mpr ⟨(lo_icmp_tl _ _ _), ?_⟩
  refine List.forall_mem_cons.mpr ⟨lo_none_tl, ?_⟩
  refine List.forall_mem_cons.mpr ⟨lo_none_tl, ?_⟩
  refine List.forall_mem_cons.mpr ⟨(lo_pushI_tl _ _), ?_⟩
  refine List.forall_mem_cons.mpr ⟨(lo_goto_tl _), ?_⟩
  refine List.forall_mem_cons.mpr ⟨lo_none_tl, ?_⟩
  refine List.forall_mem_cons.mpr ⟨lo_none_tl, ?_⟩
  refine List.forall_mem_cons.mpr ⟨(lo_pushI_tl _ _), ?_⟩
  refine List.forall_mem_cons.mpr ⟨(lo_istore_tl _ _), ?_⟩
  refine List.forall_mem_cons.mpr ⟨lo_none_tl, ?_⟩
  refine List.forall_mem_cons.mpr ⟨(lo_iinc_tl _ _ _), ?_⟩
  refine List.forall_mem_cons.mpr ⟨lo_none_tl, ?_⟩
  refine List.forall_mem_cons.mpr ⟨lo_none_tl, ?_⟩
  refine List.forall_mem_cons.mpr ⟨(lo_goto_tl _), ?_⟩
  refine List.forall_mem_cons.mpr ⟨lo_none_tl, ?_⟩
  refine List.forall_mem_cons.mpr ⟨lo_none_tl, ?_⟩
  refine List.forall_mem_cons.mpr ⟨(lo_iload_tl _ _), ?_⟩
  refine List.forall_mem_cons.mpr ⟨lo_none_tl, ?_⟩
  refine List.forall_mem_cons.mpr ⟨(lo_if_tl _ _ _), ?_⟩
  refine List.forall_mem_cons.mpr ⟨lo_none_tl, ?_⟩
  refine List.forall_mem_cons.mpr ⟨lo_none_tl, ?_⟩
  refine List.forall_mem_cons.mpr ⟨(lo_aload_tl _ _), ?_⟩
  refine List.forall_mem_cons.mpr ⟨(lo_calls_tl _ _ _ _ _), ?_⟩
  refine List.forall_mem_cons.mpr ⟨lo_none_tl, ?_⟩
  refine List.forall_mem_cons.mpr ⟨lo_none_tl, ?_⟩
  refine List.forall_mem_cons.mpr ⟨(lo_lload_tl _ _), ?_⟩
  refine List.forall_mem_cons.mpr ⟨lo_none_tl, ?_⟩
  refine List.forall_mem_cons.mpr ⟨(lo_lcmp_tl _), ?_⟩
  refine List.forall_mem_cons.mpr ⟨(lo_if_tl _ _ _), ?_⟩
  refine List.forall_mem_cons.mpr ⟨lo_none_tl, ?_⟩
  refine List.forall_mem_cons.mpr ⟨lo_none_tl, ?_⟩
  refine List.forall_mem_cons.mpr ⟨(lo_pushI_tl _ _), ?_⟩
  refine List.forall_mem_cons.mpr ⟨(lo_goto_tl _), ?_⟩
  refine List.forall_mem_cons.mpr ⟨lo_none_tl, ?_⟩
  refine List.forall_mem_cons.mpr ⟨lo_none_tl, ?_⟩
  refine List.forall_mem_cons.mpr ⟨(lo_pushI_tl _ _), ?_⟩
  refine List.forall_mem_cons.mpr ⟨(lo_iret_tl _ _), ?_⟩
  exact fun _ h => absurd h List.not_mem_nil
noncomputable def fL_isRefused : lzFn := lz_fn tL_isRefused 13
set_option maxRecDepth 100000 in
set_option maxHeartbeats 4000000 in
theorem mm_L_isRefused {l : Launch} {D : va_G} {cA : Nat → ClassId} {ad : Nat → Nat} {Ex : (Nat → Prop) → State → Heap → Prop} {sc : List Int32} (Wd : lzWd l D cA ad Ex sc) : lz_C l D zzCl cA ad zzSC Ex yL_isRefused (Cond.code yL_isRefused cL_isRefused 13 (some .boolean)) 11 221 3600 fL_isRefused := by
  refine lz_meth (plainFor_of_name (by decide)) Wd.1.2.1 Wd.1.2.2.1 (fun p e R s m args below meth c rr X => ?_)
  unfold tL_isRefused
  refine lz_cons (k' := 1) rfl (lk_iload_n X dL_isRefused_0 rfl rfl) ?_
  refine lz_cons (k' := 2) rfl (lk_iconst X dL_isRefused_1 (by decide) rfl) ?_
  refine lz_cons (k' := 3) rfl (lk_irem X dL_isRefused_2 rfl) ?_
  refine lz_cons (k' := 4) rfl (lk_if_ne X dL_isRefused_3 (by decide) rfl) ?_
  refine lz_cons (k' := 5) rfl (lz_Ok_none _ _) ?_
  refine lz_cons (k' := 6) rfl (lz_Ok_none _ _) ?_
  refine lz_cons (k' := 7) rfl (lk_iconst X dL_isRefused_6 (by decide) rfl) ?_
  refine lz_cons (k' := 8) rfl (lk_goto X dL_isRefused_7 (by decide)) ?_
  refine lz_cons (k' := 9) rfl (lz_Ok_none _ _) ?_
  refine lz_cons (k' := 10) rfl (lz_Ok_none _ _) ?_
  refine lz_cons (k' := 11) rfl (lk_iconst X dL_isRefused_10 (by decide) rfl) ?_
  refine lz_cons (k' := 12) rfl (lk_istore_n X dL_isRefused_11 rfl (by decide) rfl) ?_
  refine lz_cons (k' := 13) rfl (lk_iload_n X dL_isRefused_12 rfl rfl) ?_
  refine lz_cons (k' := 14) rfl (lk_if_eq X dL_isRefused_13 (by decide) rfl) ?_
  refine lz_cons (k' := 15) rfl (lz_Ok_none _ _) ?_
  refine lz_cons (k' := 16) rfl (lz_Ok_none _ _) ?_
  refine lz_cons (k' := 17) rfl (lk_iconst X dL_isRefused_16 (by decide) rfl) ?_
  refine lz_cons (k' := 18) rfl (lk_iload_n X dL_isRefused_17 rfl rfl) ?_
  refine lz_cons (k' := 19) rfl (lk_bipush X dL_isRefused_18 (by decide) rfl) ?_
  refine lz_cons (k' := 20) rfl (lz_Ok_none _ _) ?_
  refine lz_cons (k' := 21) rfl (lk_irem X dL_isRefused_20 rfl) ?_
  refine lz_cons (k' := 22) rfl (lk_isub X dL_isRefused_21 rfl) ?_
  refine lz_cons (k' := 23) rfl (lk_goto X dL_isRefused_22 (by decide)) ?_
  refine lz_cons (k' := 24) rfl (lz_Ok_none _ _) ?_
  refine lz_cons (k' := 25) rfl (lz_Ok_none _ _) ?_
  refine lz_cons (k' := 26) rfl (lk_aload_n X dL_isRefused_25 rfl rfl) ?_
  refine lz_cons (k' := 27) rfl (lk_callv X kc_155 (mm_X11_objects Wd.1) (by decide) dL_isRefused_26 rfl) ?_
  refine lz_cons (k' := 28) rfl (lz_Ok_none _ _) ?_
  refine lz_cons (k' := 29) rfl (lz_Ok_none _ _) ?_
  refine lz_cons (k' := 30) rfl (lk_iload_n X dL_isRefused_29 rfl rfl) ?_
  refine lz_cons (k' := 31) rfl (lk_bipush X dL_isRefused_30 (by decide) rfl) ?_
  refine lz_cons (k' := 32) rfl (lz_Ok_none _ _) ?_
  refine lz_cons (k' := 33) rfl (lk_irem X dL_isRefused_32 rfl) ?_
  refine lz_cons (k' := 34) rfl (lk_iadd X dL_isRefused_33 rfl) ?_
  refine lz_cons (k' := 35) rfl (lk_istore_n X dL_isRefused_34 rfl (by decide) rfl) ?_
  refine lz_cons (k' := 36) rfl (lk_iload_n X dL_isRefused_35 rfl rfl) ?_
  refine lz_cons (k' := 37) rfl (lk_if_eq X dL_isRefused_36 (by decide) rfl) ?_
  refine lz_cons (k' := 38) rfl (lz_Ok_none _ _) ?_
  refine lz_cons (k' := 39) rfl (lz_Ok_none _ _) ?_
  refine lz_cons (k' := 40) rfl (lk_iconst X dL_isRefused_39 (by decide) rfl) ?_
  refine lz_cons (k' := 41) rfl (lk_iload_n X dL_isRefused_40 rfl rfl) ?_
  refine lz_cons (k' := 42) rfl (lk_bipush X dL_isRefused_41 (by decide) rfl) ?_
  refine lz_cons (k' := 43) rfl (lz_Ok_none _ _) ?_
  refine lz_cons (k' := 44) rfl (lk_irem X dL_isRefused_43 rfl) ?_
  refine lz_cons (k' := 45) rfl (lk_isub X dL_isRefused_44 rfl) ?_
  refine lz_cons (k' := 46) rfl (lk_goto X dL_isRefused_45 (by decide)) ?_
  refine lz_cons (k' := 47) rfl (lz_Ok_none _ _) ?_
  refine lz_cons (k' := 48) rfl (lz_Ok_none _ _) ?_
  refine lz_cons (k' := 49) rfl (lk_bipush X dL_isRefused_48 (by decide) rfl) ?_
  refine lz_cons (k' := 50) rfl (lz_Ok_none _ _) ?_
  refine lz_cons (k' := 51) rfl (lk_iload_n X dL_isRefused_50 rfl rfl) ?_
  refine lz_cons (k' := 52) rfl (lk_bipush X dL_isRefused_51 (by decide) rfl) ?_
  refine lz_cons (k' := 53) rfl (lz_Ok_none _ _) ?_
  refine lz_cons (k' := 54) rfl (lk_irem X dL_isRefused_53 rfl) ?_
  refine lz_cons (k' := 55) rfl (lk_iadd X dL_isRefused_54 rfl) ?_
  refine lz_cons (k' := 56) rfl (lk_istore X dL_isRefused_55 (by decide) rfl) ?_
  refine lz_cons (k' := 57) rfl (lz_Ok_none _ _) ?_
  refine lz_cons (k' := 58) rfl (lk_iload_n X dL_isRefused_57 rfl rfl) ?_
  refine lz_cons (k' := 59) rfl (lk_if_eq X dL_isRefused_58 (by decide) rfl) ?_
  refine lz_cons (k' := 60) rfl (lz_Ok_none _ _) ?_
  refine lz_cons (k' := 61) rfl (lz_Ok_none _ _) ?_
  refine lz_cons (k' := 62) rfl (lk_iconst X dL_isRefused_61 (by decide) rfl) ?_
  refine lz_cons (k' := 63) rfl (lk_iload_n X dL_isRefused_62 rfl rfl) ?_
  refine lz_cons (k' := 64) rfl (lk_bipush X dL_isRefused_63 (by decide) rfl) ?_
  refine lz_cons (k' := 65) rfl (lz_Ok_none _ _) ?_
  refine lz_cons (k' := 66) rfl (lk_irem X dL_isRefused_65 rfl) ?_
  refine lz_cons (k' := 67) rfl (lk_isub X dL_isRefused_66 rfl) ?_
  refine lz_cons (k' := 68) rfl (lk_goto X dL_isRefused_67 (by decide)) ?_
  refine lz_cons (k' := 69) rfl (lz_Ok_none _ _) ?_
  refine lz_cons (k' := 70) rfl (lz_Ok_none _ _) ?_
  refine lz_cons (k' := 71) rfl (lk_iconst X dL_isRefused_70 (by decide) rfl) ?_
  refine lz_cons (k' := 72) rfl (lk_iload_n X dL_isRefused_71 rfl rfl) ?_
  refine lz_cons (k' := 73) rfl (lk_bipush X dL_isRefused_72 (by decide) rfl) ?_
  refine lz_cons (k' := 74) rfl (lz_Ok_none _ _) ?_
  refine lz_cons (k' := 75) rfl (lk_irem X dL_isRefused_74 rfl) ?_
  refine lz_cons (k' := 76) rfl (lk_iadd X dL_isRefused_75 rfl) ?_
  refine lz_cons (k' := 77) rfl (lk_istore X dL_isRefused_76 (by decide) rfl) ?_
  refine lz_cons (k' := 78) rfl (lz_Ok_none _ _) ?_
  refine lz_cons (k' := 79) rfl (lk_aload_n X dL_isRefused_78 rfl rfl) ?_
  refine lz_cons (k' := 80) rfl (lk_calls X kl_172 (mm_L_all Wd) (by decide) dL_isRefused_79 rfl) ?_
  refine lz_cons (k' := 81) rfl (lz_Ok_none _ _) ?_
  refine lz_cons (k' := 82) rfl (lz_Ok_none _ _) ?_
  refine lz_cons (k' := 83) rfl (lk_lstore X dL_isRefused_82 (by decide) rfl) ?_
  refine lz_cons (k' := 84) rfl (lz_Ok_none _ _) ?_
  refine lz_cons (k' := 85) rfl (lk_aload_n X dL_isRefused_84 rfl rfl) ?_
  refine lz_cons (k' := 86) rfl (lk_iconst X dL_isRefused_85 (by decide) rfl) ?_
  refine lz_cons (k' := 87) rfl (lk_iload X dL_isRefused_86 rfl) ?_
  refine lz_cons (k' := 88) rfl (lz_Ok_none _ _) ?_
  refine lz_cons (k' := 89) rfl (lk_iconst X dL_isRefused_88 (by decide) rfl) ?_
  refine lz_cons (k' := 90) rfl (lk_iconst X dL_isRefused_89 (by decide) rfl) ?_
  refine lz_cons (k' := 91) rfl (lk_iconst X dL_isRefused_90 (by decide) rfl) ?_
  refine lz_cons (k' := 92) rfl (lk_iconst X dL_isRefused_91 (by decide) rfl) ?_
  refine lz_cons (k' := 93) rfl (lk_iconst X dL_isRefused_92 (by decide) rfl) ?_
  refine lz_cons (k' := 94) rfl (lk_calls X kl_168 (mm_L_act Wd) (by decide) dL_isRefused_93 rfl) ?_
  refine lz_cons (k' := 95) rfl (lz_Ok_none _ _) ?_
  refine lz_cons (k' := 96) rfl (lz_Ok_none _ _) ?_
  refine lz_cons (k' := 97) rfl (lk_sipush X dL_isRefused_96 (by decide) rfl) ?_
  refine lz_cons (k' := 98) rfl (lz_Ok_none _ _) ?_
  refine lz_cons (k' := 99) rfl (lz_Ok_none _ _) ?_
  refine lz_cons (k' := 100) rfl (lk_icmp_ne X dL_isRefused_99 (by decide) rfl) ?_
  refine lz_cons (k' := 101) rfl (lz_Ok_none _ _) ?_
  refine lz_cons (k' := 102) rfl (lz_Ok_none _ _) ?_
  refine lz_cons (k' := 103) rfl (lk_aload_n X dL_isRefused_102 rfl rfl) ?_
  refine lz_cons (k' := 104) rfl (lk_iconst X dL_isRefused_103 (by decide) rfl) ?_
  refine lz_cons (k' := 105) rfl (lk_iconst X dL_isRefused_104 (by decide) rfl) ?_
  refine lz_cons (k' := 106) rfl (lk_iload_n X dL_isRefused_105 rfl rfl) ?_
  refine lz_cons (k' := 107) rfl (lk_if_eq X dL_isRefused_106 (by decide) rfl) ?_
  refine lz_cons (k' := 108) rfl (lz_Ok_none _ _) ?_
  refine lz_cons (k' := 109) rfl (lz_Ok_none _ _) ?_
  refine lz_cons (k' := 110) rfl (lk_iconst X dL_isRefused_109 (by decide) rfl) ?_
  refine lz_cons (k' := 111) rfl (lk_iload_n X dL_isRefused_110 rfl rfl) ?_
  refine lz_cons (k' := 112) rfl (lk_bipush X dL_isRefused_111 (by decide) rfl) ?_
  refine lz_cons (k' := 113) rfl (lz_Ok_none _ _) ?_
  refine lz_cons (k' := 114) rfl (lk_irem X dL_isRefused_113 rfl) ?_
  refine lz_cons (k' := 115) rfl (lk_isub X dL_isRefused_114 rfl) ?_
  refine lz_cons (k' := 116) rfl (lk_goto X dL_isRefused_115 (by decide)) ?_
  refine lz_cons (k' := 117) rfl (lz_Ok_none _ _) ?_
  refine lz_cons (k' := 118) rfl (lz_Ok_none _ _) ?_
  refine lz_cons (k' := 119) rfl (lk_bipush X dL_isRefused_118 (by decide) rfl) ?_
  refine lz_cons (k' := 120) rfl (lz_Ok_none _ _) ?_
  refine lz_cons (k' := 121) rfl (lk_iconst X dL_isRefused_120 (by decide) rfl) ?_
  refine lz_cons (k' := 122) rfl (lk_iconst X dL_isRefused_121 (by decide) rfl) ?_
  refine lz_cons (k' := 123) rfl (lk_iconst X dL_isRefused_122 (by decide) rfl) ?_
  refine lz_cons (k' := 124) rfl (lk_iconst X dL_isRefused_123 (by decide) rfl) ?_
  refine lz_cons (k' := 125) rfl (lk_calls X kl_168 (mm_L_act Wd) (by decide) dL_isRefused_124 rfl) ?_
  refine lz_cons (k' := 126) rfl (lz_Ok_none _ _) ?_
  refine lz_cons (k' := 127) rfl (lz_Ok_none _ _) ?_
  refine lz_cons (k' := 128) rfl (lk_sipush X dL_isRefused_127 (by decide) rfl) ?_
  refine lz_cons (k' := 129) rfl (lz_Ok_none _ _) ?_
  refine lz_cons (k' := 130) rfl (lz_Ok_none _ _) ?_
  refine lz_cons (k' := 131) rfl (lk_icmp_ne X dL_isRefused_130 (by decide) rfl) ?_
  refine lz_cons (k' := 132) rfl (lz_Ok_none _ _) ?_
  refine lz_cons (k' := 133) rfl (lz_Ok_none _ _) ?_
  refine lz_cons (k' := 134) rfl (lk_aload_n X dL_isRefused_133 rfl rfl) ?_
  refine lz_cons (k' := 135) rfl (lk_iconst X dL_isRefused_134 (by decide) rfl) ?_
  refine lz_cons (k' := 136) rfl (lk_iconst X dL_isRefused_135 (by decide) rfl) ?_
  refine lz_cons (k' := 137) rfl (lk_iload_n X dL_isRefused_136 rfl rfl) ?_
  refine lz_cons (k' := 138) rfl (lk_iconst X dL_isRefused_137 (by decide) rfl) ?_
  refine lz_cons (k' := 139) rfl (lk_iconst X dL_isRefused_138 (by decide) rfl) ?_
  refine lz_cons (k' := 140) rfl (lk_iconst X dL_isRefused_139 (by decide) rfl) ?_
  refine lz_cons (k' := 141) rfl (lk_iconst X dL_isRefused_140 (by decide) rfl) ?_
  refine lz_cons (k' := 142) rfl (lk_calls X kl_168 (mm_L_act Wd) (by decide) dL_isRefused_141 rfl) ?_
  refine lz_cons (k' := 143) rfl (lz_Ok_none _ _) ?_
  refine lz_cons (k' := 144) rfl (lz_Ok_none _ _) ?_
  refine lz_cons (k' := 145) rfl (lk_sipush X dL_isRefused_144 (by decide) rfl) ?_
  refine lz_cons (k' := 146) rfl (lz_Ok_none _ _) ?_
  refine lz_cons (k' := 147) rfl (lz_Ok_none _ _) ?_
  refine lz_cons (k' := 148) rfl (lk_icmp_ne X dL_isRefused_147 (by decide) rfl) ?_
  refine lz_cons (k' := 149) rfl (lz_Ok_none _ _) ?_
  refine lz_cons (k' := 150) rfl (lz_Ok_none _ _) ?_
  refine lz_cons (k' := 151) rfl (lk_aload_n X dL_isRefused_150 rfl rfl) ?_
  refine lz_cons (k' := 152) rfl (lk_iconst X dL_isRefused_151 (by decide) rfl) ?_
  refine lz_cons (k' := 153) rfl (lk_iconst X dL_isRefused_152 (by decide) rfl) ?_
  refine lz_cons (k' := 154) rfl (lk_iload_n X dL_isRefused_153 rfl rfl) ?_
  refine lz_cons (k' := 155) rfl (lk_iconst X dL_isRefused_154 (by decide) rfl) ?_
  refine lz_cons (k' := 156) rfl (lk_iconst X dL_isRefused_155 (by decide) rfl) ?_
  refine lz_cons (k' := 157) rfl (lk_iconst X dL_isRefused_156 (by decide) rfl) ?_
  refine lz_cons (k' := 158) rfl (lk_iconst X dL_isRefused_157 (by decide) rfl) ?_
  refine lz_cons (k' := 159) rfl (lk_calls X kl_168 (mm_L_act Wd) (by decide) dL_isRefused_158 rfl) ?_
  refine lz_cons (k' := 160) rfl (lz_Ok_none _ _) ?_
  refine lz_cons (k' := 161) rfl (lz_Ok_none _ _) ?_
  refine lz_cons (k' := 162) rfl (lk_sipush X dL_isRefused_161 (by decide) rfl) ?_
  refine lz_cons (k' := 163) rfl (lz_Ok_none _ _) ?_
  refine lz_cons (k' := 164) rfl (lz_Ok_none _ _) ?_
  refine lz_cons (k' := 165) rfl (lk_icmp_ne X dL_isRefused_164 (by decide) rfl) ?_
  refine lz_cons (k' := 166) rfl (lz_Ok_none _ _) ?_
  refine lz_cons (k' := 167) rfl (lz_Ok_none _ _) ?_
  refine lz_cons (k' := 168) rfl (lk_aload_n X dL_isRefused_167 rfl rfl) ?_
  refine lz_cons (k' := 169) rfl (lk_iconst X dL_isRefused_168 (by decide) rfl) ?_
  refine lz_cons (k' := 170) rfl (lk_iload_n X dL_isRefused_169 rfl rfl) ?_
  refine lz_cons (k' := 171) rfl (lk_bipush X dL_isRefused_170 (by decide) rfl) ?_
  refine lz_cons (k' := 172) rfl (lz_Ok_none _ _) ?_
  refine lz_cons (k' := 173) rfl (lk_iconst X dL_isRefused_172 (by decide) rfl) ?_
  refine lz_cons (k' := 174) rfl (lk_iconst X dL_isRefused_173 (by decide) rfl) ?_
  refine lz_cons (k' := 175) rfl (lk_iconst X dL_isRefused_174 (by decide) rfl) ?_
  refine lz_cons (k' := 176) rfl (lk_iconst X dL_isRefused_175 (by decide) rfl) ?_
  refine lz_cons (k' := 177) rfl (lk_calls X kl_168 (mm_L_act Wd) (by decide) dL_isRefused_176 rfl) ?_
  refine lz_cons (k' := 178) rfl (lz_Ok_none _ _) ?_
  refine lz_cons (k' := 179) rfl (lz_Ok_none _ _) ?_
  refine lz_cons (k' := 180) rfl (lk_sipush X dL_isRefused_179 (by decide) rfl) ?_
  refine lz_cons (k' := 181) rfl (lz_Ok_none _ _) ?_
  refine lz_cons (k' := 182) rfl (lz_Ok_none _ _) ?_
  refine lz_cons (k' := 183) rfl (lk_icmp_ne X dL_isRefused_182 (by decide) rfl) ?_
  refine lz_cons (k' := 184) rfl (lz_Ok_none _ _) ?_
  refine lz_cons (k' := 185) rfl (lz_Ok_none _ _) ?_
  refine lz_cons (k' := 186) rfl (lk_aload_n X dL_isRefused_185 rfl rfl) ?_
  refine lz_cons (k' := 187) rfl (lk_iconst X dL_isRefused_186 (by decide) rfl) ?_
  refine lz_cons (k' := 188) rfl (lk_iload_n X dL_isRefused_187 rfl rfl) ?_
  refine lz_cons (k' := 189) rfl (lk_iconst X dL_isRefused_188 (by decide) rfl) ?_
  refine lz_cons (k' := 190) rfl (lk_iconst X dL_isRefused_189 (by decide) rfl) ?_
  refine lz_cons (k' := 191) rfl (lk_iconst X dL_isRefused_190 (by decide) rfl) ?_
  refine lz_cons (k' := 192) rfl (lk_iconst X dL_isRefused_191 (by decide) rfl) ?_
  refine lz_cons (k' := 193) rfl (lk_iconst X dL_isRefused_192 (by decide) rfl) ?_
  refine lz_cons (k' := 194) rfl (lk_calls X kl_168 (mm_L_act Wd) (by decide) dL_isRefused_193 rfl) ?_
  refine lz_cons (k' := 195) rfl (lz_Ok_none _ _) ?_
  refine lz_cons (k' := 196) rfl (lz_Ok_none _ _) ?_
  refine lz_cons (k' := 197) rfl (lk_sipush X dL_isRefused_196 (by decide) rfl) ?_
  refine lz_cons (k' := 198) rfl (lz_Ok_none _ _) ?_
  refine lz_cons (k' := 199) rfl (lz_Ok_none _ _) ?_
  refine lz_cons (k' := 200) rfl (lk_icmp_ne X dL_isRefused_199 (by decide) rfl) ?_
  refine lz_cons (k' := 201) rfl (lz_Ok_none _ _) ?_
  refine lz_cons (k' := 202) rfl (lz_Ok_none _ _) ?_
  refine lz_cons (k' := 203) rfl (lk_aload_n X dL_isRefused_202 rfl rfl) ?_
  refine lz_cons (k' := 204) rfl (lk_iconst X dL_isRefused_203 (by decide) rfl) ?_
  refine lz_cons (k' := 205) rfl (lk_iload_n X dL_isRefused_204 rfl rfl) ?_
  refine lz_cons (k' := 206) rfl (lk_iconst X dL_isRefused_205 (by decide) rfl) ?_
  refine lz_cons (k' := 207) rfl (lk_iconst X dL_isRefused_206 (by decide) rfl) ?_
  refine lz_cons (k' := 208) rfl (lk_iconst X dL_isRefused_207 (by decide) rfl) ?_
  refine lz_cons (k' := 209) rfl (lk_iconst X dL_isRefused_208 (by decide) rfl) ?_
  refine lz_cons (k' := 210) rfl (lk_iconst X dL_isRefused_209 (by decide) rfl) ?_
  refine lz_cons (k' := 211) rfl (lk_calls X kl_168 (mm_L_act Wd) (by decide) dL_isRefused_210 rfl) ?_
  refine lz_cons (k' := 212) rfl (lz_Ok_none _ _) ?_
  refine lz_cons (k' := 213) rfl (lz_Ok_none _ _) ?_
  refine lz_cons (k' := 214) rfl (lk_sipush X dL_isRefused_213 (by decide) rfl) ?_
  refine lz_cons (k' := 215) rfl (lz_Ok_none _ _) ?_
  refine lz_cons (k' := 216) rfl (lz_Ok_none _ _) ?_
  refine lz_cons (k' := 217) rfl (lk_icmp_ne X dL_isRefused_216 (by decide) rfl) ?_
  refine lz_cons (k' := 218) rfl (lz_Ok_none _ _) ?_
  refine lz_cons (k' := 219) rfl (lz_Ok_none _ _) ?_
  refine lz_cons (k' := 220) rfl (lk_aload_n X dL_isRefused_219 rfl rfl) ?_
  refine lz_cons (k' := 221) rfl (lk_bipush X dL_isRefused_220 (by decide) rfl) ?_
  refine lz_cons (k' := 222) rfl (lz_Ok_none _ _) ?_
  refine lz_cons (k' := 223) rfl (lk_iload_n X dL_isRefused_222 rfl rfl) ?_
  refine lz_cons (k' := 224) rfl (lk_if_eq X dL_isRefused_223 (by decide) rfl) ?_
  refine lz_cons (k' := 225) rfl (lz_Ok_none _ _) ?_
  refine lz_cons (k' := 226) rfl (lz_Ok_none _ _) ?_
  refine lz_cons (k' := 227) rfl (lk_iconst X dL_isRefused_226 (by decide) rfl) ?_
  refine lz_cons (k' := 228) rfl (lk_iload_n X dL_isRefused_227 rfl rfl) ?_
  refine lz_cons (k' := 229) rfl (lk_bipush X dL_isRefused_228 (by decide) rfl) ?_
  refine lz_cons (k' := 230) rfl (lz_Ok_none _ _) ?_
  refine lz_cons (k' := 231) rfl (lk_irem X dL_isRefused_230 rfl) ?_
  refine lz_cons (k' := 232) rfl (lk_isub X dL_isRefused_231 rfl) ?_
  refine lz_cons (k' := 233) rfl (lk_goto X dL_isRefused_232 (by decide)) ?_
  refine lz_cons (k' := 234) rfl (lz_Ok_none _ _) ?_
  refine lz_cons (k' := 235) rfl (lz_Ok_none _ _) ?_
  refine lz_cons (k' := 236) rfl (lk_bipush X dL_isRefused_235 (by decide) rfl) ?_
  refine lz_cons (k' := 237) rfl (lz_Ok_none _ _) ?_
  refine lz_cons (k' := 238) rfl (lk_iconst X dL_isRefused_237 (by decide) rfl) ?_
  refine lz_cons (k' := 239) rfl (lk_iconst X dL_isRefused_238 (by decide) rfl) ?_
  refine lz_cons (k' := 240) rfl (lk_iconst X dL_isRefused_239 (by decide) rfl) ?_
  refine lz_cons (k' := 241) rfl (lk_iconst X dL_isRefused_240 (by decide) rfl) ?_
  refine lz_cons (k' := 242) rfl (lk_iconst X dL_isRefused_241 (by decide) rfl) ?_
  refine lz_cons (k' := 243) rfl (lk_calls X kl_168 (mm_L_act Wd) (by decide) dL_isRefused_242 rfl) ?_
  refine lz_cons (k' := 244) rfl (lz_Ok_none _ _) ?_
  refine lz_cons (k' := 245) rfl (lz_Ok_none _ _) ?_
  refine lz_cons (k' := 246) rfl (lk_sipush X dL_isRefused_245 (by decide) rfl) ?_
  refine lz_cons (k' := 247) rfl (lz_Ok_none _ _) ?_
  refine lz_cons (k' := 248) rfl (lz_Ok_none _ _) ?_
  refine lz_cons (k' := 249) rfl (lk_icmp_ne X dL_isRefused_248 (by decide) rfl) ?_
  refine lz_cons (k' := 250) rfl (lz_Ok_none _ _) ?_
  refine lz_cons (k' := 251) rfl (lz_Ok_none _ _) ?_
  refine lz_cons (k' := 252) rfl (lk_aload_n X dL_isRefused_251 rfl rfl) ?_
  refine lz_cons (k' := 253) rfl (lk_bipush X dL_isRefused_252 (by decide) rfl) ?_
  refine lz_cons (k' := 254) rfl (lz_Ok_none _ _) ?_
  refine lz_cons (k' := 255) rfl (lk_iconst X dL_isRefused_254 (by decide) rfl) ?_
  refine lz_cons (k' := 256) rfl (lk_iconst X dL_isRefused_255 (by decide) rfl) ?_
  refine lz_cons (k' := 257) rfl (lk_iload_n X dL_isRefused_256 rfl rfl) ?_
  refine lz_cons (k' := 258) rfl (lk_bipush X dL_isRefused_257 (by decide) rfl) ?_
  refine lz_cons (k' := 259) rfl (lz_Ok_none _ _) ?_
  refine lz_cons (k' := 260) rfl (lk_irem X dL_isRefused_259 rfl) ?_
  refine lz_cons (k' := 261) rfl (lk_iconst X dL_isRefused_260 (by decide) rfl) ?_
  refine lz_cons (k' := 262) rfl (lk_iadd X dL_isRefused_261 rfl) ?_
  refine lz_cons (k' := 263) rfl (lk_iload_n X dL_isRefused_262 rfl rfl) ?_
  refine lz_cons (k' := 264) rfl (lk_bipush X dL_isRefused_263 (by decide) rfl) ?_
  refine lz_cons (k' := 265) rfl (lz_Ok_none _ _) ?_
  refine lz_cons (k' := 266) rfl (lk_irem X dL_isRefused_265 rfl) ?_
  refine lz_cons (k' := 267) rfl (lk_iconst X dL_isRefused_266 (by decide) rfl) ?_
  refine lz_cons (k' := 268) rfl (lk_iconst X dL_isRefused_267 (by decide) rfl) ?_
  refine lz_cons (k' := 269) rfl (lk_calls X kl_168 (mm_L_act Wd) (by decide) dL_isRefused_268 rfl) ?_
  refine lz_cons (k' := 270) rfl (lz_Ok_none _ _) ?_
  refine lz_cons (k' := 271) rfl (lz_Ok_none _ _) ?_
  refine lz_cons (k' := 272) rfl (lk_sipush X dL_isRefused_271 (by decide) rfl) ?_
  refine lz_cons (k' := 273) rfl (lz_Ok_none _ _) ?_
  refine lz_cons (k' := 274) rfl (lz_Ok_none _ _) ?_
  refine lz_cons (k' := 275) rfl (lk_icmp_ne X dL_isRefused_274 (by decide) rfl) ?_
  refine lz_cons (k' := 276) rfl (lz_Ok_none _ _) ?_
  refine lz_cons (k' := 277) rfl (lz_Ok_none _ _) ?_
  refine lz_cons (k' := 278) rfl (lk_aload_n X dL_isRefused_277 rfl rfl) ?_
  refine lz_cons (k' := 279) rfl (lk_bipush X dL_isRefused_278 (by decide) rfl) ?_
  refine lz_cons (k' := 280) rfl (lz_Ok_none _ _) ?_
  refine lz_cons (k' := 281) rfl (lk_iconst X dL_isRefused_280 (by decide) rfl) ?_
  refine lz_cons (k' := 282) rfl (lk_iconst X dL_isRefused_281 (by decide) rfl) ?_
  refine lz_cons (k' := 283) rfl (lk_iconst X dL_isRefused_282 (by decide) rfl) ?_
  refine lz_cons (k' := 284) rfl (lk_iconst X dL_isRefused_283 (by decide) rfl) ?_
  refine lz_cons (k' := 285) rfl (lk_iconst X dL_isRefused_284 (by decide) rfl) ?_
  refine lz_cons (k' := 286) rfl (lk_iconst X dL_isRefused_285 (by decide) rfl) ?_
  refine lz_cons (k' := 287) rfl (lk_calls X kl_168 (mm_L_act Wd) (by decide) dL_isRefused_286 rfl) ?_
  refine lz_cons (k' := 288) rfl (lz_Ok_none _ _) ?_
  refine lz_cons (k' := 289) rfl (lz_Ok_none _ _) ?_
  refine lz_cons (k' := 290) rfl (lk_sipush X dL_isRefused_289 (by decide) rfl) ?_
  refine lz_cons (k' := 291) rfl (lz_Ok_none _ _) ?_
  refine lz_cons (k' := 292) rfl (lz_Ok_none _ _) ?_
  refine lz_cons (k' := 293) rfl (lk_icmp_ne X dL_isRefused_292 (by decide) rfl) ?_
  refine lz_cons (k' := 294) rfl (lz_Ok_none _ _) ?_
  refine lz_cons (k' := 295) rfl (lz_Ok_none _ _) ?_
  refine lz_cons (k' := 296) rfl (lk_aload_n X dL_isRefused_295 rfl rfl) ?_
  refine lz_cons (k' := 297) rfl (lk_bipush X dL_isRefused_296 (by decide) rfl) ?_
  refine lz_cons (k' := 298) rfl (lz_Ok_none _ _) ?_
  refine lz_cons (k' := 299) rfl (lk_iconst X dL_isRefused_298 (by decide) rfl) ?_
  refine lz_cons (k' := 300) rfl (lk_iconst X dL_isRefused_299 (by decide) rfl) ?_
  refine lz_cons (k' := 301) rfl (lk_iconst X dL_isRefused_300 (by decide) rfl) ?_
  refine lz_cons (k' := 302) rfl (lk_iconst X dL_isRefused_301 (by decide) rfl) ?_
  refine lz_cons (k' := 303) rfl (lk_iconst X dL_isRefused_302 (by decide) rfl) ?_
  refine lz_cons (k' := 304) rfl (lk_iload_n X dL_isRefused_303 rfl rfl) ?_
  refine lz_cons (k' := 305) rfl (lk_if_eq X dL_isRefused_304 (by decide) rfl) ?_
  refine lz_cons (k' := 306) rfl (lz_Ok_none _ _) ?_
  refine lz_cons (k' := 307) rfl (lz_Ok_none _ _) ?_
  refine lz_cons (k' := 308) rfl (lk_iconst X dL_isRefused_307 (by decide) rfl) ?_
  refine lz_cons (k' := 309) rfl (lk_iload_n X dL_isRefused_308 rfl rfl) ?_
  refine lz_cons (k' := 310) rfl (lk_bipush X dL_isRefused_309 (by decide) rfl) ?_
  refine lz_cons (k' := 311) rfl (lz_Ok_none _ _) ?_
  refine lz_cons (k' := 312) rfl (lk_irem X dL_isRefused_311 rfl) ?_
  refine lz_cons (k' := 313) rfl (lk_isub X dL_isRefused_312 rfl) ?_
  refine lz_cons (k' := 314) rfl (lk_goto X dL_isRefused_313 (by decide)) ?_
  refine lz_cons (k' := 315) rfl (lz_Ok_none _ _) ?_
  refine lz_cons (k' := 316) rfl (lz_Ok_none _ _) ?_
  refine lz_cons (k' := 317) rfl (lk_bipush X dL_isRefused_316 (by decide) rfl) ?_
  refine lz_cons (k' := 318) rfl (lz_Ok_none _ _) ?_
  refine lz_cons (k' := 319) rfl (lk_calls X kl_168 (mm_L_act Wd) (by decide) dL_isRefused_318 rfl) ?_
  refine lz_cons (k' := 320) rfl (lz_Ok_none _ _) ?_
  refine lz_cons (k' := 321) rfl (lz_Ok_none _ _) ?_
  refine lz_cons (k' := 322) rfl (lk_sipush X dL_isRefused_321 (by decide) rfl) ?_
  refine lz_cons (k' := 323) rfl (lz_Ok_none _ _) ?_
  refine lz_cons (k' := 324) rfl (lz_Ok_none _ _) ?_
  refine lz_cons (k' := 325) rfl (lk_icmp_ne X dL_isRefused_324 (by decide) rfl) ?_
  refine lz_cons (k' := 326) rfl (lz_Ok_none _ _) ?_
  refine lz_cons (k' := 327) rfl (lz_Ok_none _ _) ?_
  refine lz_cons (k' := 328) rfl (lk_aload_n X dL_isRefused_327 rfl rfl) ?_
  refine lz_cons (k' := 329) rfl (lk_bipush X dL_isRefused_328 (by decide) rfl) ?_
  refine lz_cons (k' := 330) rfl (lz_Ok_none _ _) ?_
  refine lz_cons (k' := 331) rfl (lk_iconst X dL_isRefused_330 (by decide) rfl) ?_
  refine lz_cons (k' := 332) rfl (lk_iconst X dL_isRefused_331 (by decide) rfl) ?_
  refine lz_cons (k' := 333) rfl (lk_iconst X dL_isRefused_332 (by decide) rfl) ?_
  refine lz_cons (k' := 334) rfl (lk_iconst X dL_isRefused_333 (by decide) rfl) ?_
  refine lz_cons (k' := 335) rfl (lk_iconst X dL_isRefused_334 (by decide) rfl) ?_
  refine lz_cons (k' := 336) rfl (lk_iconst X dL_isRefused_335 (by decide) rfl) ?_
  refine lz_cons (k' := 337) rfl (lk_calls X kl_168 (mm_L_act Wd) (by decide) dL_isRefused_336 rfl) ?_
  refine lz_cons (k' := 338) rfl (lz_Ok_none _ _) ?_
  refine lz_cons (k' := 339) rfl (lz_Ok_none _ _) ?_
  refine lz_cons (k' := 340) rfl (lk_sipush X dL_isRefused_339 (by decide) rfl) ?_
  refine lz_cons (k' := 341) rfl (lz_Ok_none _ _) ?_
  refine lz_cons (k' := 342) rfl (lz_Ok_none _ _) ?_
  refine lz_cons (k' := 343) rfl (lk_icmp_ne X dL_isRefused_342 (by decide) rfl) ?_
  refine lz_cons (k' := 344) rfl (lz_Ok_none _ _) ?_
  refine lz_cons (k' := 345) rfl (lz_Ok_none _ _) ?_
  refine lz_cons (k' := 346) rfl (lk_aload_n X dL_isRefused_345 rfl rfl) ?_
  refine lz_cons (k' := 347) rfl (lk_bipush X dL_isRefused_346 (by decide) rfl) ?_
  refine lz_cons (k' := 348) rfl (lz_Ok_none _ _) ?_
  refine lz_cons (k' := 349) rfl (lk_iload_n X dL_isRefused_348 rfl rfl) ?_
  refine lz_cons (k' := 350) rfl (lk_if_eq X dL_isRefused_349 (by decide) rfl) ?_
  refine lz_cons (k' := 351) rfl (lz_Ok_none _ _) ?_
  refine lz_cons (k' := 352) rfl (lz_Ok_none _ _) ?_
  refine lz_cons (k' := 353) rfl (lk_iconst X dL_isRefused_352 (by decide) rfl) ?_
  refine lz_cons (k' := 354) rfl (lk_iload_n X dL_isRefused_353 rfl rfl) ?_
  refine lz_cons (k' := 355) rfl (lk_bipush X dL_isRefused_354 (by decide) rfl) ?_
  refine lz_cons (k' := 356) rfl (lz_Ok_none _ _) ?_
  refine lz_cons (k' := 357) rfl (lk_irem X dL_isRefused_356 rfl) ?_
  refine lz_cons (k' := 358) rfl (lk_isub X dL_isRefused_357 rfl) ?_
  refine lz_cons (k' := 359) rfl (lk_goto X dL_isRefused_358 (by decide)) ?_
  refine lz_cons (k' := 360) rfl (lz_Ok_none _ _) ?_
  refine lz_cons (k' := 361) rfl (lz_Ok_none _ _) ?_
  refine lz_cons (k' := 362) rfl (lk_bipush X dL_isRefused_361 (by decide) rfl) ?_
  refine lz_cons (k' := 363) rfl (lz_Ok_none _ _) ?_
  refine lz_cons (k' := 364) rfl (lk_iconst X dL_isRefused_363 (by decide) rfl) ?_
  refine lz_cons (k' := 365) rfl (lk_iconst X dL_isRefused_364 (by decide) rfl) ?_
  refine lz_cons (k' := 366) rfl (lk_iconst X dL_isRefused_365 (by decide) rfl) ?_
  refine lz_cons (k' := 367) rfl (lk_iconst X dL_isRefused_366 (by decide) rfl) ?_
  refine lz_cons (k' := 368) rfl (lk_iconst X dL_isRefused_367 (by decide) rfl) ?_
  refine lz_cons (k' := 369) rfl (lk_calls X kl_168 (mm_L_act Wd) (by decide) dL_isRefused_368 rfl) ?_
  refine lz_cons (k' := 370) rfl (lz_Ok_none _ _) ?_
  refine lz_cons (k' := 371) rfl (lz_Ok_none _ _) ?_
  refine lz_cons (k' := 372) rfl (lk_sipush X dL_isRefused_371 (by decide) rfl) ?_
  refine lz_cons (k' := 373) rfl (lz_Ok_none _ _) ?_
  refine lz_cons (k' := 374) rfl (lz_Ok_none _ _) ?_
  refine lz_cons (k' := 375) rfl (lk_icmp_ne X dL_isRefused_374 (by decide) rfl) ?_
  refine lz_cons (k' := 376) rfl (lz_Ok_none _ _) ?_
  refine lz_cons (k' := 377) rfl (lz_Ok_none _ _) ?_
  refine lz_cons (k' := 378) rfl (lk_aload_n X dL_isRefused_377 rfl rfl) ?_
  refine lz_cons (k' := 379) rfl (lk_bipush X dL_isRefused_378 (by decide) rfl) ?_
  refine lz_cons (k' := 380) rfl (lz_Ok_none _ _) ?_
  refine lz_cons (k' := 381) rfl (lk_iload X dL_isRefused_380 rfl) ?_
  refine lz_cons (k' := 382) rfl (lz_Ok_none _ _) ?_
  refine lz_cons (k' := 383) rfl (lk_iconst X dL_isRefused_382 (by decide) rfl) ?_
  refine lz_cons (k' := 384) rfl (lk_iconst X dL_isRefused_383 (by decide) rfl) ?_
  refine lz_cons (k' := 385) rfl (lk_iconst X dL_isRefused_384 (by decide) rfl) ?_
  refine lz_cons (k' := 386) rfl (lk_iconst X dL_isRefused_385 (by decide) rfl) ?_
  refine lz_cons (k' := 387) rfl (lk_iconst X dL_isRefused_386 (by decide) rfl) ?_
  refine lz_cons (k' := 388) rfl (lk_calls X kl_168 (mm_L_act Wd) (by decide) dL_isRefused_387 rfl) ?_
  refine lz_cons (k' := 389) rfl (lz_Ok_none _ _) ?_
  refine lz_cons (k' := 390) rfl (lz_Ok_none _ _) ?_
  refine lz_cons (k' := 391) rfl (lk_sipush X dL_isRefused_390 (by decide) rfl) ?_
  refine lz_cons (k' := 392) rfl (lz_Ok_none _ _) ?_
  refine lz_cons (k' := 393) rfl (lz_Ok_none _ _) ?_
  refine lz_cons (k' := 394) rfl (lk_icmp_ne X dL_isRefused_393 (by decide) rfl) ?_
  refine lz_cons (k' := 395) rfl (lz_Ok_none _ _) ?_
  refine lz_cons (k' := 396) rfl (lz_Ok_none _ _) ?_
  refine lz_cons (k' := 397) rfl (lk_aload_n X dL_isRefused_396 rfl rfl) ?_
  refine lz_cons (k' := 398) rfl (lk_bipush X dL_isRefused_397 (by decide) rfl) ?_
  refine lz_cons (k' := 399) rfl (lz_Ok_none _ _) ?_
  refine lz_cons (k' := 400) rfl (lk_iconst X dL_isRefused_399 (by decide) rfl) ?_
  refine lz_cons (k' := 401) rfl (lk_iload_n X dL_isRefused_400 rfl rfl) ?_
  refine lz_cons (k' := 402) rfl (lk_if_eq X dL_isRefused_401 (by decide) rfl) ?_
  refine lz_cons (k' := 403) rfl (lz_Ok_none _ _) ?_
  refine lz_cons (k' := 404) rfl (lz_Ok_none _ _) ?_
  refine lz_cons (k' := 405) rfl (lk_iconst X dL_isRefused_404 (by decide) rfl) ?_
  refine lz_cons (k' := 406) rfl (lk_iload_n X dL_isRefused_405 rfl rfl) ?_
  refine lz_cons (k' := 407) rfl (lk_bipush X dL_isRefused_406 (by decide) rfl) ?_
  refine lz_cons (k' := 408) rfl (lz_Ok_none _ _) ?_
  refine lz_cons (k' := 409) rfl (lk_irem X dL_isRefused_408 rfl) ?_
  refine lz_cons (k' := 410) rfl (lk_isub X dL_isRefused_409 rfl) ?_
  refine lz_cons (k' := 411) rfl (lk_goto X dL_isRefused_410 (by decide)) ?_
  refine lz_cons (k' := 412) rfl (lz_Ok_none _ _) ?_
  refine lz_cons (k' := 413) rfl (lz_Ok_none _ _) ?_
  refine lz_cons (k' := 414) rfl (lk_sipush X dL_isRefused_413 (by decide) rfl) ?_
  refine lz_cons (k' := 415) rfl (lz_Ok_none _ _) ?_
  refine lz_cons (k' := 416) rfl (lz_Ok_none _ _) ?_
  refine lz_cons (k' := 417) rfl (lk_iconst X dL_isRefused_416 (by decide) rfl) ?_
  refine lz_cons (k' := 418) rfl (lk_iconst X dL_isRefused_417 (by decide) rfl) ?_
  refine lz_cons (k' := 419) rfl (lk_iconst X dL_isRefused_418 (by decide) rfl) ?_
  refine lz_cons (k' := 420) rfl (lk_iconst X dL_isRefused_419 (by decide) rfl) ?_
  refine lz_cons (k' := 421) rfl (lk_calls X kl_168 (mm_L_act Wd) (by decide) dL_isRefused_420 rfl) ?_
  refine lz_cons (k' := 422) rfl (lz_Ok_none _ _) ?_
  refine lz_cons (k' := 423) rfl (lz_Ok_none _ _) ?_
  refine lz_cons (k' := 424) rfl (lk_sipush X dL_isRefused_423 (by decide) rfl) ?_
  refine lz_cons (k' := 425) rfl (lz_Ok_none _ _) ?_
  refine lz_cons (k' := 426) rfl (lz_Ok_none _ _) ?_
  refine lz_cons (k' := 427) rfl (lk_icmp_ne X dL_isRefused_426 (by decide) rfl) ?_
  refine lz_cons (k' := 428) rfl (lz_Ok_none _ _) ?_
  refine lz_cons (k' := 429) rfl (lz_Ok_none _ _) ?_
  refine lz_cons (k' := 430) rfl (lk_aload_n X dL_isRefused_429 rfl rfl) ?_
  refine lz_cons (k' := 431) rfl (lk_bipush X dL_isRefused_430 (by decide) rfl) ?_
  refine lz_cons (k' := 432) rfl (lz_Ok_none _ _) ?_
  refine lz_cons (k' := 433) rfl (lk_iload X dL_isRefused_432 rfl) ?_
  refine lz_cons (k' := 434) rfl (lz_Ok_none _ _) ?_
  refine lz_cons (k' := 435) rfl (lk_iconst X dL_isRefused_434 (by decide) rfl) ?_
  refine lz_cons (k' := 436) rfl (lk_iconst X dL_isRefused_435 (by decide) rfl) ?_
  refine lz_cons (k' := 437) rfl (lk_iconst X dL_isRefused_436 (by decide) rfl) ?_
  refine lz_cons (k' := 438) rfl (lk_iconst X dL_isRefused_437 (by decide) rfl) ?_
  refine lz_cons (k' := 439) rfl (lk_iconst X dL_isRefused_438 (by decide) rfl) ?_
  refine lz_cons (k' := 440) rfl (lk_calls X kl_168 (mm_L_act Wd) (by decide) dL_isRefused_439 rfl) ?_
  refine lz_cons (k' := 441) rfl (lz_Ok_none _ _) ?_
  refine lz_cons (k' := 442) rfl (lz_Ok_none _ _) ?_
  refine lz_cons (k' := 443) rfl (lk_sipush X dL_isRefused_442 (by decide) rfl) ?_
  refine lz_cons (k' := 444) rfl (lz_Ok_none _ _) ?_
  refine lz_cons (k' := 445) rfl (lz_Ok_none _ _) ?_
  refine lz_cons (k' := 446) rfl (lk_icmp_ne X dL_isRefused_445 (by decide) rfl) ?_
  refine lz_cons (k' := 447) rfl (lz_Ok_none _ _) ?_
  refine lz_cons (k' := 448) rfl (lz_Ok_none _ _) ?_
  refine lz_cons (k' := 449) rfl (lk_aload_n X dL_isRefused_448 rfl rfl) ?_
  refine lz_cons (k' := 450) rfl (lk_bipush X dL_isRefused_449 (by decide) rfl) ?_
  refine lz_cons (k' := 451) rfl (lz_Ok_none _ _) ?_
  refine lz_cons (k' := 452) rfl (lk_iload_n X dL_isRefused_451 rfl rfl) ?_
  refine lz_cons (k' := 453) rfl (lk_if_eq X dL_isRefused_452 (by decide) rfl) ?_
  refine lz_cons (k' := 454) rfl (lz_Ok_none _ _) ?_
  refine lz_cons (k' := 455) rfl (lz_Ok_none _ _) ?_
  refine lz_cons (k' := 456) rfl (lk_iconst X dL_isRefused_455 (by decide) rfl) ?_
  refine lz_cons (k' := 457) rfl (lk_iload_n X dL_isRefused_456 rfl rfl) ?_
  refine lz_cons (k' := 458) rfl (lk_bipush X dL_isRefused_457 (by decide) rfl) ?_
  refine lz_cons (k' := 459) rfl (lz_Ok_none _ _) ?_
  refine lz_cons (k' := 460) rfl (lk_irem X dL_isRefused_459 rfl) ?_
  refine lz_cons (k' := 461) rfl (lk_isub X dL_isRefused_460 rfl) ?_
  refine lz_cons (k' := 462) rfl (lk_goto X dL_isRefused_461 (by decide)) ?_
  refine lz_cons (k' := 463) rfl (lz_Ok_none _ _) ?_
  refine lz_cons (k' := 464) rfl (lz_Ok_none _ _) ?_
  refine lz_cons (k' := 465) rfl (lk_bipush X dL_isRefused_464 (by decide) rfl) ?_
  refine lz_cons (k' := 466) rfl (lz_Ok_none _ _) ?_
  refine lz_cons (k' := 467) rfl (lk_iconst X dL_isRefused_466 (by decide) rfl) ?_
  refine lz_cons (k' := 468) rfl (lk_iconst X dL_isRefused_467 (by decide) rfl) ?_
  refine lz_cons (k' := 469) rfl (lk_iconst X dL_isRefused_468 (by decide) rfl) ?_
  refine lz_cons (k' := 470) rfl (lk_iconst X dL_isRefused_469 (by decide) rfl) ?_
  refine lz_cons (k' := 471) rfl (lk_iconst X dL_isRefused_470 (by decide) rfl) ?_
  refine lz_cons (k' := 472) rfl (lk_calls X kl_168 (mm_L_act Wd) (by decide) dL_isRefused_471 rfl) ?_
  refine lz_cons (k' := 473) rfl (lz_Ok_none _ _) ?_
  refine lz_cons (k' := 474) rfl (lz_Ok_none _ _) ?_
  refine lz_cons (k' := 475) rfl (lk_sipush X dL_isRefused_474 (by decide) rfl) ?_
  refine lz_cons (k' := 476) rfl (lz_Ok_none _ _) ?_
  refine lz_cons (k' := 477) rfl (lz_Ok_none _ _) ?_
  refine lz_cons (k' := 478) rfl (lk_icmp_ne X dL_isRefused_477 (by decide) rfl) ?_
  refine lz_cons (k' := 479) rfl (lz_Ok_none _ _) ?_
  refine lz_cons (k' := 480) rfl (lz_Ok_none _ _) ?_
  refine lz_cons (k' := 481) rfl (lk_aload_n X dL_isRefused_480 rfl rfl) ?_
  refine lz_cons (k' := 482) rfl (lk_bipush X dL_isRefused_481 (by decide) rfl) ?_
  refine lz_cons (k' := 483) rfl (lz_Ok_none _ _) ?_
  refine lz_cons (k' := 484) rfl (lk_iload X dL_isRefused_483 rfl) ?_
  refine lz_cons (k' := 485) rfl (lz_Ok_none _ _) ?_
  refine lz_cons (k' := 486) rfl (lk_iconst X dL_isRefused_485 (by decide) rfl) ?_
  refine lz_cons (k' := 487) rfl (lk_iconst X dL_isRefused_486 (by decide) rfl) ?_
  refine lz_cons (k' := 488) rfl (lk_iconst X dL_isRefused_487 (by decide) rfl) ?_
  refine lz_cons (k' := 489) rfl (lk_iconst X dL_isRefused_488 (by decide) rfl) ?_
  refine lz_cons (k' := 490) rfl (lk_iconst X dL_isRefused_489 (by decide) rfl) ?_
  refine lz_cons (k' := 491) rfl (lk_calls X kl_168 (mm_L_act Wd) (by decide) dL_isRefused_490 rfl) ?_
  refine lz_cons (k' := 492) rfl (lz_Ok_none _ _) ?_
  refine lz_cons (k' := 493) rfl (lz_Ok_none _ _) ?_
  refine lz_cons (k' := 494) rfl (lk_sipush X dL_isRefused_493 (by decide) rfl) ?_
  refine lz_cons (k' := 495) rfl (lz_Ok_none _ _) ?_
  refine lz_cons (k' := 496) rfl (lz_Ok_none _ _) ?_
  refine lz_cons (k' := 497) rfl (lk_icmp_ne X dL_isRefused_496 (by decide) rfl) ?_
  refine lz_cons (k' := 498) rfl (lz_Ok_none _ _) ?_
  refine lz_cons (k' := 499) rfl (lz_Ok_none _ _) ?_
  refine lz_cons (k' := 500) rfl (lk_aload_n X dL_isRefused_499 rfl rfl) ?_
  refine lz_cons (k' := 501) rfl (lk_bipush X dL_isRefused_500 (by decide) rfl) ?_
  refine lz_cons (k' := 502) rfl (lz_Ok_none _ _) ?_
  refine lz_cons (k' := 503) rfl (lk_iconst X dL_isRefused_502 (by decide) rfl) ?_
  refine lz_cons (k' := 504) rfl (lk_iload_n X dL_isRefused_503 rfl rfl) ?_
  refine lz_cons (k' := 505) rfl (lk_if_eq X dL_isRefused_504 (by decide) rfl) ?_
  refine lz_cons (k' := 506) rfl (lz_Ok_none _ _) ?_
  refine lz_cons (k' := 507) rfl (lz_Ok_none _ _) ?_
  refine lz_cons (k' := 508) rfl (lk_iconst X dL_isRefused_507 (by decide) rfl) ?_
  refine lz_cons (k' := 509) rfl (lk_iload_n X dL_isRefused_508 rfl rfl) ?_
  refine lz_cons (k' := 510) rfl (lk_bipush X dL_isRefused_509 (by decide) rfl) ?_
  refine lz_cons (k' := 511) rfl (lz_Ok_none _ _) ?_
  refine lz_cons (k' := 512) rfl (lk_irem X dL_isRefused_511 rfl) ?_
  refine lz_cons (k' := 513) rfl (lk_isub X dL_isRefused_512 rfl) ?_
  refine lz_cons (k' := 514) rfl (lk_goto X dL_isRefused_513 (by decide)) ?_
  refine lz_cons (k' := 515) rfl (lz_Ok_none _ _) ?_
  refine lz_cons (k' := 516) rfl (lz_Ok_none _ _) ?_
  refine lz_cons (k' := 517) rfl (lk_aload_n X dL_isRefused_516 rfl rfl) ?_
  refine lz_cons (k' := 518) rfl (lk_callv X kc_151 (mm_X11_version Wd.1) (by decide) dL_isRefused_517 rfl) ?_
  refine lz_cons (k' := 519) rfl (lz_Ok_none _ _) ?_
  refine lz_cons (k' := 520) rfl (lz_Ok_none _ _) ?_
  refine lz_cons (k' := 521) rfl (lk_iconst X dL_isRefused_520 (by decide) rfl) ?_
  refine lz_cons (k' := 522) rfl (lk_iadd X dL_isRefused_521 rfl) ?_
  refine lz_cons (k' := 523) rfl (lk_iconst X dL_isRefused_522 (by decide) rfl) ?_
  refine lz_cons (k' := 524) rfl (lk_iconst X dL_isRefused_523 (by decide) rfl) ?_
  refine lz_cons (k' := 525) rfl (lk_iconst X dL_isRefused_524 (by decide) rfl) ?_
  refine lz_cons (k' := 526) rfl (lk_iconst X dL_isRefused_525 (by decide) rfl) ?_
  refine lz_cons (k' := 527) rfl (lk_calls X kl_168 (mm_L_act Wd) (by decide) dL_isRefused_526 rfl) ?_
  refine lz_cons (k' := 528) rfl (lz_Ok_none _ _) ?_
  refine lz_cons (k' := 529) rfl (lz_Ok_none _ _) ?_
  refine lz_cons (k' := 530) rfl (lk_sipush X dL_isRefused_529 (by decide) rfl) ?_
  refine lz_cons (k' := 531) rfl (lz_Ok_none _ _) ?_
  refine lz_cons (k' := 532) rfl (lz_Ok_none _ _) ?_
  refine lz_cons (k' := 533) rfl (lk_icmp_ne X dL_isRefused_532 (by decide) rfl) ?_
  refine lz_cons (k' := 534) rfl (lz_Ok_none _ _) ?_
  refine lz_cons (k' := 535) rfl (lz_Ok_none _ _) ?_
  refine lz_cons (k' := 536) rfl (lk_aload_n X dL_isRefused_535 rfl rfl) ?_
  refine lz_cons (k' := 537) rfl (lk_bipush X dL_isRefused_536 (by decide) rfl) ?_
  refine lz_cons (k' := 538) rfl (lz_Ok_none _ _) ?_
  refine lz_cons (k' := 539) rfl (lk_iload X dL_isRefused_538 rfl) ?_
  refine lz_cons (k' := 540) rfl (lz_Ok_none _ _) ?_
  refine lz_cons (k' := 541) rfl (lk_iconst X dL_isRefused_540 (by decide) rfl) ?_
  refine lz_cons (k' := 542) rfl (lk_iconst X dL_isRefused_541 (by decide) rfl) ?_
  refine lz_cons (k' := 543) rfl (lk_iconst X dL_isRefused_542 (by decide) rfl) ?_
  refine lz_cons (k' := 544) rfl (lk_iconst X dL_isRefused_543 (by decide) rfl) ?_
  refine lz_cons (k' := 545) rfl (lk_iconst X dL_isRefused_544 (by decide) rfl) ?_
  refine lz_cons (k' := 546) rfl (lk_calls X kl_168 (mm_L_act Wd) (by decide) dL_isRefused_545 rfl) ?_
  refine lz_cons (k' := 547) rfl (lz_Ok_none _ _) ?_
  refine lz_cons (k' := 548) rfl (lz_Ok_none _ _) ?_
  refine lz_cons (k' := 549) rfl (lk_sipush X dL_isRefused_548 (by decide) rfl) ?_
  refine lz_cons (k' := 550) rfl (lz_Ok_none _ _) ?_
  refine lz_cons (k' := 551) rfl (lz_Ok_none _ _) ?_
  refine lz_cons (k' := 552) rfl (lk_icmp_ne X dL_isRefused_551 (by decide) rfl) ?_
  refine lz_cons (k' := 553) rfl (lz_Ok_none _ _) ?_
  refine lz_cons (k' := 554) rfl (lz_Ok_none _ _) ?_
  refine lz_cons (k' := 555) rfl (lk_aload_n X dL_isRefused_554 rfl rfl) ?_
  refine lz_cons (k' := 556) rfl (lk_bipush X dL_isRefused_555 (by decide) rfl) ?_
  refine lz_cons (k' := 557) rfl (lz_Ok_none _ _) ?_
  refine lz_cons (k' := 558) rfl (lk_iload_n X dL_isRefused_557 rfl rfl) ?_
  refine lz_cons (k' := 559) rfl (lk_if_eq X dL_isRefused_558 (by decide) rfl) ?_
  refine lz_cons (k' := 560) rfl (lz_Ok_none _ _) ?_
  refine lz_cons (k' := 561) rfl (lz_Ok_none _ _) ?_
  refine lz_cons (k' := 562) rfl (lk_iconst X dL_isRefused_561 (by decide) rfl) ?_
  refine lz_cons (k' := 563) rfl (lk_iload_n X dL_isRefused_562 rfl rfl) ?_
  refine lz_cons (k' := 564) rfl (lk_bipush X dL_isRefused_563 (by decide) rfl) ?_
  refine lz_cons (k' := 565) rfl (lz_Ok_none _ _) ?_
  refine lz_cons (k' := 566) rfl (lk_irem X dL_isRefused_565 rfl) ?_
  refine lz_cons (k' := 567) rfl (lk_isub X dL_isRefused_566 rfl) ?_
  refine lz_cons (k' := 568) rfl (lk_goto X dL_isRefused_567 (by decide)) ?_
  refine lz_cons (k' := 569) rfl (lz_Ok_none _ _) ?_
  refine lz_cons (k' := 570) rfl (lz_Ok_none _ _) ?_
  refine lz_cons (k' := 571) rfl (lk_aload_n X dL_isRefused_570 rfl rfl) ?_
  refine lz_cons (k' := 572) rfl (lk_callv X kc_151 (mm_X11_version Wd.1) (by decide) dL_isRefused_571 rfl) ?_
  refine lz_cons (k' := 573) rfl (lz_Ok_none _ _) ?_
  refine lz_cons (k' := 574) rfl (lz_Ok_none _ _) ?_
  refine lz_cons (k' := 575) rfl (lk_iconst X dL_isRefused_574 (by decide) rfl) ?_
  refine lz_cons (k' := 576) rfl (lk_iadd X dL_isRefused_575 rfl) ?_
  refine lz_cons (k' := 577) rfl (lk_iconst X dL_isRefused_576 (by decide) rfl) ?_
  refine lz_cons (k' := 578) rfl (lk_iconst X dL_isRefused_577 (by decide) rfl) ?_
  refine lz_cons (k' := 579) rfl (lk_iconst X dL_isRefused_578 (by decide) rfl) ?_
  refine lz_cons (k' := 580) rfl (lk_iconst X dL_isRefused_579 (by decide) rfl) ?_
  refine lz_cons (k' := 581) rfl (lk_iconst X dL_isRefused_580 (by decide) rfl) ?_
  refine lz_cons (k' := 582) rfl (lk_calls X kl_168 (mm_L_act Wd) (by decide) dL_isRefused_581 rfl) ?_
  refine lz_cons (k' := 583) rfl (lz_Ok_none _ _) ?_
  refine lz_cons (k' := 584) rfl (lz_Ok_none _ _) ?_
  refine lz_cons (k' := 585) rfl (lk_sipush X dL_isRefused_584 (by decide) rfl) ?_
  refine lz_cons (k' := 586) rfl (lz_Ok_none _ _) ?_
  refine lz_cons (k' := 587) rfl (lz_Ok_none _ _) ?_
  refine lz_cons (k' := 588) rfl (lk_icmp_ne X dL_isRefused_587 (by decide) rfl) ?_
  refine lz_cons (k' := 589) rfl (lz_Ok_none _ _) ?_
  refine lz_cons (k' := 590) rfl (lz_Ok_none _ _) ?_
  refine lz_cons (k' := 591) rfl (lk_aload_n X dL_isRefused_590 rfl rfl) ?_
  refine lz_cons (k' := 592) rfl (lk_bipush X dL_isRefused_591 (by decide) rfl) ?_
  refine lz_cons (k' := 593) rfl (lz_Ok_none _ _) ?_
  refine lz_cons (k' := 594) rfl (lk_iload_n X dL_isRefused_593 rfl rfl) ?_
  refine lz_cons (k' := 595) rfl (lk_if_eq X dL_isRefused_594 (by decide) rfl) ?_
  refine lz_cons (k' := 596) rfl (lz_Ok_none _ _) ?_
  refine lz_cons (k' := 597) rfl (lz_Ok_none _ _) ?_
  refine lz_cons (k' := 598) rfl (lk_iconst X dL_isRefused_597 (by decide) rfl) ?_
  refine lz_cons (k' := 599) rfl (lk_iload_n X dL_isRefused_598 rfl rfl) ?_
  refine lz_cons (k' := 600) rfl (lk_bipush X dL_isRefused_599 (by decide) rfl) ?_
  refine lz_cons (k' := 601) rfl (lz_Ok_none _ _) ?_
  refine lz_cons (k' := 602) rfl (lk_irem X dL_isRefused_601 rfl) ?_
  refine lz_cons (k' := 603) rfl (lk_isub X dL_isRefused_602 rfl) ?_
  refine lz_cons (k' := 604) rfl (lk_goto X dL_isRefused_603 (by decide)) ?_
  refine lz_cons (k' := 605) rfl (lz_Ok_none _ _) ?_
  refine lz_cons (k' := 606) rfl (lz_Ok_none _ _) ?_
  refine lz_cons (k' := 607) rfl (lk_bipush X dL_isRefused_606 (by decide) rfl) ?_
  refine lz_cons (k' := 608) rfl (lz_Ok_none _ _) ?_
  refine lz_cons (k' := 609) rfl (lk_iconst X dL_isRefused_608 (by decide) rfl) ?_
  refine lz_cons (k' := 610) rfl (lk_iconst X dL_isRefused_609 (by decide) rfl) ?_
  refine lz_cons (k' := 611) rfl (lk_iconst X dL_isRefused_610 (by decide) rfl) ?_
  refine lz_cons (k' := 612) rfl (lk_iconst X dL_isRefused_611 (by decide) rfl) ?_
  refine lz_cons (k' := 613) rfl (lk_iconst X dL_isRefused_612 (by decide) rfl) ?_
  refine lz_cons (k' := 614) rfl (lk_calls X kl_168 (mm_L_act Wd) (by decide) dL_isRefused_613 rfl) ?_
  refine lz_cons (k' := 615) rfl (lz_Ok_none _ _) ?_
  refine lz_cons (k' := 616) rfl (lz_Ok_none _ _) ?_
  refine lz_cons (k' := 617) rfl (lk_sipush X dL_isRefused_616 (by decide) rfl) ?_
  refine lz_cons (k' := 618) rfl (lz_Ok_none _ _) ?_
  refine lz_cons (k' := 619) rfl (lz_Ok_none _ _) ?_
  refine lz_cons (k' := 620) rfl (lk_icmp_ne X dL_isRefused_619 (by decide) rfl) ?_
  refine lz_cons (k' := 621) rfl (lz_Ok_none _ _) ?_
  refine lz_cons (k' := 622) rfl (lz_Ok_none _ _) ?_
  refine lz_cons (k' := 623) rfl (lk_aload_n X dL_isRefused_622 rfl rfl) ?_
  refine lz_cons (k' := 624) rfl (lk_bipush X dL_isRefused_623 (by decide) rfl) ?_
  refine lz_cons (k' := 625) rfl (lz_Ok_none _ _) ?_
  refine lz_cons (k' := 626) rfl (lk_iload_n X dL_isRefused_625 rfl rfl) ?_
  refine lz_cons (k' := 627) rfl (lk_iconst X dL_isRefused_626 (by decide) rfl) ?_
  refine lz_cons (k' := 628) rfl (lk_iconst X dL_isRefused_627 (by decide) rfl) ?_
  refine lz_cons (k' := 629) rfl (lk_iconst X dL_isRefused_628 (by decide) rfl) ?_
  refine lz_cons (k' := 630) rfl (lk_iconst X dL_isRefused_629 (by decide) rfl) ?_
  refine lz_cons (k' := 631) rfl (lk_iconst X dL_isRefused_630 (by decide) rfl) ?_
  refine lz_cons (k' := 632) rfl (lk_calls X kl_168 (mm_L_act Wd) (by decide) dL_isRefused_631 rfl) ?_
  refine lz_cons (k' := 633) rfl (lz_Ok_none _ _) ?_
  refine lz_cons (k' := 634) rfl (lz_Ok_none _ _) ?_
  refine lz_cons (k' := 635) rfl (lk_sipush X dL_isRefused_634 (by decide) rfl) ?_
  refine lz_cons (k' := 636) rfl (lz_Ok_none _ _) ?_
  refine lz_cons (k' := 637) rfl (lz_Ok_none _ _) ?_
  refine lz_cons (k' := 638) rfl (lk_icmp_ne X dL_isRefused_637 (by decide) rfl) ?_
  refine lz_cons (k' := 639) rfl (lz_Ok_none _ _) ?_
  refine lz_cons (k' := 640) rfl (lz_Ok_none _ _) ?_
  refine lz_cons (k' := 641) rfl (lk_aload_n X dL_isRefused_640 rfl rfl) ?_
  refine lz_cons (k' := 642) rfl (lk_bipush X dL_isRefused_641 (by decide) rfl) ?_
  refine lz_cons (k' := 643) rfl (lz_Ok_none _ _) ?_
  refine lz_cons (k' := 644) rfl (lk_iload_n X dL_isRefused_643 rfl rfl) ?_
  refine lz_cons (k' := 645) rfl (lk_bipush X dL_isRefused_644 (by decide) rfl) ?_
  refine lz_cons (k' := 646) rfl (lz_Ok_none _ _) ?_
  refine lz_cons (k' := 647) rfl (lk_iconst X dL_isRefused_646 (by decide) rfl) ?_
  refine lz_cons (k' := 648) rfl (lk_iconst X dL_isRefused_647 (by decide) rfl) ?_
  refine lz_cons (k' := 649) rfl (lk_iconst X dL_isRefused_648 (by decide) rfl) ?_
  refine lz_cons (k' := 650) rfl (lk_iconst X dL_isRefused_649 (by decide) rfl) ?_
  refine lz_cons (k' := 651) rfl (lk_calls X kl_168 (mm_L_act Wd) (by decide) dL_isRefused_650 rfl) ?_
  refine lz_cons (k' := 652) rfl (lz_Ok_none _ _) ?_
  refine lz_cons (k' := 653) rfl (lz_Ok_none _ _) ?_
  refine lz_cons (k' := 654) rfl (lk_sipush X dL_isRefused_653 (by decide) rfl) ?_
  refine lz_cons (k' := 655) rfl (lz_Ok_none _ _) ?_
  refine lz_cons (k' := 656) rfl (lz_Ok_none _ _) ?_
  refine lz_cons (k' := 657) rfl (lk_icmp_ne X dL_isRefused_656 (by decide) rfl) ?_
  refine lz_cons (k' := 658) rfl (lz_Ok_none _ _) ?_
  refine lz_cons (k' := 659) rfl (lz_Ok_none _ _) ?_
  refine lz_cons (k' := 660) rfl (lk_aload_n X dL_isRefused_659 rfl rfl) ?_
  refine lz_cons (k' := 661) rfl (lk_bipush X dL_isRefused_660 (by decide) rfl) ?_
  refine lz_cons (k' := 662) rfl (lz_Ok_none _ _) ?_
  refine lz_cons (k' := 663) rfl (lk_iload X dL_isRefused_662 rfl) ?_
  refine lz_cons (k' := 664) rfl (lz_Ok_none _ _) ?_
  refine lz_cons (k' := 665) rfl (lk_iconst X dL_isRefused_664 (by decide) rfl) ?_
  refine lz_cons (k' := 666) rfl (lk_iconst X dL_isRefused_665 (by decide) rfl) ?_
  refine lz_cons (k' := 667) rfl (lk_iconst X dL_isRefused_666 (by decide) rfl) ?_
  refine lz_cons (k' := 668) rfl (lk_iconst X dL_isRefused_667 (by decide) rfl) ?_
  refine lz_cons (k' := 669) rfl (lk_iconst X dL_isRefused_668 (by decide) rfl) ?_
  refine lz_cons (k' := 670) rfl (lk_calls X kl_168 (mm_L_act Wd) (by decide) dL_isRefused_669 rfl) ?_
  refine lz_cons (k' := 671) rfl (lz_Ok_none _ _) ?_
  refine lz_cons (k' := 672) rfl (lz_Ok_none _ _) ?_
  refine lz_cons (k' := 673) rfl (lk_sipush X dL_isRefused_672 (by decide) rfl) ?_
  refine lz_cons (k' := 674) rfl (lz_Ok_none _ _) ?_
  refine lz_cons (k' := 675) rfl (lz_Ok_none _ _) ?_
  refine lz_cons (k' := 676) rfl (lk_icmp_ne X dL_isRefused_675 (by decide) rfl) ?_
  refine lz_cons (k' := 677) rfl (lz_Ok_none _ _) ?_
  refine lz_cons (k' := 678) rfl (lz_Ok_none _ _) ?_
  refine lz_cons (k' := 679) rfl (lk_iconst X dL_isRefused_678 (by decide) rfl) ?_
  refine lz_cons (k' := 680) rfl (lk_goto X dL_isRefused_679 (by decide)) ?_
  refine lz_cons (k' := 681) rfl (lz_Ok_none _ _) ?_
  refine lz_cons (k' := 682) rfl (lz_Ok_none _ _) ?_
  refine lz_cons (k' := 683) rfl (lk_iconst X dL_isRefused_682 (by decide) rfl) ?_
  refine lz_cons (k' := 684) rfl (lk_istore X dL_isRefused_683 (by decide) rfl) ?_
  refine lz_cons (k' := 685) rfl (lz_Ok_none _ _) ?_
  refine lz_cons (k' := 686) rfl (lk_iconst X dL_isRefused_685 (by decide) rfl) ?_
  refine lz_cons (k' := 687) rfl (lk_istore X dL_isRefused_686 (by decide) rfl) ?_
  refine lz_cons (k' := 688) rfl (lz_Ok_none _ _) ?_
  refine lz_cons (k' := 689) rfl (lk_iload X dL_isRefused_688 rfl) ?_
  refine lz_cons (k' := 690) rfl (lz_Ok_none _ _) ?_
  refine lz_cons (k' := 691) rfl (lk_bipush X dL_isRefused_690 (by decide) rfl) ?_
  refine lz_cons (k' := 692) rfl (lz_Ok_none _ _) ?_
  refine lz_cons (k' := 693) rfl (lk_icmp_ge X dL_isRefused_692 (by decide) rfl) ?_
  refine lz_cons (k' := 694) rfl (lz_Ok_none _ _) ?_
  refine lz_cons (k' := 695) rfl (lz_Ok_none _ _) ?_
  refine lz_cons (k' := 696) rfl (lk_iload X dL_isRefused_695 rfl) ?_
  refine lz_cons (k' := 697) rfl (lz_Ok_none _ _) ?_
  refine lz_cons (k' := 698) rfl (lk_if_eq X dL_isRefused_697 (by decide) rfl) ?_
  refine lz_cons (k' := 699) rfl (lz_Ok_none _ _) ?_
  refine lz_cons (k' := 700) rfl (lz_Ok_none _ _) ?_
  refine lz_cons (k' := 701) rfl (lk_aload_n X dL_isRefused_700 rfl rfl) ?_
  refine lz_cons (k' := 702) rfl (lk_iload X dL_isRefused_701 rfl) ?_
  refine lz_cons (k' := 703) rfl (lz_Ok_none _ _) ?_
  refine lz_cons (k' := 704) rfl (lk_iload_n X dL_isRefused_703 rfl rfl) ?_
  refine lz_cons (k' := 705) rfl (lk_iconst X dL_isRefused_704 (by decide) rfl) ?_
  refine lz_cons (k' := 706) rfl (lk_iconst X dL_isRefused_705 (by decide) rfl) ?_
  refine lz_cons (k' := 707) rfl (lk_calls X kl_141 (mm_L_of Wd) (by decide) dL_isRefused_706 rfl) ?_
  refine lz_cons (k' := 708) rfl (lz_Ok_none _ _) ?_
  refine lz_cons (k' := 709) rfl (lz_Ok_none _ _) ?_
  refine lz_cons (k' := 710) rfl (lk_sipush X dL_isRefused_709 (by decide) rfl) ?_
  refine lz_cons (k' := 711) rfl (lz_Ok_none _ _) ?_
  refine lz_cons (k' := 712) rfl (lz_Ok_none _ _) ?_
  refine lz_cons (k' := 713) rfl (lk_icmp_ne X dL_isRefused_712 (by decide) rfl) ?_
  refine lz_cons (k' := 714) rfl (lz_Ok_none _ _) ?_
  refine lz_cons (k' := 715) rfl (lz_Ok_none _ _) ?_
  refine lz_cons (k' := 716) rfl (lk_iconst X dL_isRefused_715 (by decide) rfl) ?_
  refine lz_cons (k' := 717) rfl (lk_goto X dL_isRefused_716 (by decide)) ?_
  refine lz_cons (k' := 718) rfl (lz_Ok_none _ _) ?_
  refine lz_cons (k' := 719) rfl (lz_Ok_none _ _) ?_
  refine lz_cons (k' := 720) rfl (lk_iconst X dL_isRefused_719 (by decide) rfl) ?_
  refine lz_cons (k' := 721) rfl (lk_istore X dL_isRefused_720 (by decide) rfl) ?_
  refine lz_cons (k' := 722) rfl (lz_Ok_none _ _) ?_
  refine lz_cons (k' := 723) rfl (lk_iinc X dL_isRefused_722 (by decide) (by decide) rfl) ?_
  refine lz_cons (k' := 724) rfl (lz_Ok_none _ _) ?_
  refine lz_cons (k' := 725) rfl (lz_Ok_none _ _) ?_
  refine lz_cons (k' := 726) rfl (lk_goto X dL_isRefused_725 (by decide)) ?_
  refine lz_cons (k' := 727) rfl (lz_Ok_none _ _) ?_
  refine lz_cons (k' := 728) rfl (lz_Ok_none _ _) ?_
  refine lz_cons (k' := 729) rfl (lk_iload X dL_isRefused_728 rfl) ?_
  refine lz_cons (k' := 730) rfl (lz_Ok_none _ _) ?_
  refine lz_cons (k' := 731) rfl (lk_if_eq X dL_isRefused_730 (by decide) rfl) ?_
  refine lz_cons (k' := 732) rfl (lz_Ok_none _ _) ?_
  refine lz_cons (k' := 733) rfl (lz_Ok_none _ _) ?_
  refine lz_cons (k' := 734) rfl (lk_aload_n X dL_isRefused_733 rfl rfl) ?_
  refine lz_cons (k' := 735) rfl (lk_bipush X dL_isRefused_734 (by decide) rfl) ?_
  refine lz_cons (k' := 736) rfl (lz_Ok_none _ _) ?_
  refine lz_cons (k' := 737) rfl (lk_iload X dL_isRefused_736 rfl) ?_
  refine lz_cons (k' := 738) rfl (lz_Ok_none _ _) ?_
  refine lz_cons (k' := 739) rfl (lk_iconst X dL_isRefused_738 (by decide) rfl) ?_
  refine lz_cons (k' := 740) rfl (lk_iconst X dL_isRefused_739 (by decide) rfl) ?_
  refine lz_cons (k' := 741) rfl (lk_calls X kl_141 (mm_L_of Wd) (by decide) dL_isRefused_740 rfl) ?_
  refine lz_cons (k' := 742) rfl (lz_Ok_none _ _) ?_
  refine lz_cons (k' := 743) rfl (lz_Ok_none _ _) ?_
  refine lz_cons (k' := 744) rfl (lk_sipush X dL_isRefused_743 (by decide) rfl) ?_
  refine lz_cons (k' := 745) rfl (lz_Ok_none _ _) ?_
  refine lz_cons (k' := 746) rfl (lz_Ok_none _ _) ?_
  refine lz_cons (k' := 747) rfl (lk_icmp_ne X dL_isRefused_746 (by decide) rfl) ?_
  refine lz_cons (k' := 748) rfl (lz_Ok_none _ _) ?_
  refine lz_cons (k' := 749) rfl (lz_Ok_none _ _) ?_
  refine lz_cons (k' := 750) rfl (lk_aload_n X dL_isRefused_749 rfl rfl) ?_
  refine lz_cons (k' := 751) rfl (lk_bipush X dL_isRefused_750 (by decide) rfl) ?_
  refine lz_cons (k' := 752) rfl (lz_Ok_none _ _) ?_
  refine lz_cons (k' := 753) rfl (lk_iload X dL_isRefused_752 rfl) ?_
  refine lz_cons (k' := 754) rfl (lz_Ok_none _ _) ?_
  refine lz_cons (k' := 755) rfl (lk_iconst X dL_isRefused_754 (by decide) rfl) ?_
  refine lz_cons (k' := 756) rfl (lk_iconst X dL_isRefused_755 (by decide) rfl) ?_
  refine lz_cons (k' := 757) rfl (lk_calls X kl_141 (mm_L_of Wd) (by decide) dL_isRefused_756 rfl) ?_
  refine lz_cons (k' := 758) rfl (lz_Ok_none _ _) ?_
  refine lz_cons (k' := 759) rfl (lz_Ok_none _ _) ?_
  refine lz_cons (k' := 760) rfl (lk_sipush X dL_isRefused_759 (by decide) rfl) ?_
  refine lz_cons (k' := 761) rfl (lz_Ok_none _ _) ?_
  refine lz_cons (k' := 762) rfl (lz_Ok_none _ _) ?_
  refine lz_cons (k' := 763) rfl (lk_icmp_ne X dL_isRefused_762 (by decide) rfl) ?_
  refine lz_cons (k' := 764) rfl (lz_Ok_none _ _) ?_
  refine lz_cons (k' := 765) rfl (lz_Ok_none _ _) ?_
  refine lz_cons (k' := 766) rfl (lk_aload_n X dL_isRefused_765 rfl rfl) ?_
  refine lz_cons (k' := 767) rfl (lk_bipush X dL_isRefused_766 (by decide) rfl) ?_
  refine lz_cons (k' := 768) rfl (lz_Ok_none _ _) ?_
  refine lz_cons (k' := 769) rfl (lk_iconst X dL_isRefused_768 (by decide) rfl) ?_
  refine lz_cons (k' := 770) rfl (lk_iconst X dL_isRefused_769 (by decide) rfl) ?_
  refine lz_cons (k' := 771) rfl (lk_iload_n X dL_isRefused_770 rfl rfl) ?_
  refine lz_cons (k' := 772) rfl (lk_bipush X dL_isRefused_771 (by decide) rfl) ?_
  refine lz_cons (k' := 773) rfl (lz_Ok_none _ _) ?_
  refine lz_cons (k' := 774) rfl (lk_irem X dL_isRefused_773 rfl) ?_
  refine lz_cons (k' := 775) rfl (lk_isub X dL_isRefused_774 rfl) ?_
  refine lz_cons (k' := 776) rfl (lk_iconst X dL_isRefused_775 (by decide) rfl) ?_
  refine lz_cons (k' := 777) rfl (lk_calls X kl_141 (mm_L_of Wd) (by decide) dL_isRefused_776 rfl) ?_
  refine lz_cons (k' := 778) rfl (lz_Ok_none _ _) ?_
  refine lz_cons (k' := 779) rfl (lz_Ok_none _ _) ?_
  refine lz_cons (k' := 780) rfl (lk_sipush X dL_isRefused_779 (by decide) rfl) ?_
  refine lz_cons (k' := 781) rfl (lz_Ok_none _ _) ?_
  refine lz_cons (k' := 782) rfl (lz_Ok_none _ _) ?_
  refine lz_cons (k' := 783) rfl (lk_icmp_ne X dL_isRefused_782 (by decide) rfl) ?_
  refine lz_cons (k' := 784) rfl (lz_Ok_none _ _) ?_
  refine lz_cons (k' := 785) rfl (lz_Ok_none _ _) ?_
  refine lz_cons (k' := 786) rfl (lk_aload_n X dL_isRefused_785 rfl rfl) ?_
  refine lz_cons (k' := 787) rfl (lk_bipush X dL_isRefused_786 (by decide) rfl) ?_
  refine lz_cons (k' := 788) rfl (lz_Ok_none _ _) ?_
  refine lz_cons (k' := 789) rfl (lk_iconst X dL_isRefused_788 (by decide) rfl) ?_
  refine lz_cons (k' := 790) rfl (lk_iload_n X dL_isRefused_789 rfl rfl) ?_
  refine lz_cons (k' := 791) rfl (lk_iconst X dL_isRefused_790 (by decide) rfl) ?_
  refine lz_cons (k' := 792) rfl (lk_calls X kl_141 (mm_L_of Wd) (by decide) dL_isRefused_791 rfl) ?_
  refine lz_cons (k' := 793) rfl (lz_Ok_none _ _) ?_
  refine lz_cons (k' := 794) rfl (lz_Ok_none _ _) ?_
  refine lz_cons (k' := 795) rfl (lk_sipush X dL_isRefused_794 (by decide) rfl) ?_
  refine lz_cons (k' := 796) rfl (lz_Ok_none _ _) ?_
  refine lz_cons (k' := 797) rfl (lz_Ok_none _ _) ?_
  refine lz_cons (k' := 798) rfl (lk_icmp_ne X dL_isRefused_797 (by decide) rfl) ?_
  refine lz_cons (k' := 799) rfl (lz_Ok_none _ _) ?_
  refine lz_cons (k' := 800) rfl (lz_Ok_none _ _) ?_
  refine lz_cons (k' := 801) rfl (lk_aload_n X dL_isRefused_800 rfl rfl) ?_
  refine lz_cons (k' := 802) rfl (lk_bipush X dL_isRefused_801 (by decide) rfl) ?_
  refine lz_cons (k' := 803) rfl (lz_Ok_none _ _) ?_
  refine lz_cons (k' := 804) rfl (lk_iload X dL_isRefused_803 rfl) ?_
  refine lz_cons (k' := 805) rfl (lz_Ok_none _ _) ?_
  refine lz_cons (k' := 806) rfl (lk_iload_n X dL_isRefused_805 rfl rfl) ?_
  refine lz_cons (k' := 807) rfl (lk_iconst X dL_isRefused_806 (by decide) rfl) ?_
  refine lz_cons (k' := 808) rfl (lk_calls X kl_141 (mm_L_of Wd) (by decide) dL_isRefused_807 rfl) ?_
  refine lz_cons (k' := 809) rfl (lz_Ok_none _ _) ?_
  refine lz_cons (k' := 810) rfl (lz_Ok_none _ _) ?_
  refine lz_cons (k' := 811) rfl (lk_sipush X dL_isRefused_810 (by decide) rfl) ?_
  refine lz_cons (k' := 812) rfl (lz_Ok_none _ _) ?_
  refine lz_cons (k' := 813) rfl (lz_Ok_none _ _) ?_
  refine lz_cons (k' := 814) rfl (lk_icmp_ne X dL_isRefused_813 (by decide) rfl) ?_
  refine lz_cons (k' := 815) rfl (lz_Ok_none _ _) ?_
  refine lz_cons (k' := 816) rfl (lz_Ok_none _ _) ?_
  refine lz_cons (k' := 817) rfl (lk_aload_n X dL_isRefused_816 rfl rfl) ?_
  refine lz_cons (k' := 818) rfl (lk_bipush X dL_isRefused_817 (by decide) rfl) ?_
  refine lz_cons (k' := 819) rfl (lz_Ok_none _ _) ?_
  refine lz_cons (k' := 820) rfl (lk_iconst X dL_isRefused_819 (by decide) rfl) ?_
  refine lz_cons (k' := 821) rfl (lk_iload_n X dL_isRefused_820 rfl rfl) ?_
  refine lz_cons (k' := 822) rfl (lk_iconst X dL_isRefused_821 (by decide) rfl) ?_
  refine lz_cons (k' := 823) rfl (lk_calls X kl_141 (mm_L_of Wd) (by decide) dL_isRefused_822 rfl) ?_
  refine lz_cons (k' := 824) rfl (lz_Ok_none _ _) ?_
  refine lz_cons (k' := 825) rfl (lz_Ok_none _ _) ?_
  refine lz_cons (k' := 826) rfl (lk_sipush X dL_isRefused_825 (by decide) rfl) ?_
  refine lz_cons (k' := 827) rfl (lz_Ok_none _ _) ?_
  refine lz_cons (k' := 828) rfl (lz_Ok_none _ _) ?_
  refine lz_cons (k' := 829) rfl (lk_icmp_ne X dL_isRefused_828 (by decide) rfl) ?_
  refine lz_cons (k' := 830) rfl (lz_Ok_none _ _) ?_
  refine lz_cons (k' := 831) rfl (lz_Ok_none _ _) ?_
  refine lz_cons (k' := 832) rfl (lk_iconst X dL_isRefused_831 (by decide) rfl) ?_
  refine lz_cons (k' := 833) rfl (lk_goto X dL_isRefused_832 (by decide)) ?_
  refine lz_cons (k' := 834) rfl (lz_Ok_none _ _) ?_
  refine lz_cons (k' := 835) rfl (lz_Ok_none _ _) ?_
  refine lz_cons (k' := 836) rfl (lk_iconst X dL_isRefused_835 (by decide) rfl) ?_
  refine lz_cons (k' := 837) rfl (lk_istore X dL_isRefused_836 (by decide) rfl) ?_
  refine lz_cons (k' := 838) rfl (lz_Ok_none _ _) ?_
  refine lz_cons (k' := 839) rfl (lk_iconst X dL_isRefused_838 (by decide) rfl) ?_
  refine lz_cons (k' := 840) rfl (lk_istore X dL_isRefused_839 (by decide) rfl) ?_
  refine lz_cons (k' := 841) rfl (lz_Ok_none _ _) ?_
  refine lz_cons (k' := 842) rfl (lk_iload X dL_isRefused_841 rfl) ?_
  refine lz_cons (k' := 843) rfl (lz_Ok_none _ _) ?_
  refine lz_cons (k' := 844) rfl (lk_aload_n X dL_isRefused_843 rfl rfl) ?_
  refine lz_cons (k' := 845) rfl (lk_callv X kc_155 (mm_X11_objects Wd.1) (by decide) dL_isRefused_844 rfl) ?_
  refine lz_cons (k' := 846) rfl (lz_Ok_none _ _) ?_
  refine lz_cons (k' := 847) rfl (lz_Ok_none _ _) ?_
  refine lz_cons (k' := 848) rfl (lk_icmp_ge X dL_isRefused_847 (by decide) rfl) ?_
  refine lz_cons (k' := 849) rfl (lz_Ok_none _ _) ?_
  refine lz_cons (k' := 850) rfl (lz_Ok_none _ _) ?_
  refine lz_cons (k' := 851) rfl (lk_iload X dL_isRefused_850 rfl) ?_
  refine lz_cons (k' := 852) rfl (lz_Ok_none _ _) ?_
  refine lz_cons (k' := 853) rfl (lk_if_eq X dL_isRefused_852 (by decide) rfl) ?_
  refine lz_cons (k' := 854) rfl (lz_Ok_none _ _) ?_
  refine lz_cons (k' := 855) rfl (lz_Ok_none _ _) ?_
  refine lz_cons (k' := 856) rfl (lk_aload_n X dL_isRefused_855 rfl rfl) ?_
  refine lz_cons (k' := 857) rfl (lk_iload X dL_isRefused_856 rfl) ?_
  refine lz_cons (k' := 858) rfl (lz_Ok_none _ _) ?_
  refine lz_cons (k' := 859) rfl (lk_callv X kc_83 (mm_X11_kindOf Wd.1) (by decide) dL_isRefused_858 rfl) ?_
  refine lz_cons (k' := 860) rfl (lz_Ok_none _ _) ?_
  refine lz_cons (k' := 861) rfl (lz_Ok_none _ _) ?_
  refine lz_cons (k' := 862) rfl (lk_istore X dL_isRefused_861 (by decide) rfl) ?_
  refine lz_cons (k' := 863) rfl (lz_Ok_none _ _) ?_
  refine lz_cons (k' := 864) rfl (lk_iload X dL_isRefused_863 rfl) ?_
  refine lz_cons (k' := 865) rfl (lz_Ok_none _ _) ?_
  refine lz_cons (k' := 866) rfl (lk_iconst X dL_isRefused_865 (by decide) rfl) ?_
  refine lz_cons (k' := 867) rfl (lk_icmp_ne X dL_isRefused_866 (by decide) rfl) ?_
  refine lz_cons (k' := 868) rfl (lz_Ok_none _ _) ?_
  refine lz_cons (k' := 869) rfl (lz_Ok_none _ _) ?_
  refine lz_cons (k' := 870) rfl (lk_bipush X dL_isRefused_869 (by decide) rfl) ?_
  refine lz_cons (k' := 871) rfl (lz_Ok_none _ _) ?_
  refine lz_cons (k' := 872) rfl (lk_goto X dL_isRefused_871 (by decide)) ?_
  refine lz_cons (k' := 873) rfl (lz_Ok_none _ _) ?_
  refine lz_cons (k' := 874) rfl (lz_Ok_none _ _) ?_
  refine lz_cons (k' := 875) rfl (lk_iconst X dL_isRefused_874 (by decide) rfl) ?_
  refine lz_cons (k' := 876) rfl (lk_istore X dL_isRefused_875 (by decide) rfl) ?_
  refine lz_cons (k' := 877) rfl (lz_Ok_none _ _) ?_
  refine lz_cons (k' := 878) rfl (lk_aload_n X dL_isRefused_877 rfl rfl) ?_
  refine lz_cons (k' := 879) rfl (lk_iload X dL_isRefused_878 rfl) ?_
  refine lz_cons (k' := 880) rfl (lz_Ok_none _ _) ?_
  refine lz_cons (k' := 881) rfl (lk_iload X dL_isRefused_880 rfl) ?_
  refine lz_cons (k' := 882) rfl (lz_Ok_none _ _) ?_
  refine lz_cons (k' := 883) rfl (lk_callv X kc_89 (mm_X11_managerOf Wd.1) (by decide) dL_isRefused_882 rfl) ?_
  refine lz_cons (k' := 884) rfl (lz_Ok_none _ _) ?_
  refine lz_cons (k' := 885) rfl (lz_Ok_none _ _) ?_
  refine lz_cons (k' := 886) rfl (lk_if_ne X dL_isRefused_885 (by decide) rfl) ?_
  refine lz_cons (k' := 887) rfl (lz_Ok_none _ _) ?_
  refine lz_cons (k' := 888) rfl (lz_Ok_none _ _) ?_
  refine lz_cons (k' := 889) rfl (lk_iconst X dL_isRefused_888 (by decide) rfl) ?_
  refine lz_cons (k' := 890) rfl (lk_goto X dL_isRefused_889 (by decide)) ?_
  refine lz_cons (k' := 891) rfl (lz_Ok_none _ _) ?_
  refine lz_cons (k' := 892) rfl (lz_Ok_none _ _) ?_
  refine lz_cons (k' := 893) rfl (lk_iconst X dL_isRefused_892 (by decide) rfl) ?_
  refine lz_cons (k' := 894) rfl (lk_istore X dL_isRefused_893 (by decide) rfl) ?_
  refine lz_cons (k' := 895) rfl (lz_Ok_none _ _) ?_
  refine lz_cons (k' := 896) rfl (lk_aload_n X dL_isRefused_895 rfl rfl) ?_
  refine lz_cons (k' := 897) rfl (lk_iconst X dL_isRefused_896 (by decide) rfl) ?_
  refine lz_cons (k' := 898) rfl (lk_iload X dL_isRefused_897 rfl) ?_
  refine lz_cons (k' := 899) rfl (lz_Ok_none _ _) ?_
  refine lz_cons (k' := 900) rfl (lk_iload X dL_isRefused_899 rfl) ?_
  refine lz_cons (k' := 901) rfl (lz_Ok_none _ _) ?_
  refine lz_cons (k' := 902) rfl (lk_iload X dL_isRefused_901 rfl) ?_
  refine lz_cons (k' := 903) rfl (lz_Ok_none _ _) ?_
  refine lz_cons (k' := 904) rfl (lk_iconst X dL_isRefused_903 (by decide) rfl) ?_
  refine lz_cons (k' := 905) rfl (lk_iconst X dL_isRefused_904 (by decide) rfl) ?_
  refine lz_cons (k' := 906) rfl (lk_iconst X dL_isRefused_905 (by decide) rfl) ?_
  refine lz_cons (k' := 907) rfl (lk_calls X kl_168 (mm_L_act Wd) (by decide) dL_isRefused_906 rfl) ?_
  refine lz_cons (k' := 908) rfl (lz_Ok_none _ _) ?_
  refine lz_cons (k' := 909) rfl (lz_Ok_none _ _) ?_
  refine lz_cons (k' := 910) rfl (lk_sipush X dL_isRefused_909 (by decide) rfl) ?_
  refine lz_cons (k' := 911) rfl (lz_Ok_none _ _) ?_
  refine lz_cons (k' := 912) rfl (lz_Ok_none _ _) ?_
  refine lz_cons (k' := 913) rfl (lk_icmp_ne X dL_isRefused_912 (by decide) rfl) ?_
  refine lz_cons (k' := 914) rfl (lz_Ok_none _ _) ?_
  refine lz_cons (k' := 915) rfl (lz_Ok_none _ _) ?_
  refine lz_cons (k' := 916) rfl (lk_aload_n X dL_isRefused_915 rfl rfl) ?_
  refine lz_cons (k' := 917) rfl (lk_iconst X dL_isRefused_916 (by decide) rfl) ?_
  refine lz_cons (k' := 918) rfl (lk_iconst X dL_isRefused_917 (by decide) rfl) ?_
  refine lz_cons (k' := 919) rfl (lk_iload X dL_isRefused_918 rfl) ?_
  refine lz_cons (k' := 920) rfl (lz_Ok_none _ _) ?_
  refine lz_cons (k' := 921) rfl (lk_iload X dL_isRefused_920 rfl) ?_
  refine lz_cons (k' := 922) rfl (lz_Ok_none _ _) ?_
  refine lz_cons (k' := 923) rfl (lk_iconst X dL_isRefused_922 (by decide) rfl) ?_
  refine lz_cons (k' := 924) rfl (lk_icmp_ne X dL_isRefused_923 (by decide) rfl) ?_
  refine lz_cons (k' := 925) rfl (lz_Ok_none _ _) ?_
  refine lz_cons (k' := 926) rfl (lz_Ok_none _ _) ?_
  refine lz_cons (k' := 927) rfl (lk_iconst X dL_isRefused_926 (by decide) rfl) ?_
  refine lz_cons (k' := 928) rfl (lk_goto X dL_isRefused_927 (by decide)) ?_
  refine lz_cons (k' := 929) rfl (lz_Ok_none _ _) ?_
  refine lz_cons (k' := 930) rfl (lz_Ok_none _ _) ?_
  refine lz_cons (k' := 931) rfl (lk_bipush X dL_isRefused_930 (by decide) rfl) ?_
  refine lz_cons (k' := 932) rfl (lz_Ok_none _ _) ?_
  refine lz_cons (k' := 933) rfl (lk_iconst X dL_isRefused_932 (by decide) rfl) ?_
  refine lz_cons (k' := 934) rfl (lk_iconst X dL_isRefused_933 (by decide) rfl) ?_
  refine lz_cons (k' := 935) rfl (lk_iconst X dL_isRefused_934 (by decide) rfl) ?_
  refine lz_cons (k' := 936) rfl (lk_calls X kl_168 (mm_L_act Wd) (by decide) dL_isRefused_935 rfl) ?_
  refine lz_cons (k' := 937) rfl (lz_Ok_none _ _) ?_
  refine lz_cons (k' := 938) rfl (lz_Ok_none _ _) ?_
  refine lz_cons (k' := 939) rfl (lk_sipush X dL_isRefused_938 (by decide) rfl) ?_
  refine lz_cons (k' := 940) rfl (lz_Ok_none _ _) ?_
  refine lz_cons (k' := 941) rfl (lz_Ok_none _ _) ?_
  refine lz_cons (k' := 942) rfl (lk_icmp_ne X dL_isRefused_941 (by decide) rfl) ?_
  refine lz_cons (k' := 943) rfl (lz_Ok_none _ _) ?_
  refine lz_cons (k' := 944) rfl (lz_Ok_none _ _) ?_
  refine lz_cons (k' := 945) rfl (lk_aload_n X dL_isRefused_944 rfl rfl) ?_
  refine lz_cons (k' := 946) rfl (lk_iconst X dL_isRefused_945 (by decide) rfl) ?_
  refine lz_cons (k' := 947) rfl (lk_iconst X dL_isRefused_946 (by decide) rfl) ?_
  refine lz_cons (k' := 948) rfl (lk_iload X dL_isRefused_947 rfl) ?_
  refine lz_cons (k' := 949) rfl (lz_Ok_none _ _) ?_
  refine lz_cons (k' := 950) rfl (lk_iload X dL_isRefused_949 rfl) ?_
  refine lz_cons (k' := 951) rfl (lz_Ok_none _ _) ?_
  refine lz_cons (k' := 952) rfl (lk_iload_n X dL_isRefused_951 rfl rfl) ?_
  refine lz_cons (k' := 953) rfl (lk_if_eq X dL_isRefused_952 (by decide) rfl) ?_
  refine lz_cons (k' := 954) rfl (lz_Ok_none _ _) ?_
  refine lz_cons (k' := 955) rfl (lz_Ok_none _ _) ?_
  refine lz_cons (k' := 956) rfl (lk_iconst X dL_isRefused_955 (by decide) rfl) ?_
  refine lz_cons (k' := 957) rfl (lk_iload_n X dL_isRefused_956 rfl rfl) ?_
  refine lz_cons (k' := 958) rfl (lk_bipush X dL_isRefused_957 (by decide) rfl) ?_
  refine lz_cons (k' := 959) rfl (lz_Ok_none _ _) ?_
  refine lz_cons (k' := 960) rfl (lk_irem X dL_isRefused_959 rfl) ?_
  refine lz_cons (k' := 961) rfl (lk_isub X dL_isRefused_960 rfl) ?_
  refine lz_cons (k' := 962) rfl (lk_goto X dL_isRefused_961 (by decide)) ?_
  refine lz_cons (k' := 963) rfl (lz_Ok_none _ _) ?_
  refine lz_cons (k' := 964) rfl (lz_Ok_none _ _) ?_
  refine lz_cons (k' := 965) rfl (lk_bipush X dL_isRefused_964 (by decide) rfl) ?_
  refine lz_cons (k' := 966) rfl (lz_Ok_none _ _) ?_
  refine lz_cons (k' := 967) rfl (lk_iconst X dL_isRefused_966 (by decide) rfl) ?_
  refine lz_cons (k' := 968) rfl (lk_iconst X dL_isRefused_967 (by decide) rfl) ?_
  refine lz_cons (k' := 969) rfl (lk_calls X kl_168 (mm_L_act Wd) (by decide) dL_isRefused_968 rfl) ?_
  refine lz_cons (k' := 970) rfl (lz_Ok_none _ _) ?_
  refine lz_cons (k' := 971) rfl (lz_Ok_none _ _) ?_
  refine lz_cons (k' := 972) rfl (lk_sipush X dL_isRefused_971 (by decide) rfl) ?_
  refine lz_cons (k' := 973) rfl (lz_Ok_none _ _) ?_
  refine lz_cons (k' := 974) rfl (lz_Ok_none _ _) ?_
  refine lz_cons (k' := 975) rfl (lk_icmp_ne X dL_isRefused_974 (by decide) rfl) ?_
  refine lz_cons (k' := 976) rfl (lz_Ok_none _ _) ?_
  refine lz_cons (k' := 977) rfl (lz_Ok_none _ _) ?_
  refine lz_cons (k' := 978) rfl (lk_aload_n X dL_isRefused_977 rfl rfl) ?_
  refine lz_cons (k' := 979) rfl (lk_iconst X dL_isRefused_978 (by decide) rfl) ?_
  refine lz_cons (k' := 980) rfl (lk_iconst X dL_isRefused_979 (by decide) rfl) ?_
  refine lz_cons (k' := 981) rfl (lk_iload X dL_isRefused_980 rfl) ?_
  refine lz_cons (k' := 982) rfl (lz_Ok_none _ _) ?_
  refine lz_cons (k' := 983) rfl (lk_iload X dL_isRefused_982 rfl) ?_
  refine lz_cons (k' := 984) rfl (lz_Ok_none _ _) ?_
  refine lz_cons (k' := 985) rfl (lk_iconst X dL_isRefused_984 (by decide) rfl) ?_
  refine lz_cons (k' := 986) rfl (lk_aload_n X dL_isRefused_985 rfl rfl) ?_
  refine lz_cons (k' := 987) rfl (lk_iload X dL_isRefused_986 rfl) ?_
  refine lz_cons (k' := 988) rfl (lz_Ok_none _ _) ?_
  refine lz_cons (k' := 989) rfl (lk_callv X kc_95 (mm_X11_versionOf Wd.1) (by decide) dL_isRefused_988 rfl) ?_
  refine lz_cons (k' := 990) rfl (lz_Ok_none _ _) ?_
  refine lz_cons (k' := 991) rfl (lz_Ok_none _ _) ?_
  refine lz_cons (k' := 992) rfl (lk_iconst X dL_isRefused_991 (by decide) rfl) ?_
  refine lz_cons (k' := 993) rfl (lk_iadd X dL_isRefused_992 rfl) ?_
  refine lz_cons (k' := 994) rfl (lk_iload_n X dL_isRefused_993 rfl rfl) ?_
  refine lz_cons (k' := 995) rfl (lk_bipush X dL_isRefused_994 (by decide) rfl) ?_
  refine lz_cons (k' := 996) rfl (lz_Ok_none _ _) ?_
  refine lz_cons (k' := 997) rfl (lk_irem X dL_isRefused_996 rfl) ?_
  refine lz_cons (k' := 998) rfl (lk_iadd X dL_isRefused_997 rfl) ?_
  refine lz_cons (k' := 999) rfl (lk_iconst X dL_isRefused_998 (by decide) rfl) ?_
  refine lz_cons (k' := 1000) rfl (lk_calls X kl_168 (mm_L_act Wd) (by decide) dL_isRefused_999 rfl) ?_
  refine lz_cons (k' := 1001) rfl (lz_Ok_none _ _) ?_
  refine lz_cons (k' := 1002) rfl (lz_Ok_none _ _) ?_
  refine lz_cons (k' := 1003) rfl (lk_sipush X dL_isRefused_1002 (by decide) rfl) ?_
  refine lz_cons (k' := 1004) rfl (lz_Ok_none _ _) ?_
  refine lz_cons (k' := 1005) rfl (lz_Ok_none _ _) ?_
  refine lz_cons (k' := 1006) rfl (lk_icmp_ne X dL_isRefused_1005 (by decide) rfl) ?_
  refine lz_cons (k' := 1007) rfl (lz_Ok_none _ _) ?_
  refine lz_cons (k' := 1008) rfl (lz_Ok_none _ _) ?_
  refine lz_cons (k' := 1009) rfl (lk_aload_n X dL_isRefused_1008 rfl rfl) ?_
  refine lz_cons (k' := 1010) rfl (lk_iconst X dL_isRefused_1009 (by decide) rfl) ?_
  refine lz_cons (k' := 1011) rfl (lk_iload X dL_isRefused_1010 rfl) ?_
  refine lz_cons (k' := 1012) rfl (lz_Ok_none _ _) ?_
  refine lz_cons (k' := 1013) rfl (lk_iload X dL_isRefused_1012 rfl) ?_
  refine lz_cons (k' := 1014) rfl (lz_Ok_none _ _) ?_
  refine lz_cons (k' := 1015) rfl (lk_iload X dL_isRefused_1014 rfl) ?_
  refine lz_cons (k' := 1016) rfl (lz_Ok_none _ _) ?_
  refine lz_cons (k' := 1017) rfl (lk_iconst X dL_isRefused_1016 (by decide) rfl) ?_
  refine lz_cons (k' := 1018) rfl (lk_iconst X dL_isRefused_1017 (by decide) rfl) ?_
  refine lz_cons (k' := 1019) rfl (lk_iconst X dL_isRefused_1018 (by decide) rfl) ?_
  refine lz_cons (k' := 1020) rfl (lk_calls X kl_168 (mm_L_act Wd) (by decide) dL_isRefused_1019 rfl) ?_
  refine lz_cons (k' := 1021) rfl (lz_Ok_none _ _) ?_
  refine lz_cons (k' := 1022) rfl (lz_Ok_none _ _) ?_
  refine lz_cons (k' := 1023) rfl (lk_sipush X dL_isRefused_1022 (by decide) rfl) ?_
  refine lz_cons (k' := 1024) rfl (lz_Ok_none _ _) ?_
  refine lz_cons (k' := 1025) rfl (lz_Ok_none _ _) ?_
  refine lz_cons (k' := 1026) rfl (lk_icmp_ne X dL_isRefused_1025 (by decide) rfl) ?_
  refine lz_cons (k' := 1027) rfl (lz_Ok_none _ _) ?_
  refine lz_cons (k' := 1028) rfl (lz_Ok_none _ _) ?_
  refine lz_cons (k' := 1029) rfl (lk_aload_n X dL_isRefused_1028 rfl rfl) ?_
  refine lz_cons (k' := 1030) rfl (lk_iconst X dL_isRefused_1029 (by decide) rfl) ?_
  refine lz_cons (k' := 1031) rfl (lk_iload X dL_isRefused_1030 rfl) ?_
  refine lz_cons (k' := 1032) rfl (lz_Ok_none _ _) ?_
  refine lz_cons (k' := 1033) rfl (lk_iload_n X dL_isRefused_1032 rfl rfl) ?_
  refine lz_cons (k' := 1034) rfl (lk_if_eq X dL_isRefused_1033 (by decide) rfl) ?_
  refine lz_cons (k' := 1035) rfl (lz_Ok_none _ _) ?_
  refine lz_cons (k' := 1036) rfl (lz_Ok_none _ _) ?_
  refine lz_cons (k' := 1037) rfl (lk_iconst X dL_isRefused_1036 (by decide) rfl) ?_
  refine lz_cons (k' := 1038) rfl (lk_iload_n X dL_isRefused_1037 rfl rfl) ?_
  refine lz_cons (k' := 1039) rfl (lk_bipush X dL_isRefused_1038 (by decide) rfl) ?_
  refine lz_cons (k' := 1040) rfl (lz_Ok_none _ _) ?_
  refine lz_cons (k' := 1041) rfl (lk_irem X dL_isRefused_1040 rfl) ?_
  refine lz_cons (k' := 1042) rfl (lk_isub X dL_isRefused_1041 rfl) ?_
  refine lz_cons (k' := 1043) rfl (lk_goto X dL_isRefused_1042 (by decide)) ?_
  refine lz_cons (k' := 1044) rfl (lz_Ok_none _ _) ?_
  refine lz_cons (k' := 1045) rfl (lz_Ok_none _ _) ?_
  refine lz_cons (k' := 1046) rfl (lk_iconst X dL_isRefused_1045 (by decide) rfl) ?_
  refine lz_cons (k' := 1047) rfl (lk_iconst X dL_isRefused_1046 (by decide) rfl) ?_
  refine lz_cons (k' := 1048) rfl (lk_iconst X dL_isRefused_1047 (by decide) rfl) ?_
  refine lz_cons (k' := 1049) rfl (lk_iconst X dL_isRefused_1048 (by decide) rfl) ?_
  refine lz_cons (k' := 1050) rfl (lk_iconst X dL_isRefused_1049 (by decide) rfl) ?_
  refine lz_cons (k' := 1051) rfl (lk_calls X kl_168 (mm_L_act Wd) (by decide) dL_isRefused_1050 rfl) ?_
  refine lz_cons (k' := 1052) rfl (lz_Ok_none _ _) ?_
  refine lz_cons (k' := 1053) rfl (lz_Ok_none _ _) ?_
  refine lz_cons (k' := 1054) rfl (lk_sipush X dL_isRefused_1053 (by decide) rfl) ?_
  refine lz_cons (k' := 1055) rfl (lz_Ok_none _ _) ?_
  refine lz_cons (k' := 1056) rfl (lz_Ok_none _ _) ?_
  refine lz_cons (k' := 1057) rfl (lk_icmp_ne X dL_isRefused_1056 (by decide) rfl) ?_
  refine lz_cons (k' := 1058) rfl (lz_Ok_none _ _) ?_
  refine lz_cons (k' := 1059) rfl (lz_Ok_none _ _) ?_
  refine lz_cons (k' := 1060) rfl (lk_iload X dL_isRefused_1059 rfl) ?_
  refine lz_cons (k' := 1061) rfl (lz_Ok_none _ _) ?_
  refine lz_cons (k' := 1062) rfl (lk_iconst X dL_isRefused_1061 (by decide) rfl) ?_
  refine lz_cons (k' := 1063) rfl (lk_icmp_eq X dL_isRefused_1062 (by decide) rfl) ?_
  refine lz_cons (k' := 1064) rfl (lz_Ok_none _ _) ?_
  refine lz_cons (k' := 1065) rfl (lz_Ok_none _ _) ?_
  refine lz_cons (k' := 1066) rfl (lk_aload_n X dL_isRefused_1065 rfl rfl) ?_
  refine lz_cons (k' := 1067) rfl (lk_iconst X dL_isRefused_1066 (by decide) rfl) ?_
  refine lz_cons (k' := 1068) rfl (lk_iload X dL_isRefused_1067 rfl) ?_
  refine lz_cons (k' := 1069) rfl (lz_Ok_none _ _) ?_
  refine lz_cons (k' := 1070) rfl (lk_iconst X dL_isRefused_1069 (by decide) rfl) ?_
  refine lz_cons (k' := 1071) rfl (lk_iconst X dL_isRefused_1070 (by decide) rfl) ?_
  refine lz_cons (k' := 1072) rfl (lk_iconst X dL_isRefused_1071 (by decide) rfl) ?_
  refine lz_cons (k' := 1073) rfl (lk_iconst X dL_isRefused_1072 (by decide) rfl) ?_
  refine lz_cons (k' := 1074) rfl (lk_iconst X dL_isRefused_1073 (by decide) rfl) ?_
  refine lz_cons (k' := 1075) rfl (lk_calls X kl_168 (mm_L_act Wd) (by decide) dL_isRefused_1074 rfl) ?_
  refine lz_cons (k' := 1076) rfl (lz_Ok_none _ _) ?_
  refine lz_cons (k' := 1077) rfl (lz_Ok_none _ _) ?_
  refine lz_cons (k' := 1078) rfl (lk_sipush X dL_isRefused_1077 (by decide) rfl) ?_
  refine lz_cons (k' := 1079) rfl (lz_Ok_none _ _) ?_
  refine lz_cons (k' := 1080) rfl (lz_Ok_none _ _) ?_
  refine lz_cons (k' := 1081) rfl (lk_icmp_ne X dL_isRefused_1080 (by decide) rfl) ?_
  refine lz_cons (k' := 1082) rfl (lz_Ok_none _ _) ?_
  refine lz_cons (k' := 1083) rfl (lz_Ok_none _ _) ?_
  refine lz_cons (k' := 1084) rfl (lk_iload X dL_isRefused_1083 rfl) ?_
  refine lz_cons (k' := 1085) rfl (lz_Ok_none _ _) ?_
  refine lz_cons (k' := 1086) rfl (lk_iconst X dL_isRefused_1085 (by decide) rfl) ?_
  refine lz_cons (k' := 1087) rfl (lk_icmp_eq X dL_isRefused_1086 (by decide) rfl) ?_
  refine lz_cons (k' := 1088) rfl (lz_Ok_none _ _) ?_
  refine lz_cons (k' := 1089) rfl (lz_Ok_none _ _) ?_
  refine lz_cons (k' := 1090) rfl (lk_aload_n X dL_isRefused_1089 rfl rfl) ?_
  refine lz_cons (k' := 1091) rfl (lk_bipush X dL_isRefused_1090 (by decide) rfl) ?_
  refine lz_cons (k' := 1092) rfl (lz_Ok_none _ _) ?_
  refine lz_cons (k' := 1093) rfl (lk_iload X dL_isRefused_1092 rfl) ?_
  refine lz_cons (k' := 1094) rfl (lz_Ok_none _ _) ?_
  refine lz_cons (k' := 1095) rfl (lk_iconst X dL_isRefused_1094 (by decide) rfl) ?_
  refine lz_cons (k' := 1096) rfl (lk_iconst X dL_isRefused_1095 (by decide) rfl) ?_
  refine lz_cons (k' := 1097) rfl (lk_iconst X dL_isRefused_1096 (by decide) rfl) ?_
  refine lz_cons (k' := 1098) rfl (lk_iconst X dL_isRefused_1097 (by decide) rfl) ?_
  refine lz_cons (k' := 1099) rfl (lk_iconst X dL_isRefused_1098 (by decide) rfl) ?_
  refine lz_cons (k' := 1100) rfl (lk_calls X kl_168 (mm_L_act Wd) (by decide) dL_isRefused_1099 rfl) ?_
  refine lz_cons (k' := 1101) rfl (lz_Ok_none _ _) ?_
  refine lz_cons (k' := 1102) rfl (lz_Ok_none _ _) ?_
  refine lz_cons (k' := 1103) rfl (lk_sipush X dL_isRefused_1102 (by decide) rfl) ?_
  refine lz_cons (k' := 1104) rfl (lz_Ok_none _ _) ?_
  refine lz_cons (k' := 1105) rfl (lz_Ok_none _ _) ?_
  refine lz_cons (k' := 1106) rfl (lk_icmp_ne X dL_isRefused_1105 (by decide) rfl) ?_
  refine lz_cons (k' := 1107) rfl (lz_Ok_none _ _) ?_
  refine lz_cons (k' := 1108) rfl (lz_Ok_none _ _) ?_
  refine lz_cons (k' := 1109) rfl (lk_iload X dL_isRefused_1108 rfl) ?_
  refine lz_cons (k' := 1110) rfl (lz_Ok_none _ _) ?_
  refine lz_cons (k' := 1111) rfl (lk_if_ne X dL_isRefused_1110 (by decide) rfl) ?_
  refine lz_cons (k' := 1112) rfl (lz_Ok_none _ _) ?_
  refine lz_cons (k' := 1113) rfl (lz_Ok_none _ _) ?_
  refine lz_cons (k' := 1114) rfl (lk_aload_n X dL_isRefused_1113 rfl rfl) ?_
  refine lz_cons (k' := 1115) rfl (lk_iconst X dL_isRefused_1114 (by decide) rfl) ?_
  refine lz_cons (k' := 1116) rfl (lk_iconst X dL_isRefused_1115 (by decide) rfl) ?_
  refine lz_cons (k' := 1117) rfl (lk_iload X dL_isRefused_1116 rfl) ?_
  refine lz_cons (k' := 1118) rfl (lz_Ok_none _ _) ?_
  refine lz_cons (k' := 1119) rfl (lk_iload_n X dL_isRefused_1118 rfl rfl) ?_
  refine lz_cons (k' := 1120) rfl (lk_if_eq X dL_isRefused_1119 (by decide) rfl) ?_
  refine lz_cons (k' := 1121) rfl (lz_Ok_none _ _) ?_
  refine lz_cons (k' := 1122) rfl (lz_Ok_none _ _) ?_
  refine lz_cons (k' := 1123) rfl (lk_iconst X dL_isRefused_1122 (by decide) rfl) ?_
  refine lz_cons (k' := 1124) rfl (lk_iload_n X dL_isRefused_1123 rfl rfl) ?_
  refine lz_cons (k' := 1125) rfl (lk_bipush X dL_isRefused_1124 (by decide) rfl) ?_
  refine lz_cons (k' := 1126) rfl (lz_Ok_none _ _) ?_
  refine lz_cons (k' := 1127) rfl (lk_irem X dL_isRefused_1126 rfl) ?_
  refine lz_cons (k' := 1128) rfl (lk_isub X dL_isRefused_1127 rfl) ?_
  refine lz_cons (k' := 1129) rfl (lk_goto X dL_isRefused_1128 (by decide)) ?_
  refine lz_cons (k' := 1130) rfl (lz_Ok_none _ _) ?_
  refine lz_cons (k' := 1131) rfl (lz_Ok_none _ _) ?_
  refine lz_cons (k' := 1132) rfl (lk_bipush X dL_isRefused_1131 (by decide) rfl) ?_
  refine lz_cons (k' := 1133) rfl (lz_Ok_none _ _) ?_
  refine lz_cons (k' := 1134) rfl (lk_iconst X dL_isRefused_1133 (by decide) rfl) ?_
  refine lz_cons (k' := 1135) rfl (lk_iconst X dL_isRefused_1134 (by decide) rfl) ?_
  refine lz_cons (k' := 1136) rfl (lk_iconst X dL_isRefused_1135 (by decide) rfl) ?_
  refine lz_cons (k' := 1137) rfl (lk_calls X kl_168 (mm_L_act Wd) (by decide) dL_isRefused_1136 rfl) ?_
  refine lz_cons (k' := 1138) rfl (lz_Ok_none _ _) ?_
  refine lz_cons (k' := 1139) rfl (lz_Ok_none _ _) ?_
  refine lz_cons (k' := 1140) rfl (lk_sipush X dL_isRefused_1139 (by decide) rfl) ?_
  refine lz_cons (k' := 1141) rfl (lz_Ok_none _ _) ?_
  refine lz_cons (k' := 1142) rfl (lz_Ok_none _ _) ?_
  refine lz_cons (k' := 1143) rfl (lk_icmp_ne X dL_isRefused_1142 (by decide) rfl) ?_
  refine lz_cons (k' := 1144) rfl (lz_Ok_none _ _) ?_
  refine lz_cons (k' := 1145) rfl (lz_Ok_none _ _) ?_
  refine lz_cons (k' := 1146) rfl (lk_aload_n X dL_isRefused_1145 rfl rfl) ?_
  refine lz_cons (k' := 1147) rfl (lk_iconst X dL_isRefused_1146 (by decide) rfl) ?_
  refine lz_cons (k' := 1148) rfl (lk_iconst X dL_isRefused_1147 (by decide) rfl) ?_
  refine lz_cons (k' := 1149) rfl (lk_iload X dL_isRefused_1148 rfl) ?_
  refine lz_cons (k' := 1150) rfl (lz_Ok_none _ _) ?_
  refine lz_cons (k' := 1151) rfl (lk_iconst X dL_isRefused_1150 (by decide) rfl) ?_
  refine lz_cons (k' := 1152) rfl (lk_iconst X dL_isRefused_1151 (by decide) rfl) ?_
  refine lz_cons (k' := 1153) rfl (lk_iconst X dL_isRefused_1152 (by decide) rfl) ?_
  refine lz_cons (k' := 1154) rfl (lk_iconst X dL_isRefused_1153 (by decide) rfl) ?_
  refine lz_cons (k' := 1155) rfl (lk_calls X kl_168 (mm_L_act Wd) (by decide) dL_isRefused_1154 rfl) ?_
  refine lz_cons (k' := 1156) rfl (lz_Ok_none _ _) ?_
  refine lz_cons (k' := 1157) rfl (lz_Ok_none _ _) ?_
  refine lz_cons (k' := 1158) rfl (lk_sipush X dL_isRefused_1157 (by decide) rfl) ?_
  refine lz_cons (k' := 1159) rfl (lz_Ok_none _ _) ?_
  refine lz_cons (k' := 1160) rfl (lz_Ok_none _ _) ?_
  refine lz_cons (k' := 1161) rfl (lk_icmp_ne X dL_isRefused_1160 (by decide) rfl) ?_
  refine lz_cons (k' := 1162) rfl (lz_Ok_none _ _) ?_
  refine lz_cons (k' := 1163) rfl (lz_Ok_none _ _) ?_
  refine lz_cons (k' := 1164) rfl (lk_aload_n X dL_isRefused_1163 rfl rfl) ?_
  refine lz_cons (k' := 1165) rfl (lk_iconst X dL_isRefused_1164 (by decide) rfl) ?_
  refine lz_cons (k' := 1166) rfl (lk_iconst X dL_isRefused_1165 (by decide) rfl) ?_
  refine lz_cons (k' := 1167) rfl (lk_iload X dL_isRefused_1166 rfl) ?_
  refine lz_cons (k' := 1168) rfl (lz_Ok_none _ _) ?_
  refine lz_cons (k' := 1169) rfl (lk_iconst X dL_isRefused_1168 (by decide) rfl) ?_
  refine lz_cons (k' := 1170) rfl (lk_iconst X dL_isRefused_1169 (by decide) rfl) ?_
  refine lz_cons (k' := 1171) rfl (lk_iconst X dL_isRefused_1170 (by decide) rfl) ?_
  refine lz_cons (k' := 1172) rfl (lk_iconst X dL_isRefused_1171 (by decide) rfl) ?_
  refine lz_cons (k' := 1173) rfl (lk_calls X kl_168 (mm_L_act Wd) (by decide) dL_isRefused_1172 rfl) ?_
  refine lz_cons (k' := 1174) rfl (lz_Ok_none _ _) ?_
  refine lz_cons (k' := 1175) rfl (lz_Ok_none _ _) ?_
  refine lz_cons (k' := 1176) rfl (lk_sipush X dL_isRefused_1175 (by decide) rfl) ?_
  refine lz_cons (k' := 1177) rfl (lz_Ok_none _ _) ?_
  refine lz_cons (k' := 1178) rfl (lz_Ok_none _ _) ?_
  refine lz_cons (k' := 1179) rfl (lk_icmp_ne X dL_isRefused_1178 (by decide) rfl) ?_
  refine lz_cons (k' := 1180) rfl (lz_Ok_none _ _) ?_
  refine lz_cons (k' := 1181) rfl (lz_Ok_none _ _) ?_
  refine lz_cons (k' := 1182) rfl (lk_aload_n X dL_isRefused_1181 rfl rfl) ?_
  refine lz_cons (k' := 1183) rfl (lk_bipush X dL_isRefused_1182 (by decide) rfl) ?_
  refine lz_cons (k' := 1184) rfl (lz_Ok_none _ _) ?_
  refine lz_cons (k' := 1185) rfl (lk_iload X dL_isRefused_1184 rfl) ?_
  refine lz_cons (k' := 1186) rfl (lz_Ok_none _ _) ?_
  refine lz_cons (k' := 1187) rfl (lk_iload_n X dL_isRefused_1186 rfl rfl) ?_
  refine lz_cons (k' := 1188) rfl (lk_if_eq X dL_isRefused_1187 (by decide) rfl) ?_
  refine lz_cons (k' := 1189) rfl (lz_Ok_none _ _) ?_
  refine lz_cons (k' := 1190) rfl (lz_Ok_none _ _) ?_
  refine lz_cons (k' := 1191) rfl (lk_bipush X dL_isRefused_1190 (by decide) rfl) ?_
  refine lz_cons (k' := 1192) rfl (lz_Ok_none _ _) ?_
  refine lz_cons (k' := 1193) rfl (lk_iload_n X dL_isRefused_1192 rfl rfl) ?_
  refine lz_cons (k' := 1194) rfl (lk_bipush X dL_isRefused_1193 (by decide) rfl) ?_
  refine lz_cons (k' := 1195) rfl (lz_Ok_none _ _) ?_
  refine lz_cons (k' := 1196) rfl (lk_irem X dL_isRefused_1195 rfl) ?_
  refine lz_cons (k' := 1197) rfl (lk_isub X dL_isRefused_1196 rfl) ?_
  refine lz_cons (k' := 1198) rfl (lk_goto X dL_isRefused_1197 (by decide)) ?_
  refine lz_cons (k' := 1199) rfl (lz_Ok_none _ _) ?_
  refine lz_cons (k' := 1200) rfl (lz_Ok_none _ _) ?_
  refine lz_cons (k' := 1201) rfl (lk_bipush X dL_isRefused_1200 (by decide) rfl) ?_
  refine lz_cons (k' := 1202) rfl (lz_Ok_none _ _) ?_
  refine lz_cons (k' := 1203) rfl (lk_iconst X dL_isRefused_1202 (by decide) rfl) ?_
  refine lz_cons (k' := 1204) rfl (lk_iconst X dL_isRefused_1203 (by decide) rfl) ?_
  refine lz_cons (k' := 1205) rfl (lk_iconst X dL_isRefused_1204 (by decide) rfl) ?_
  refine lz_cons (k' := 1206) rfl (lk_iconst X dL_isRefused_1205 (by decide) rfl) ?_
  refine lz_cons (k' := 1207) rfl (lk_calls X kl_168 (mm_L_act Wd) (by decide) dL_isRefused_1206 rfl) ?_
  refine lz_cons (k' := 1208) rfl (lz_Ok_none _ _) ?_
  refine lz_cons (k' := 1209) rfl (lz_Ok_none _ _) ?_
  refine lz_cons (k' := 1210) rfl (lk_sipush X dL_isRefused_1209 (by decide) rfl) ?_
  refine lz_cons (k' := 1211) rfl (lz_Ok_none _ _) ?_
  refine lz_cons (k' := 1212) rfl (lz_Ok_none _ _) ?_
  refine lz_cons (k' := 1213) rfl (lk_icmp_ne X dL_isRefused_1212 (by decide) rfl) ?_
  refine lz_cons (k' := 1214) rfl (lz_Ok_none _ _) ?_
  refine lz_cons (k' := 1215) rfl (lz_Ok_none _ _) ?_
  refine lz_cons (k' := 1216) rfl (lk_goto X dL_isRefused_1215 (by decide)) ?_
  refine lz_cons (k' := 1217) rfl (lz_Ok_none _ _) ?_
  refine lz_cons (k' := 1218) rfl (lz_Ok_none _ _) ?_
  refine lz_cons (k' := 1219) rfl (lk_aload_n X dL_isRefused_1218 rfl rfl) ?_
  refine lz_cons (k' := 1220) rfl (lk_iconst X dL_isRefused_1219 (by decide) rfl) ?_
  refine lz_cons (k' := 1221) rfl (lk_iconst X dL_isRefused_1220 (by decide) rfl) ?_
  refine lz_cons (k' := 1222) rfl (lk_iload X dL_isRefused_1221 rfl) ?_
  refine lz_cons (k' := 1223) rfl (lz_Ok_none _ _) ?_
  refine lz_cons (k' := 1224) rfl (lk_bipush X dL_isRefused_1223 (by decide) rfl) ?_
  refine lz_cons (k' := 1225) rfl (lz_Ok_none _ _) ?_
  refine lz_cons (k' := 1226) rfl (lk_iconst X dL_isRefused_1225 (by decide) rfl) ?_
  refine lz_cons (k' := 1227) rfl (lk_iconst X dL_isRefused_1226 (by decide) rfl) ?_
  refine lz_cons (k' := 1228) rfl (lk_iconst X dL_isRefused_1227 (by decide) rfl) ?_
  refine lz_cons (k' := 1229) rfl (lk_calls X kl_168 (mm_L_act Wd) (by decide) dL_isRefused_1228 rfl) ?_
  refine lz_cons (k' := 1230) rfl (lz_Ok_none _ _) ?_
  refine lz_cons (k' := 1231) rfl (lz_Ok_none _ _) ?_
  refine lz_cons (k' := 1232) rfl (lk_sipush X dL_isRefused_1231 (by decide) rfl) ?_
  refine lz_cons (k' := 1233) rfl (lz_Ok_none _ _) ?_
  refine lz_cons (k' := 1234) rfl (lz_Ok_none _ _) ?_
  refine lz_cons (k' := 1235) rfl (lk_icmp_ne X dL_isRefused_1234 (by decide) rfl) ?_
  refine lz_cons (k' := 1236) rfl (lz_Ok_none _ _) ?_
  refine lz_cons (k' := 1237) rfl (lz_Ok_none _ _) ?_
  refine lz_cons (k' := 1238) rfl (lk_aload_n X dL_isRefused_1237 rfl rfl) ?_
  refine lz_cons (k' := 1239) rfl (lk_bipush X dL_isRefused_1238 (by decide) rfl) ?_
  refine lz_cons (k' := 1240) rfl (lz_Ok_none _ _) ?_
  refine lz_cons (k' := 1241) rfl (lk_iload X dL_isRefused_1240 rfl) ?_
  refine lz_cons (k' := 1242) rfl (lz_Ok_none _ _) ?_
  refine lz_cons (k' := 1243) rfl (lk_iconst X dL_isRefused_1242 (by decide) rfl) ?_
  refine lz_cons (k' := 1244) rfl (lk_iconst X dL_isRefused_1243 (by decide) rfl) ?_
  refine lz_cons (k' := 1245) rfl (lk_iconst X dL_isRefused_1244 (by decide) rfl) ?_
  refine lz_cons (k' := 1246) rfl (lk_iconst X dL_isRefused_1245 (by decide) rfl) ?_
  refine lz_cons (k' := 1247) rfl (lk_iconst X dL_isRefused_1246 (by decide) rfl) ?_
  refine lz_cons (k' := 1248) rfl (lk_calls X kl_168 (mm_L_act Wd) (by decide) dL_isRefused_1247 rfl) ?_
  refine lz_cons (k' := 1249) rfl (lz_Ok_none _ _) ?_
  refine lz_cons (k' := 1250) rfl (lz_Ok_none _ _) ?_
  refine lz_cons (k' := 1251) rfl (lk_sipush X dL_isRefused_1250 (by decide) rfl) ?_
  refine lz_cons (k' := 1252) rfl (lz_Ok_none _ _) ?_
  refine lz_cons (k' := 1253) rfl (lz_Ok_none _ _) ?_
  refine lz_cons (k' := 1254) rfl (lk_icmp_ne X dL_isRefused_1253 (by decide) rfl) ?_
  refine lz_cons (k' := 1255) rfl (lz_Ok_none _ _) ?_
  refine lz_cons (k' := 1256) rfl (lz_Ok_none _ _) ?_
  refine lz_cons (k' := 1257) rfl (lk_aload_n X dL_isRefused_1256 rfl rfl) ?_
  refine lz_cons (k' := 1258) rfl (lk_iload X dL_isRefused_1257 rfl) ?_
  refine lz_cons (k' := 1259) rfl (lz_Ok_none _ _) ?_
  refine lz_cons (k' := 1260) rfl (lk_callv X kc_98 (mm_X11_goingOf Wd.1) (by decide) dL_isRefused_1259 rfl) ?_
  refine lz_cons (k' := 1261) rfl (lz_Ok_none _ _) ?_
  refine lz_cons (k' := 1262) rfl (lz_Ok_none _ _) ?_
  refine lz_cons (k' := 1263) rfl (lk_if_eq X dL_isRefused_1262 (by decide) rfl) ?_
  refine lz_cons (k' := 1264) rfl (lz_Ok_none _ _) ?_
  refine lz_cons (k' := 1265) rfl (lz_Ok_none _ _) ?_
  refine lz_cons (k' := 1266) rfl (lk_aload_n X dL_isRefused_1265 rfl rfl) ?_
  refine lz_cons (k' := 1267) rfl (lk_iconst X dL_isRefused_1266 (by decide) rfl) ?_
  refine lz_cons (k' := 1268) rfl (lk_iload X dL_isRefused_1267 rfl) ?_
  refine lz_cons (k' := 1269) rfl (lz_Ok_none _ _) ?_
  refine lz_cons (k' := 1270) rfl (lk_iconst X dL_isRefused_1269 (by decide) rfl) ?_
  refine lz_cons (k' := 1271) rfl (lk_iload_n X dL_isRefused_1270 rfl rfl) ?_
  refine lz_cons (k' := 1272) rfl (lk_iconst X dL_isRefused_1271 (by decide) rfl) ?_
  refine lz_cons (k' := 1273) rfl (lk_irem X dL_isRefused_1272 rfl) ?_
  refine lz_cons (k' := 1274) rfl (lk_iadd X dL_isRefused_1273 rfl) ?_
  refine lz_cons (k' := 1275) rfl (lk_iconst X dL_isRefused_1274 (by decide) rfl) ?_
  refine lz_cons (k' := 1276) rfl (lk_iconst X dL_isRefused_1275 (by decide) rfl) ?_
  refine lz_cons (k' := 1277) rfl (lk_iconst X dL_isRefused_1276 (by decide) rfl) ?_
  refine lz_cons (k' := 1278) rfl (lk_iconst X dL_isRefused_1277 (by decide) rfl) ?_
  refine lz_cons (k' := 1279) rfl (lk_calls X kl_168 (mm_L_act Wd) (by decide) dL_isRefused_1278 rfl) ?_
  refine lz_cons (k' := 1280) rfl (lz_Ok_none _ _) ?_
  refine lz_cons (k' := 1281) rfl (lz_Ok_none _ _) ?_
  refine lz_cons (k' := 1282) rfl (lk_sipush X dL_isRefused_1281 (by decide) rfl) ?_
  refine lz_cons (k' := 1283) rfl (lz_Ok_none _ _) ?_
  refine lz_cons (k' := 1284) rfl (lz_Ok_none _ _) ?_
  refine lz_cons (k' := 1285) rfl (lk_icmp_ne X dL_isRefused_1284 (by decide) rfl) ?_
  refine lz_cons (k' := 1286) rfl (lz_Ok_none _ _) ?_
  refine lz_cons (k' := 1287) rfl (lz_Ok_none _ _) ?_
  refine lz_cons (k' := 1288) rfl (lk_aload_n X dL_isRefused_1287 rfl rfl) ?_
  refine lz_cons (k' := 1289) rfl (lk_iload X dL_isRefused_1288 rfl) ?_
  refine lz_cons (k' := 1290) rfl (lz_Ok_none _ _) ?_
  refine lz_cons (k' := 1291) rfl (lk_callv X kc_98 (mm_X11_goingOf Wd.1) (by decide) dL_isRefused_1290 rfl) ?_
  refine lz_cons (k' := 1292) rfl (lz_Ok_none _ _) ?_
  refine lz_cons (k' := 1293) rfl (lz_Ok_none _ _) ?_
  refine lz_cons (k' := 1294) rfl (lk_iconst X dL_isRefused_1293 (by decide) rfl) ?_
  refine lz_cons (k' := 1295) rfl (lk_icmp_lt X dL_isRefused_1294 (by decide) rfl) ?_
  refine lz_cons (k' := 1296) rfl (lz_Ok_none _ _) ?_
  refine lz_cons (k' := 1297) rfl (lz_Ok_none _ _) ?_
  refine lz_cons (k' := 1298) rfl (lk_aload_n X dL_isRefused_1297 rfl rfl) ?_
  refine lz_cons (k' := 1299) rfl (lk_iconst X dL_isRefused_1298 (by decide) rfl) ?_
  refine lz_cons (k' := 1300) rfl (lk_iload X dL_isRefused_1299 rfl) ?_
  refine lz_cons (k' := 1301) rfl (lz_Ok_none _ _) ?_
  refine lz_cons (k' := 1302) rfl (lk_iconst X dL_isRefused_1301 (by decide) rfl) ?_
  refine lz_cons (k' := 1303) rfl (lk_iconst X dL_isRefused_1302 (by decide) rfl) ?_
  refine lz_cons (k' := 1304) rfl (lk_iconst X dL_isRefused_1303 (by decide) rfl) ?_
  refine lz_cons (k' := 1305) rfl (lk_iconst X dL_isRefused_1304 (by decide) rfl) ?_
  refine lz_cons (k' := 1306) rfl (lk_iconst X dL_isRefused_1305 (by decide) rfl) ?_
  refine lz_cons (k' := 1307) rfl (lk_calls X kl_168 (mm_L_act Wd) (by decide) dL_isRefused_1306 rfl) ?_
  refine lz_cons (k' := 1308) rfl (lz_Ok_none _ _) ?_
  refine lz_cons (k' := 1309) rfl (lz_Ok_none _ _) ?_
  refine lz_cons (k' := 1310) rfl (lk_sipush X dL_isRefused_1309 (by decide) rfl) ?_
  refine lz_cons (k' := 1311) rfl (lz_Ok_none _ _) ?_
  refine lz_cons (k' := 1312) rfl (lz_Ok_none _ _) ?_
  refine lz_cons (k' := 1313) rfl (lk_icmp_ne X dL_isRefused_1312 (by decide) rfl) ?_
  refine lz_cons (k' := 1314) rfl (lz_Ok_none _ _) ?_
  refine lz_cons (k' := 1315) rfl (lz_Ok_none _ _) ?_
  refine lz_cons (k' := 1316) rfl (lk_aload_n X dL_isRefused_1315 rfl rfl) ?_
  refine lz_cons (k' := 1317) rfl (lk_iconst X dL_isRefused_1316 (by decide) rfl) ?_
  refine lz_cons (k' := 1318) rfl (lk_iconst X dL_isRefused_1317 (by decide) rfl) ?_
  refine lz_cons (k' := 1319) rfl (lk_iload X dL_isRefused_1318 rfl) ?_
  refine lz_cons (k' := 1320) rfl (lz_Ok_none _ _) ?_
  refine lz_cons (k' := 1321) rfl (lk_iload X dL_isRefused_1320 rfl) ?_
  refine lz_cons (k' := 1322) rfl (lz_Ok_none _ _) ?_
  refine lz_cons (k' := 1323) rfl (lk_iconst X dL_isRefused_1322 (by decide) rfl) ?_
  refine lz_cons (k' := 1324) rfl (lk_iconst X dL_isRefused_1323 (by decide) rfl) ?_
  refine lz_cons (k' := 1325) rfl (lk_iconst X dL_isRefused_1324 (by decide) rfl) ?_
  refine lz_cons (k' := 1326) rfl (lk_calls X kl_168 (mm_L_act Wd) (by decide) dL_isRefused_1325 rfl) ?_
  refine lz_cons (k' := 1327) rfl (lz_Ok_none _ _) ?_
  refine lz_cons (k' := 1328) rfl (lz_Ok_none _ _) ?_
  refine lz_cons (k' := 1329) rfl (lk_sipush X dL_isRefused_1328 (by decide) rfl) ?_
  refine lz_cons (k' := 1330) rfl (lz_Ok_none _ _) ?_
  refine lz_cons (k' := 1331) rfl (lz_Ok_none _ _) ?_
  refine lz_cons (k' := 1332) rfl (lk_icmp_ne X dL_isRefused_1331 (by decide) rfl) ?_
  refine lz_cons (k' := 1333) rfl (lz_Ok_none _ _) ?_
  refine lz_cons (k' := 1334) rfl (lz_Ok_none _ _) ?_
  refine lz_cons (k' := 1335) rfl (lk_iconst X dL_isRefused_1334 (by decide) rfl) ?_
  refine lz_cons (k' := 1336) rfl (lk_goto X dL_isRefused_1335 (by decide)) ?_
  refine lz_cons (k' := 1337) rfl (lz_Ok_none _ _) ?_
  refine lz_cons (k' := 1338) rfl (lz_Ok_none _ _) ?_
  refine lz_cons (k' := 1339) rfl (lk_iconst X dL_isRefused_1338 (by decide) rfl) ?_
  refine lz_cons (k' := 1340) rfl (lk_istore X dL_isRefused_1339 (by decide) rfl) ?_
  refine lz_cons (k' := 1341) rfl (lz_Ok_none _ _) ?_
  refine lz_cons (k' := 1342) rfl (lk_iinc X dL_isRefused_1341 (by decide) (by decide) rfl) ?_
  refine lz_cons (k' := 1343) rfl (lz_Ok_none _ _) ?_
  refine lz_cons (k' := 1344) rfl (lz_Ok_none _ _) ?_
  refine lz_cons (k' := 1345) rfl (lk_goto X dL_isRefused_1344 (by decide)) ?_
  refine lz_cons (k' := 1346) rfl (lz_Ok_none _ _) ?_
  refine lz_cons (k' := 1347) rfl (lz_Ok_none _ _) ?_
  refine lz_cons (k' := 1348) rfl (lk_iload X dL_isRefused_1347 rfl) ?_
  refine lz_cons (k' := 1349) rfl (lz_Ok_none _ _) ?_
  refine lz_cons (k' := 1350) rfl (lk_if_eq X dL_isRefused_1349 (by decide) rfl) ?_
  refine lz_cons (k' := 1351) rfl (lz_Ok_none _ _) ?_
  refine lz_cons (k' := 1352) rfl (lz_Ok_none _ _) ?_
  refine lz_cons (k' := 1353) rfl (lk_aload_n X dL_isRefused_1352 rfl rfl) ?_
  refine lz_cons (k' := 1354) rfl (lk_calls X kl_172 (mm_L_all Wd) (by decide) dL_isRefused_1353 rfl) ?_
  refine lz_cons (k' := 1355) rfl (lz_Ok_none _ _) ?_
  refine lz_cons (k' := 1356) rfl (lz_Ok_none _ _) ?_
  refine lz_cons (k' := 1357) rfl (lk_lload X dL_isRefused_1356 rfl) ?_
  refine lz_cons (k' := 1358) rfl (lz_Ok_none _ _) ?_
  refine lz_cons (k' := 1359) rfl (lk_lcmp X dL_isRefused_1358 rfl) ?_
  refine lz_cons (k' := 1360) rfl (lk_if_ne X dL_isRefused_1359 (by decide) rfl) ?_
  refine lz_cons (k' := 1361) rfl (lz_Ok_none _ _) ?_
  refine lz_cons (k' := 1362) rfl (lz_Ok_none _ _) ?_
  refine lz_cons (k' := 1363) rfl (lk_iconst X dL_isRefused_1362 (by decide) rfl) ?_
  refine lz_cons (k' := 1364) rfl (lk_goto X dL_isRefused_1363 (by decide)) ?_
  refine lz_cons (k' := 1365) rfl (lz_Ok_none _ _) ?_
  refine lz_cons (k' := 1366) rfl (lz_Ok_none _ _) ?_
  refine lz_cons (k' := 1367) rfl (lk_iconst X dL_isRefused_1366 (by decide) rfl) ?_
  refine lz_cons (k' := 1368) rfl (lk_iret X rfl dL_isRefused_1367) ?_
  exact trivial
end
