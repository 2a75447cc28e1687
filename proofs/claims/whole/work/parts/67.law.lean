/-! THE LAW'S LOOP: a call is made on both, both answer alike -/
section LDS
variable {o : ai_S} {d : Nat} {st : List Value} {r : Option Value × ai_W} {j : Nat} {m : Nat → Nat → Int32} {lg : Nat → Nat → Int64} {a0 a1 a2 a3 : Value}
theorem f_L_28 (hj : j < o.1 0) (hl : o.1 0 ≤ 1000) : Rn o d zL_law 28 [a0, a1, a2, a3] (.int (nI j) :: .ref ai_O :: st) (ai_w m lg) r = Rn o d zL_law 29 [a0, a1, a2, a3] (.int (o.2 0 j) :: st) (ai_w m lg) r := e_L_law_28_o (k := 0) (by decide) hj hl
theorem f_L_161 (hj : j < o.1 0) (hl : o.1 0 ≤ 1000) : Rn o d zL_law 161 [a0, a1, a2, a3] (.int (nI j) :: .ref ai_O :: st) (ai_w m lg) r = Rn o d zL_law 162 [a0, a1, a2, a3] (.int (o.2 0 j) :: st) (ai_w m lg) r := e_L_law_161_o (k := 0) (by decide) hj hl
theorem f_L_170 (hj : j < o.1 0) (hl : o.1 0 ≤ 1000) : Rn o d zL_law 170 [a0, a1, a2, a3] (.int (nI j) :: .ref ai_O :: st) (ai_w m lg) r = Rn o d zL_law 171 [a0, a1, a2, a3] (.int (o.2 0 j) :: st) (ai_w m lg) r := e_L_law_170_o (k := 0) (by decide) hj hl
theorem f_L_223 (hj : j < o.1 0) (hl : o.1 0 ≤ 1000) : Rn o d zL_law 223 [a0, a1, a2, a3] (.int (nI j) :: .ref ai_O :: st) (ai_w m lg) r = Rn o d zL_law 224 [a0, a1, a2, a3] (.int (o.2 0 j) :: st) (ai_w m lg) r := e_L_law_223_o (k := 0) (by decide) hj hl
theorem f_L_232 (hj : j < o.1 0) (hl : o.1 0 ≤ 1000) : Rn o d zL_law 232 [a0, a1, a2, a3] (.int (nI j) :: .ref ai_O :: st) (ai_w m lg) r = Rn o d zL_law 233 [a0, a1, a2, a3] (.int (o.2 0 j) :: st) (ai_w m lg) r := e_L_law_232_o (k := 0) (by decide) hj hl
theorem f_L_246 (hj : j < o.1 0) (hl : o.1 0 ≤ 1000) : Rn o d zL_law 246 [a0, a1, a2, a3] (.int (nI j) :: .ref ai_O :: st) (ai_w m lg) r = Rn o d zL_law 247 [a0, a1, a2, a3] (.int (o.2 0 j) :: st) (ai_w m lg) r := e_L_law_246_o (k := 0) (by decide) hj hl
theorem f_L_251 (hj : j < o.1 0) (hl : o.1 0 ≤ 1000) : Rn o d zL_law 251 [a0, a1, a2, a3] (.int (nI j) :: .ref ai_O :: st) (ai_w m lg) r = Rn o d zL_law 252 [a0, a1, a2, a3] (.int (o.2 0 j) :: st) (ai_w m lg) r := e_L_law_251_o (k := 0) (by decide) hj hl
theorem f_L_260 (hj : j < o.1 0) (hl : o.1 0 ≤ 1000) : Rn o d zL_law 260 [a0, a1, a2, a3] (.int (nI j) :: .ref ai_O :: st) (ai_w m lg) r = Rn o d zL_law 261 [a0, a1, a2, a3] (.int (o.2 0 j) :: st) (ai_w m lg) r := e_L_law_260_o (k := 0) (by decide) hj hl
theorem f_L_265 (hj : j < o.1 0) (hl : o.1 0 ≤ 1000) : Rn o d zL_law 265 [a0, a1, a2, a3] (.int (nI j) :: .ref ai_O :: st) (ai_w m lg) r = Rn o d zL_law 266 [a0, a1, a2, a3] (.int (o.2 0 j) :: st) (ai_w m lg) r := e_L_law_265_o (k := 0) (by decide) hj hl
theorem f_L_279 (hj : j < o.1 0) (hl : o.1 0 ≤ 1000) : Rn o d zL_law 279 [a0, a1, a2, a3] (.int (nI j) :: .ref ai_O :: st) (ai_w m lg) r = Rn o d zL_law 280 [a0, a1, a2, a3] (.int (o.2 0 j) :: st) (ai_w m lg) r := e_L_law_279_o (k := 0) (by decide) hj hl
theorem f_L_284 (hj : j < o.1 0) (hl : o.1 0 ≤ 1000) : Rn o d zL_law 284 [a0, a1, a2, a3] (.int (nI j) :: .ref ai_O :: st) (ai_w m lg) r = Rn o d zL_law 285 [a0, a1, a2, a3] (.int (o.2 0 j) :: st) (ai_w m lg) r := e_L_law_284_o (k := 0) (by decide) hj hl
theorem f_L_293 (hj : j < o.1 0) (hl : o.1 0 ≤ 1000) : Rn o d zL_law 293 [a0, a1, a2, a3] (.int (nI j) :: .ref ai_O :: st) (ai_w m lg) r = Rn o d zL_law 294 [a0, a1, a2, a3] (.int (o.2 0 j) :: st) (ai_w m lg) r := e_L_law_293_o (k := 0) (by decide) hj hl
theorem f_L_298 (hj : j < o.1 0) (hl : o.1 0 ≤ 1000) : Rn o d zL_law 298 [a0, a1, a2, a3] (.int (nI j) :: .ref ai_O :: st) (ai_w m lg) r = Rn o d zL_law 299 [a0, a1, a2, a3] (.int (o.2 0 j) :: st) (ai_w m lg) r := e_L_law_298_o (k := 0) (by decide) hj hl
theorem f_L_325 (hj : j < o.1 0) (hl : o.1 0 ≤ 1000) : Rn o d zL_law 325 [a0, a1, a2, a3] (.int (nI j) :: .ref ai_O :: st) (ai_w m lg) r = Rn o d zL_law 326 [a0, a1, a2, a3] (.int (o.2 0 j) :: st) (ai_w m lg) r := e_L_law_325_o (k := 0) (by decide) hj hl
theorem f_L_330 (hj : j < o.1 0) (hl : o.1 0 ≤ 1000) : Rn o d zL_law 330 [a0, a1, a2, a3] (.int (nI j) :: .ref ai_O :: st) (ai_w m lg) r = Rn o d zL_law 331 [a0, a1, a2, a3] (.int (o.2 0 j) :: st) (ai_w m lg) r := e_L_law_330_o (k := 0) (by decide) hj hl
theorem f_L_339 (hj : j < o.1 0) (hl : o.1 0 ≤ 1000) : Rn o d zL_law 339 [a0, a1, a2, a3] (.int (nI j) :: .ref ai_O :: st) (ai_w m lg) r = Rn o d zL_law 340 [a0, a1, a2, a3] (.int (o.2 0 j) :: st) (ai_w m lg) r := e_L_law_339_o (k := 0) (by decide) hj hl
theorem f_L_344 (hj : j < o.1 0) (hl : o.1 0 ≤ 1000) : Rn o d zL_law 344 [a0, a1, a2, a3] (.int (nI j) :: .ref ai_O :: st) (ai_w m lg) r = Rn o d zL_law 345 [a0, a1, a2, a3] (.int (o.2 0 j) :: st) (ai_w m lg) r := e_L_law_344_o (k := 0) (by decide) hj hl
theorem f_L_358 (hj : j < o.1 0) (hl : o.1 0 ≤ 1000) : Rn o d zL_law 358 [a0, a1, a2, a3] (.int (nI j) :: .ref ai_O :: st) (ai_w m lg) r = Rn o d zL_law 359 [a0, a1, a2, a3] (.int (o.2 0 j) :: st) (ai_w m lg) r := e_L_law_358_o (k := 0) (by decide) hj hl
theorem f_L_367 (hj : j < o.1 0) (hl : o.1 0 ≤ 1000) : Rn o d zL_law 367 [a0, a1, a2, a3] (.int (nI j) :: .ref ai_O :: st) (ai_w m lg) r = Rn o d zL_law 368 [a0, a1, a2, a3] (.int (o.2 0 j) :: st) (ai_w m lg) r := e_L_law_367_o (k := 0) (by decide) hj hl
theorem f_L_394 (hj : j < o.1 0) (hl : o.1 0 ≤ 1000) : Rn o d zL_law 394 [a0, a1, a2, a3] (.int (nI j) :: .ref ai_O :: st) (ai_w m lg) r = Rn o d zL_law 395 [a0, a1, a2, a3] (.int (o.2 0 j) :: st) (ai_w m lg) r := e_L_law_394_o (k := 0) (by decide) hj hl
theorem f_L_399 (hj : j < o.1 0) (hl : o.1 0 ≤ 1000) : Rn o d zL_law 399 [a0, a1, a2, a3] (.int (nI j) :: .ref ai_O :: st) (ai_w m lg) r = Rn o d zL_law 400 [a0, a1, a2, a3] (.int (o.2 0 j) :: st) (ai_w m lg) r := e_L_law_399_o (k := 0) (by decide) hj hl
theorem f_L_408 (hj : j < o.1 0) (hl : o.1 0 ≤ 1000) : Rn o d zL_law 408 [a0, a1, a2, a3] (.int (nI j) :: .ref ai_O :: st) (ai_w m lg) r = Rn o d zL_law 409 [a0, a1, a2, a3] (.int (o.2 0 j) :: st) (ai_w m lg) r := e_L_law_408_o (k := 0) (by decide) hj hl
theorem f_L_413 (hj : j < o.1 0) (hl : o.1 0 ≤ 1000) : Rn o d zL_law 413 [a0, a1, a2, a3] (.int (nI j) :: .ref ai_O :: st) (ai_w m lg) r = Rn o d zL_law 414 [a0, a1, a2, a3] (.int (o.2 0 j) :: st) (ai_w m lg) r := e_L_law_413_o (k := 0) (by decide) hj hl
theorem f_L_427 (hj : j < o.1 0) (hl : o.1 0 ≤ 1000) : Rn o d zL_law 427 [a0, a1, a2, a3] (.int (nI j) :: .ref ai_O :: st) (ai_w m lg) r = Rn o d zL_law 428 [a0, a1, a2, a3] (.int (o.2 0 j) :: st) (ai_w m lg) r := e_L_law_427_o (k := 0) (by decide) hj hl
theorem f_L_432 (hj : j < o.1 0) (hl : o.1 0 ≤ 1000) : Rn o d zL_law 432 [a0, a1, a2, a3] (.int (nI j) :: .ref ai_O :: st) (ai_w m lg) r = Rn o d zL_law 433 [a0, a1, a2, a3] (.int (o.2 0 j) :: st) (ai_w m lg) r := e_L_law_432_o (k := 0) (by decide) hj hl
theorem f_L_441 (hj : j < o.1 0) (hl : o.1 0 ≤ 1000) : Rn o d zL_law 441 [a0, a1, a2, a3] (.int (nI j) :: .ref ai_O :: st) (ai_w m lg) r = Rn o d zL_law 442 [a0, a1, a2, a3] (.int (o.2 0 j) :: st) (ai_w m lg) r := e_L_law_441_o (k := 0) (by decide) hj hl
theorem f_L_446 (hj : j < o.1 0) (hl : o.1 0 ≤ 1000) : Rn o d zL_law 446 [a0, a1, a2, a3] (.int (nI j) :: .ref ai_O :: st) (ai_w m lg) r = Rn o d zL_law 447 [a0, a1, a2, a3] (.int (o.2 0 j) :: st) (ai_w m lg) r := e_L_law_446_o (k := 0) (by decide) hj hl
theorem f_L_460 (hj : j < o.1 0) (hl : o.1 0 ≤ 1000) : Rn o d zL_law 460 [a0, a1, a2, a3] (.int (nI j) :: .ref ai_O :: st) (ai_w m lg) r = Rn o d zL_law 461 [a0, a1, a2, a3] (.int (o.2 0 j) :: st) (ai_w m lg) r := e_L_law_460_o (k := 0) (by decide) hj hl
theorem f_L_465 (hj : j < o.1 0) (hl : o.1 0 ≤ 1000) : Rn o d zL_law 465 [a0, a1, a2, a3] (.int (nI j) :: .ref ai_O :: st) (ai_w m lg) r = Rn o d zL_law 466 [a0, a1, a2, a3] (.int (o.2 0 j) :: st) (ai_w m lg) r := e_L_law_465_o (k := 0) (by decide) hj hl
theorem f_L_474 (hj : j < o.1 0) (hl : o.1 0 ≤ 1000) : Rn o d zL_law 474 [a0, a1, a2, a3] (.int (nI j) :: .ref ai_O :: st) (ai_w m lg) r = Rn o d zL_law 475 [a0, a1, a2, a3] (.int (o.2 0 j) :: st) (ai_w m lg) r := e_L_law_474_o (k := 0) (by decide) hj hl
theorem f_L_479 (hj : j < o.1 0) (hl : o.1 0 ≤ 1000) : Rn o d zL_law 479 [a0, a1, a2, a3] (.int (nI j) :: .ref ai_O :: st) (ai_w m lg) r = Rn o d zL_law 480 [a0, a1, a2, a3] (.int (o.2 0 j) :: st) (ai_w m lg) r := e_L_law_479_o (k := 0) (by decide) hj hl
theorem f_L_493 (hj : j < o.1 0) (hl : o.1 0 ≤ 1000) : Rn o d zL_law 493 [a0, a1, a2, a3] (.int (nI j) :: .ref ai_O :: st) (ai_w m lg) r = Rn o d zL_law 494 [a0, a1, a2, a3] (.int (o.2 0 j) :: st) (ai_w m lg) r := e_L_law_493_o (k := 0) (by decide) hj hl
theorem f_L_502 (hj : j < o.1 0) (hl : o.1 0 ≤ 1000) : Rn o d zL_law 502 [a0, a1, a2, a3] (.int (nI j) :: .ref ai_O :: st) (ai_w m lg) r = Rn o d zL_law 503 [a0, a1, a2, a3] (.int (o.2 0 j) :: st) (ai_w m lg) r := e_L_law_502_o (k := 0) (by decide) hj hl
theorem f_L_516 (hj : j < o.1 0) (hl : o.1 0 ≤ 1000) : Rn o d zL_law 516 [a0, a1, a2, a3] (.int (nI j) :: .ref ai_O :: st) (ai_w m lg) r = Rn o d zL_law 517 [a0, a1, a2, a3] (.int (o.2 0 j) :: st) (ai_w m lg) r := e_L_law_516_o (k := 0) (by decide) hj hl
theorem f_L_533 (hj : j < o.1 0) (hl : o.1 0 ≤ 1000) : Rn o d zL_law 533 [a0, a1, a2, a3] (.int (nI j) :: .ref ai_O :: st) (ai_w m lg) r = Rn o d zL_law 534 [a0, a1, a2, a3] (.int (o.2 0 j) :: st) (ai_w m lg) r := e_L_law_533_o (k := 0) (by decide) hj hl
theorem f_L_555 (hj : j < o.1 0) (hl : o.1 0 ≤ 1000) : Rn o d zL_law 555 [a0, a1, a2, a3] (.int (nI j) :: .ref ai_O :: st) (ai_w m lg) r = Rn o d zL_law 556 [a0, a1, a2, a3] (.int (o.2 0 j) :: st) (ai_w m lg) r := e_L_law_555_o (k := 0) (by decide) hj hl
theorem f_L_560 (hj : j < o.1 0) (hl : o.1 0 ≤ 1000) : Rn o d zL_law 560 [a0, a1, a2, a3] (.int (nI j) :: .ref ai_O :: st) (ai_w m lg) r = Rn o d zL_law 561 [a0, a1, a2, a3] (.int (o.2 0 j) :: st) (ai_w m lg) r := e_L_law_560_o (k := 0) (by decide) hj hl
theorem f_L_569 (hj : j < o.1 0) (hl : o.1 0 ≤ 1000) : Rn o d zL_law 569 [a0, a1, a2, a3] (.int (nI j) :: .ref ai_O :: st) (ai_w m lg) r = Rn o d zL_law 570 [a0, a1, a2, a3] (.int (o.2 0 j) :: st) (ai_w m lg) r := e_L_law_569_o (k := 0) (by decide) hj hl
theorem f_L_584 (hj : j < o.1 0) (hl : o.1 0 ≤ 1000) : Rn o d zL_law 584 [a0, a1, a2, a3] (.int (nI j) :: .ref ai_O :: st) (ai_w m lg) r = Rn o d zL_law 585 [a0, a1, a2, a3] (.int (o.2 0 j) :: st) (ai_w m lg) r := e_L_law_584_o (k := 0) (by decide) hj hl
theorem f_L_589 (hj : j < o.1 0) (hl : o.1 0 ≤ 1000) : Rn o d zL_law 589 [a0, a1, a2, a3] (.int (nI j) :: .ref ai_O :: st) (ai_w m lg) r = Rn o d zL_law 590 [a0, a1, a2, a3] (.int (o.2 0 j) :: st) (ai_w m lg) r := e_L_law_589_o (k := 0) (by decide) hj hl
theorem f_L_598 (hj : j < o.1 0) (hl : o.1 0 ≤ 1000) : Rn o d zL_law 598 [a0, a1, a2, a3] (.int (nI j) :: .ref ai_O :: st) (ai_w m lg) r = Rn o d zL_law 599 [a0, a1, a2, a3] (.int (o.2 0 j) :: st) (ai_w m lg) r := e_L_law_598_o (k := 0) (by decide) hj hl
theorem f_L_618 (hj : j < o.1 0) (hl : o.1 0 ≤ 1000) : Rn o d zL_law 618 [a0, a1, a2, a3] (.int (nI j) :: .ref ai_O :: st) (ai_w m lg) r = Rn o d zL_law 619 [a0, a1, a2, a3] (.int (o.2 0 j) :: st) (ai_w m lg) r := e_L_law_618_o (k := 0) (by decide) hj hl
theorem f_L_623 (hj : j < o.1 0) (hl : o.1 0 ≤ 1000) : Rn o d zL_law 623 [a0, a1, a2, a3] (.int (nI j) :: .ref ai_O :: st) (ai_w m lg) r = Rn o d zL_law 624 [a0, a1, a2, a3] (.int (o.2 0 j) :: st) (ai_w m lg) r := e_L_law_623_o (k := 0) (by decide) hj hl
theorem f_L_640 (hj : j < o.1 0) (hl : o.1 0 ≤ 1000) : Rn o d zL_law 640 [a0, a1, a2, a3] (.int (nI j) :: .ref ai_O :: st) (ai_w m lg) r = Rn o d zL_law 641 [a0, a1, a2, a3] (.int (o.2 0 j) :: st) (ai_w m lg) r := e_L_law_640_o (k := 0) (by decide) hj hl
theorem f_L_645 (hj : j < o.1 0) (hl : o.1 0 ≤ 1000) : Rn o d zL_law 645 [a0, a1, a2, a3] (.int (nI j) :: .ref ai_O :: st) (ai_w m lg) r = Rn o d zL_law 646 [a0, a1, a2, a3] (.int (o.2 0 j) :: st) (ai_w m lg) r := e_L_law_645_o (k := 0) (by decide) hj hl
theorem f_L_667 (hj : j < o.1 0) (hl : o.1 0 ≤ 1000) : Rn o d zL_law 667 [a0, a1, a2, a3] (.int (nI j) :: .ref ai_O :: st) (ai_w m lg) r = Rn o d zL_law 668 [a0, a1, a2, a3] (.int (o.2 0 j) :: st) (ai_w m lg) r := e_L_law_667_o (k := 0) (by decide) hj hl
theorem f_L_672 (hj : j < o.1 0) (hl : o.1 0 ≤ 1000) : Rn o d zL_law 672 [a0, a1, a2, a3] (.int (nI j) :: .ref ai_O :: st) (ai_w m lg) r = Rn o d zL_law 673 [a0, a1, a2, a3] (.int (o.2 0 j) :: st) (ai_w m lg) r := e_L_law_672_o (k := 0) (by decide) hj hl
theorem f_L_677 (hj : j < o.1 0) (hl : o.1 0 ≤ 1000) : Rn o d zL_law 677 [a0, a1, a2, a3] (.int (nI j) :: .ref ai_O :: st) (ai_w m lg) r = Rn o d zL_law 678 [a0, a1, a2, a3] (.int (o.2 0 j) :: st) (ai_w m lg) r := e_L_law_677_o (k := 0) (by decide) hj hl
theorem f_L_686 (hj : j < o.1 0) (hl : o.1 0 ≤ 1000) : Rn o d zL_law 686 [a0, a1, a2, a3] (.int (nI j) :: .ref ai_O :: st) (ai_w m lg) r = Rn o d zL_law 687 [a0, a1, a2, a3] (.int (o.2 0 j) :: st) (ai_w m lg) r := e_L_law_686_o (k := 0) (by decide) hj hl
theorem f_L_691 (hj : j < o.1 0) (hl : o.1 0 ≤ 1000) : Rn o d zL_law 691 [a0, a1, a2, a3] (.int (nI j) :: .ref ai_O :: st) (ai_w m lg) r = Rn o d zL_law 692 [a0, a1, a2, a3] (.int (o.2 0 j) :: st) (ai_w m lg) r := e_L_law_691_o (k := 0) (by decide) hj hl
theorem f_L_696 (hj : j < o.1 0) (hl : o.1 0 ≤ 1000) : Rn o d zL_law 696 [a0, a1, a2, a3] (.int (nI j) :: .ref ai_O :: st) (ai_w m lg) r = Rn o d zL_law 697 [a0, a1, a2, a3] (.int (o.2 0 j) :: st) (ai_w m lg) r := e_L_law_696_o (k := 0) (by decide) hj hl
theorem f_L_723 (hj : j < o.1 0) (hl : o.1 0 ≤ 1000) : Rn o d zL_law 723 [a0, a1, a2, a3] (.int (nI j) :: .ref ai_O :: st) (ai_w m lg) r = Rn o d zL_law 724 [a0, a1, a2, a3] (.int (o.2 0 j) :: st) (ai_w m lg) r := e_L_law_723_o (k := 0) (by decide) hj hl
theorem f_L_732 (hj : j < o.1 0) (hl : o.1 0 ≤ 1000) : Rn o d zL_law 732 [a0, a1, a2, a3] (.int (nI j) :: .ref ai_O :: st) (ai_w m lg) r = Rn o d zL_law 733 [a0, a1, a2, a3] (.int (o.2 0 j) :: st) (ai_w m lg) r := e_L_law_732_o (k := 0) (by decide) hj hl
theorem f_L_746 (hj : j < o.1 0) (hl : o.1 0 ≤ 1000) : Rn o d zL_law 746 [a0, a1, a2, a3] (.int (nI j) :: .ref ai_O :: st) (ai_w m lg) r = Rn o d zL_law 747 [a0, a1, a2, a3] (.int (o.2 0 j) :: st) (ai_w m lg) r := e_L_law_746_o (k := 0) (by decide) hj hl
theorem f_L_751 (hj : j < o.1 0) (hl : o.1 0 ≤ 1000) : Rn o d zL_law 751 [a0, a1, a2, a3] (.int (nI j) :: .ref ai_O :: st) (ai_w m lg) r = Rn o d zL_law 752 [a0, a1, a2, a3] (.int (o.2 0 j) :: st) (ai_w m lg) r := e_L_law_751_o (k := 0) (by decide) hj hl
theorem f_L_756 (hj : j < o.1 0) (hl : o.1 0 ≤ 1000) : Rn o d zL_law 756 [a0, a1, a2, a3] (.int (nI j) :: .ref ai_O :: st) (ai_w m lg) r = Rn o d zL_law 757 [a0, a1, a2, a3] (.int (o.2 0 j) :: st) (ai_w m lg) r := e_L_law_756_o (k := 0) (by decide) hj hl
theorem f_L_765 (hj : j < o.1 0) (hl : o.1 0 ≤ 1000) : Rn o d zL_law 765 [a0, a1, a2, a3] (.int (nI j) :: .ref ai_O :: st) (ai_w m lg) r = Rn o d zL_law 766 [a0, a1, a2, a3] (.int (o.2 0 j) :: st) (ai_w m lg) r := e_L_law_765_o (k := 0) (by decide) hj hl
theorem f_L_770 (hj : j < o.1 0) (hl : o.1 0 ≤ 1000) : Rn o d zL_law 770 [a0, a1, a2, a3] (.int (nI j) :: .ref ai_O :: st) (ai_w m lg) r = Rn o d zL_law 771 [a0, a1, a2, a3] (.int (o.2 0 j) :: st) (ai_w m lg) r := e_L_law_770_o (k := 0) (by decide) hj hl
theorem f_L_775 (hj : j < o.1 0) (hl : o.1 0 ≤ 1000) : Rn o d zL_law 775 [a0, a1, a2, a3] (.int (nI j) :: .ref ai_O :: st) (ai_w m lg) r = Rn o d zL_law 776 [a0, a1, a2, a3] (.int (o.2 0 j) :: st) (ai_w m lg) r := e_L_law_775_o (k := 0) (by decide) hj hl
theorem f_L_789 (hj : j < o.1 0) (hl : o.1 0 ≤ 1000) : Rn o d zL_law 789 [a0, a1, a2, a3] (.int (nI j) :: .ref ai_O :: st) (ai_w m lg) r = Rn o d zL_law 790 [a0, a1, a2, a3] (.int (o.2 0 j) :: st) (ai_w m lg) r := e_L_law_789_o (k := 0) (by decide) hj hl
theorem f_L_794 (hj : j < o.1 0) (hl : o.1 0 ≤ 1000) : Rn o d zL_law 794 [a0, a1, a2, a3] (.int (nI j) :: .ref ai_O :: st) (ai_w m lg) r = Rn o d zL_law 795 [a0, a1, a2, a3] (.int (o.2 0 j) :: st) (ai_w m lg) r := e_L_law_794_o (k := 0) (by decide) hj hl
theorem f_L_799 (hj : j < o.1 0) (hl : o.1 0 ≤ 1000) : Rn o d zL_law 799 [a0, a1, a2, a3] (.int (nI j) :: .ref ai_O :: st) (ai_w m lg) r = Rn o d zL_law 800 [a0, a1, a2, a3] (.int (o.2 0 j) :: st) (ai_w m lg) r := e_L_law_799_o (k := 0) (by decide) hj hl
theorem f_L_816 (hj : j < o.1 0) (hl : o.1 0 ≤ 1000) : Rn o d zL_law 816 [a0, a1, a2, a3] (.int (nI j) :: .ref ai_O :: st) (ai_w m lg) r = Rn o d zL_law 817 [a0, a1, a2, a3] (.int (o.2 0 j) :: st) (ai_w m lg) r := e_L_law_816_o (k := 0) (by decide) hj hl
theorem f_L_821 (hj : j < o.1 0) (hl : o.1 0 ≤ 1000) : Rn o d zL_law 821 [a0, a1, a2, a3] (.int (nI j) :: .ref ai_O :: st) (ai_w m lg) r = Rn o d zL_law 822 [a0, a1, a2, a3] (.int (o.2 0 j) :: st) (ai_w m lg) r := e_L_law_821_o (k := 0) (by decide) hj hl
theorem f_L_826 (hj : j < o.1 0) (hl : o.1 0 ≤ 1000) : Rn o d zL_law 826 [a0, a1, a2, a3] (.int (nI j) :: .ref ai_O :: st) (ai_w m lg) r = Rn o d zL_law 827 [a0, a1, a2, a3] (.int (o.2 0 j) :: st) (ai_w m lg) r := e_L_law_826_o (k := 0) (by decide) hj hl
theorem f_L_848 (hj : j < o.1 0) (hl : o.1 0 ≤ 1000) : Rn o d zL_law 848 [a0, a1, a2, a3] (.int (nI j) :: .ref ai_O :: st) (ai_w m lg) r = Rn o d zL_law 849 [a0, a1, a2, a3] (.int (o.2 0 j) :: st) (ai_w m lg) r := e_L_law_848_o (k := 0) (by decide) hj hl
theorem f_L_857 (hj : j < o.1 0) (hl : o.1 0 ≤ 1000) : Rn o d zL_law 857 [a0, a1, a2, a3] (.int (nI j) :: .ref ai_O :: st) (ai_w m lg) r = Rn o d zL_law 858 [a0, a1, a2, a3] (.int (o.2 0 j) :: st) (ai_w m lg) r := e_L_law_857_o (k := 0) (by decide) hj hl
theorem f_L_872 (hj : j < o.1 0) (hl : o.1 0 ≤ 1000) : Rn o d zL_law 872 [a0, a1, a2, a3] (.int (nI j) :: .ref ai_O :: st) (ai_w m lg) r = Rn o d zL_law 873 [a0, a1, a2, a3] (.int (o.2 0 j) :: st) (ai_w m lg) r := e_L_law_872_o (k := 0) (by decide) hj hl
theorem f_L_881 (hj : j < o.1 0) (hl : o.1 0 ≤ 1000) : Rn o d zL_law 881 [a0, a1, a2, a3] (.int (nI j) :: .ref ai_O :: st) (ai_w m lg) r = Rn o d zL_law 882 [a0, a1, a2, a3] (.int (o.2 0 j) :: st) (ai_w m lg) r := e_L_law_881_o (k := 0) (by decide) hj hl
theorem f_L_902 (hj : j < o.1 0) (hl : o.1 0 ≤ 1000) : Rn o d zL_law 902 [a0, a1, a2, a3] (.int (nI j) :: .ref ai_O :: st) (ai_w m lg) r = Rn o d zL_law 903 [a0, a1, a2, a3] (.int (o.2 0 j) :: st) (ai_w m lg) r := e_L_law_902_o (k := 0) (by decide) hj hl
theorem f_L_911 (hj : j < o.1 0) (hl : o.1 0 ≤ 1000) : Rn o d zL_law 911 [a0, a1, a2, a3] (.int (nI j) :: .ref ai_O :: st) (ai_w m lg) r = Rn o d zL_law 912 [a0, a1, a2, a3] (.int (o.2 0 j) :: st) (ai_w m lg) r := e_L_law_911_o (k := 0) (by decide) hj hl
theorem f_L_925 (hj : j < o.1 0) (hl : o.1 0 ≤ 1000) : Rn o d zL_law 925 [a0, a1, a2, a3] (.int (nI j) :: .ref ai_O :: st) (ai_w m lg) r = Rn o d zL_law 926 [a0, a1, a2, a3] (.int (o.2 0 j) :: st) (ai_w m lg) r := e_L_law_925_o (k := 0) (by decide) hj hl
theorem f_L_934 (hj : j < o.1 0) (hl : o.1 0 ≤ 1000) : Rn o d zL_law 934 [a0, a1, a2, a3] (.int (nI j) :: .ref ai_O :: st) (ai_w m lg) r = Rn o d zL_law 935 [a0, a1, a2, a3] (.int (o.2 0 j) :: st) (ai_w m lg) r := e_L_law_934_o (k := 0) (by decide) hj hl
theorem f_L_948 (hj : j < o.1 0) (hl : o.1 0 ≤ 1000) : Rn o d zL_law 948 [a0, a1, a2, a3] (.int (nI j) :: .ref ai_O :: st) (ai_w m lg) r = Rn o d zL_law 949 [a0, a1, a2, a3] (.int (o.2 0 j) :: st) (ai_w m lg) r := e_L_law_948_o (k := 0) (by decide) hj hl
theorem f_L_957 (hj : j < o.1 0) (hl : o.1 0 ≤ 1000) : Rn o d zL_law 957 [a0, a1, a2, a3] (.int (nI j) :: .ref ai_O :: st) (ai_w m lg) r = Rn o d zL_law 958 [a0, a1, a2, a3] (.int (o.2 0 j) :: st) (ai_w m lg) r := e_L_law_957_o (k := 0) (by decide) hj hl
end LDS
/-- nights are few -/
def nbN (N : Nat) (x : HS) (n : Nat) (A : Nat → HS) (kp : Nat → Bool) (K : Nat → HS) : Prop := x.2.2.2.2.2 ≤ N ∧ (∀ i, i < n → (A i).2.2.2.2.2 ≤ N) ∧ ∀ i, i < 2 → kp i = true → (K i).2.2.2.2.2 ≤ N
/-- class and reference are in one state, behind N calls -/
def JJ (N : Nat) (m : Nat → Nat → Int32) (lg : Nat → Nat → Int64) : Prop := ∃ tx p x n A kp K so sd, RC tx p x n A kp K so sd m lg ∧ RM tx p x n A kp K so sd m lg ∧ nbN N x n A kp K
section P67
variable {o : ai_S} {d t : Nat} {m m' : Nat → Nat → Int32} {lg lg' : Nat → Nat → Int64} {tx tx' : TX} {p p' : PT} {x x' : HS} {n n' : Nat} {A A' : Nat → HS} {kp kp' : Nat → Bool} {K K' : Nat → HS} {so so' : SO} {sd sd' : Int64} {N : Nat} {v : Option Value} {zC zM : ai_Mi} {LC LM : List Value}
theorem nbN.up (h : nbN N x n A kp K) : nbN (N + 1) x n A kp K := ⟨Nat.le_succ_of_le h.1, fun i hi => Nat.le_succ_of_le (h.2.1 i hi), fun i hi hk => Nat.le_succ_of_le (h.2.2 i hi hk)⟩
theorem nbN.push (h : nbN N x n A kp K) (hx : x'.2.2.2.2.2 ≤ N + 1) : nbN (N + 1) x' (min 14 (n + 1)) (pushA A x) kp K := by
  refine ⟨hx, fun i hi => ?_, fun i hi hk => Nat.le_succ_of_le (h.2.2 i hi hk)⟩
  unfold pushA
  split
  · exact Nat.le_succ_of_le h.1
  · exact Nat.le_succ_of_le (h.2.1 (i - 1) (by omega))
theorem RM.frC (h : RM tx p x n A kp K so sd m lg) (hf : FrC m m') : RM tx p x n A kp K so sd m' lg := by
  obtain ⟨⟨t1, t2, t3⟩, hp, hh, ⟨a1, a2, a3⟩, ⟨w1, w2⟩, ⟨s1, s2, s3⟩, h8⟩ := h
  have g : ∀ i, 133 ≤ i → m' i = m i := hf
  refine ⟨⟨t1, by rw [g 133 (by omega)]; exact t2, fun i hi => by rw [g 134 (by omega)]; exact t3 i hi⟩, hp.fr (by rw [g 133 (by omega)]) (by rw [g 133 (by omega)]) (by rw [g 133 (by omega)]) (g 135 (by omega)) (g 136 (by omega)) (g 137 (by omega)), by rw [g 141 (by omega)]; exact hh, ⟨a1, by rw [g 133 (by omega)]; exact a2, fun i hi => by rw [g 143 (by omega)]; exact a3 i hi⟩, ⟨fun i hi => by rw [g 145 (by omega)]; exact w1 i hi, fun i hi hk => by rw [g 144 (by omega)]; exact w2 i hi hk⟩, ⟨s1, by rw [g 133 (by omega)]; exact s2, fun i hi => by rw [g 146 (by omega), g 147 (by omega), g 148 (by omega)]; exact s3 i hi⟩, h8⟩
theorem RC.frK (h : RC tx p x n A kp K so sd m lg) (hf : FrK m m') : RC tx p x n A kp K so sd m' lg := h.fr (fun i hi _ => hf i hi) rfl
theorem RC.lgq (h : RC tx p x n A kp K so sd m lg) (hl : lg' 0 11 = lg 0 11) : RC tx p x n A kp K so sd m lg' := h.fr (fun _ _ _ => rfl) hl
theorem st_op (h : RM tx p x n A kp K so sd m lg) (hC : ∃ m', RC tx' p' x' n' A' kp' K' so' sd' m' lg ∧ FrC m m' ∧ Ev o d zC LC (ai_w m lg) v (ai_w m' lg)) (hM : ∀ m1, RM tx p x n A kp K so sd m1 lg → ∃ m', RM tx' p' x' n' A' kp' K' so' sd' m' lg ∧ FrK m1 m' ∧ Ev o d zM LM (ai_w m1 lg) v (ai_w m' lg)) : ∃ m1 m2, RC tx' p' x' n' A' kp' K' so' sd' m2 lg ∧ RM tx' p' x' n' A' kp' K' so' sd' m2 lg ∧ Ev o d zC LC (ai_w m lg) v (ai_w m1 lg) ∧ Ev o d zM LM (ai_w m1 lg) v (ai_w m2 lg) := by
  obtain ⟨m1, a1, a2, a3⟩ := hC
  obtain ⟨m2, b1, b2, b3⟩ := hM m1 (h.frC a2)
  exact ⟨m1, m2, a1.frK b2, b1, a3, b3⟩
theorem lo_0 (ho : oOk o) (hl : o.1 0 ≤ 256) (ht : 4 * t + 4 ≤ o.1 0) (hJ : JJ t m lg) : ∃ m' lg', JJ (t + 1) m' lg' ∧ ∀ r, Rn o (d + 21) zL_law 156 [.ref ai_O, .ref 0, .ref 133, .int (nI (4 * t))] [] (ai_w m lg) r = Rn o (d + 21) zL_law 966 [.ref ai_O, .ref 0, .ref 133, .int (nI (4 * t))] [] (ai_w m' lg') r := by
  obtain ⟨tx, p, x, n, A, kp, K, so, sd, hC, hM, hN⟩ := hJ
  have j1 : 4 * t + 1 < o.1 0 := by omega
  have j2 : 4 * t + 2 < o.1 0 := by omega
  have j3 : 4 * t + 3 < o.1 0 := by omega
  have hl' : o.1 0 ≤ 1000 := by omega
  have hng : x.2.2.2.2.2 + 40 ≤ 1000 := by have := hN.1; omega
  obtain ⟨m1, m2, c, rm, e1, e2⟩ := st_op hM (s_X7_write (o := o) (d := d) (k := (o.2 0 (4 * t + 1))) hC ) (fun _ h => s_X8_write (o := o) (d := d) (k := (o.2 0 (4 * t + 1))) h )
  refine ⟨m2, lg, ⟨_, _, _, _, _, _, _, _, _, c, rm, hN.up⟩, fun r => ?_⟩
  simp only [e_L_law_156, e_L_law_157, e_L_law_158, e_L_law_159, e_L_law_160, e_L_law_161, e_L_law_165, e_L_law_166, e_L_law_167, e_L_law_168, e_L_law_169, e_L_law_170, e_L_law_174, e_L_law_177, e_L_law_178, eq_self, nI10, not_false_eq_true, not_true_eq_false, is2_i, is2_r, is2_n, nI_add, pk_mul, Nat.reduceAdd, Nat.reduceMul, f_L_161, f_L_170, j1, j2, j3, hl', e_L_law_162 (hE := e1), e_L_law_171 (hE := e2), if_true]
theorem lo_1 (ho : oOk o) (hl : o.1 0 ≤ 256) (ht : 4 * t + 4 ≤ o.1 0) (hJ : JJ t m lg) : ∃ m' lg', JJ (t + 1) m' lg' ∧ ∀ r, Rn o (d + 21) zL_law 179 [.ref ai_O, .ref 0, .ref 133, .int (nI (4 * t))] [] (ai_w m lg) r = Rn o (d + 21) zL_law 966 [.ref ai_O, .ref 0, .ref 133, .int (nI (4 * t))] [] (ai_w m' lg') r := by
  obtain ⟨tx, p, x, n, A, kp, K, so, sd, hC, hM, hN⟩ := hJ
  have j1 : 4 * t + 1 < o.1 0 := by omega
  have j2 : 4 * t + 2 < o.1 0 := by omega
  have j3 : 4 * t + 3 < o.1 0 := by omega
  have hl' : o.1 0 ≤ 1000 := by omega
  have hng : x.2.2.2.2.2 + 40 ≤ 1000 := by have := hN.1; omega
  obtain ⟨m1, m2, c, rm, e1, e2⟩ := st_op hM (s_X7_wipe (o := o) (d := d)  hC ) (fun _ h => s_X8_wipe (o := o) (d := d)  h )
  refine ⟨m2, lg, ⟨_, _, _, _, _, _, _, _, _, c, rm, hN.up⟩, fun r => ?_⟩
  simp only [e_L_law_179, e_L_law_183, e_L_law_187, e_L_law_190, e_L_law_191, eq_self, nI10, not_false_eq_true, not_true_eq_false, is2_i, is2_r, is2_n, nI_add, pk_mul, Nat.reduceAdd, Nat.reduceMul, j1, j2, j3, hl', e_L_law_180 (hE := e1), e_L_law_184 (hE := e2), if_true]
theorem lo_2 (ho : oOk o) (hl : o.1 0 ≤ 256) (ht : 4 * t + 4 ≤ o.1 0) (hJ : JJ t m lg) : ∃ m' lg', JJ (t + 1) m' lg' ∧ ∀ r, Rn o (d + 21) zL_law 192 [.ref ai_O, .ref 0, .ref 133, .int (nI (4 * t))] [] (ai_w m lg) r = Rn o (d + 21) zL_law 966 [.ref ai_O, .ref 0, .ref 133, .int (nI (4 * t))] [] (ai_w m' lg') r := by
  obtain ⟨tx, p, x, n, A, kp, K, so, sd, hC, hM, hN⟩ := hJ
  have j1 : 4 * t + 1 < o.1 0 := by omega
  have j2 : 4 * t + 2 < o.1 0 := by omega
  have j3 : 4 * t + 3 < o.1 0 := by omega
  have hl' : o.1 0 ≤ 1000 := by omega
  have hng : x.2.2.2.2.2 + 40 ≤ 1000 := by have := hN.1; omega
  obtain ⟨m1, m2, c, rm, e1, e2⟩ := st_op hM (s_X7_fault (o := o) (d := d)  hC ) (fun _ h => s_X8_fault (o := o) (d := d)  h )
  refine ⟨m2, lg, ⟨_, _, _, _, _, _, _, _, _, c, rm, hN.up⟩, fun r => ?_⟩
  simp only [e_L_law_192, e_L_law_196, e_L_law_200, e_L_law_203, e_L_law_204, eq_self, nI10, not_false_eq_true, not_true_eq_false, is2_i, is2_r, is2_n, nI_add, pk_mul, Nat.reduceAdd, Nat.reduceMul, j1, j2, j3, hl', e_L_law_193 (hE := e1), e_L_law_197 (hE := e2), if_true]
theorem lo_3 (ho : oOk o) (hl : o.1 0 ≤ 256) (ht : 4 * t + 4 ≤ o.1 0) (hJ : JJ t m lg) : ∃ m' lg', JJ (t + 1) m' lg' ∧ ∀ r, Rn o (d + 21) zL_law 205 [.ref ai_O, .ref 0, .ref 133, .int (nI (4 * t))] [] (ai_w m lg) r = Rn o (d + 21) zL_law 966 [.ref ai_O, .ref 0, .ref 133, .int (nI (4 * t))] [] (ai_w m' lg') r := by
  obtain ⟨tx, p, x, n, A, kp, K, so, sd, hC, hM, hN⟩ := hJ
  have j1 : 4 * t + 1 < o.1 0 := by omega
  have j2 : 4 * t + 2 < o.1 0 := by omega
  have j3 : 4 * t + 3 < o.1 0 := by omega
  have hl' : o.1 0 ≤ 1000 := by omega
  have hng : x.2.2.2.2.2 + 40 ≤ 1000 := by have := hN.1; omega
  cases hF : psFault tx with
  | some i =>
    obtain ⟨m1, m2, c, rm, e1, e2⟩ := st_op hM (s_X7_portF (o := o) (d := d) hC hF) (fun _ h => s_X8_portF (o := o) (d := d) h hF)
    refine ⟨m2, lg, ⟨_, _, _, _, _, _, _, _, _, c, rm, hN.up⟩, fun r => ?_⟩
    simp only [e_L_law_205, e_L_law_209, e_L_law_213, e_L_law_216, e_L_law_217, eq_self, nI10, not_false_eq_true, not_true_eq_false, is2_i, is2_r, is2_n, nI_add, pk_mul, Nat.reduceAdd, Nat.reduceMul, j1, j2, j3, hl', e_L_law_206 (hE := e1), e_L_law_210 (hE := e2), if_true]
  | none =>
    obtain ⟨m1, m2, c, rm, e1, e2⟩ := st_op hM (s_X7_portT (o := o) (d := d) hC hF) (fun _ h => s_X8_portT (o := o) (d := d) h hF)
    refine ⟨m2, lg, ⟨_, _, _, _, _, _, _, _, _, c, rm, ⟨Nat.zero_le _, fun i hi => absurd hi (Nat.not_lt_zero i), fun i hi hk => (by cases hk)⟩⟩, fun r => ?_⟩
    simp only [e_L_law_205, e_L_law_209, e_L_law_213, e_L_law_216, e_L_law_217, eq_self, nI10, not_false_eq_true, not_true_eq_false, is2_i, is2_r, is2_n, nI_add, pk_mul, Nat.reduceAdd, Nat.reduceMul, j1, j2, j3, hl', e_L_law_206 (hE := e1), e_L_law_210 (hE := e2), if_true]
theorem lo_4 (ho : oOk o) (hl : o.1 0 ≤ 256) (ht : 4 * t + 4 ≤ o.1 0) (hJ : JJ t m lg) : ∃ m' lg', JJ (t + 1) m' lg' ∧ ∀ r, Rn o (d + 21) zL_law 218 [.ref ai_O, .ref 0, .ref 133, .int (nI (4 * t))] [] (ai_w m lg) r = Rn o (d + 21) zL_law 966 [.ref ai_O, .ref 0, .ref 133, .int (nI (4 * t))] [] (ai_w m' lg') r := by
  obtain ⟨tx, p, x, n, A, kp, K, so, sd, hC, hM, hN⟩ := hJ
  have j1 : 4 * t + 1 < o.1 0 := by omega
  have j2 : 4 * t + 2 < o.1 0 := by omega
  have j3 : 4 * t + 3 < o.1 0 := by omega
  have hl' : o.1 0 ≤ 1000 := by omega
  have hng : x.2.2.2.2.2 + 40 ≤ 1000 := by have := hN.1; omega
  obtain ⟨m1, m2, c, rm, e1, e2⟩ := st_op hM (⟨m, hC, fun _ _ => rfl, s_X7_about (o := o) (d := d) (k := (o.2 0 (4 * t + 1))) hC ⟩) (fun _ h => s_X8_about (o := o) (d := d) (k := (o.2 0 (4 * t + 1))) h )
  refine ⟨m2, lg, ⟨_, _, _, _, _, _, _, _, _, c, rm, hN.up⟩, fun r => ?_⟩
  simp only [e_L_law_218, e_L_law_219, e_L_law_220, e_L_law_221, e_L_law_222, e_L_law_223, e_L_law_227, e_L_law_228, e_L_law_229, e_L_law_230, e_L_law_231, e_L_law_232, e_L_law_236, e_L_law_239, e_L_law_240, eq_self, nI10, not_false_eq_true, not_true_eq_false, is2_i, is2_r, is2_n, nI_add, pk_mul, Nat.reduceAdd, Nat.reduceMul, f_L_223, f_L_232, j1, j2, j3, hl', e_L_law_224 (hE := e1), e_L_law_233 (hE := e2), if_true]
theorem lo_5 (ho : oOk o) (hl : o.1 0 ≤ 256) (ht : 4 * t + 4 ≤ o.1 0) (hJ : JJ t m lg) : ∃ m' lg', JJ (t + 1) m' lg' ∧ ∀ r, Rn o (d + 21) zL_law 241 [.ref ai_O, .ref 0, .ref 133, .int (nI (4 * t))] [] (ai_w m lg) r = Rn o (d + 21) zL_law 966 [.ref ai_O, .ref 0, .ref 133, .int (nI (4 * t))] [] (ai_w m' lg') r := by
  obtain ⟨tx, p, x, n, A, kp, K, so, sd, hC, hM, hN⟩ := hJ
  have j1 : 4 * t + 1 < o.1 0 := by omega
  have j2 : 4 * t + 2 < o.1 0 := by omega
  have j3 : 4 * t + 3 < o.1 0 := by omega
  have hl' : o.1 0 ≤ 1000 := by omega
  have hng : x.2.2.2.2.2 + 40 ≤ 1000 := by have := hN.1; omega
  obtain ⟨m1, m2, c, rm, e1, e2⟩ := st_op hM (⟨m, hC, fun _ _ => rfl, s_X7_berth (o := o) (d := d) (k := (o.2 0 (4 * t + 1))) (k2 := (o.2 0 (4 * t + 2))) hC ⟩) (fun _ h => s_X8_berth (o := o) (d := d) (k := (o.2 0 (4 * t + 1))) (k2 := (o.2 0 (4 * t + 2))) h )
  refine ⟨m2, lg, ⟨_, _, _, _, _, _, _, _, _, c, rm, hN.up⟩, fun r => ?_⟩
  simp only [e_L_law_241, e_L_law_242, e_L_law_243, e_L_law_244, e_L_law_245, e_L_law_246, e_L_law_247, e_L_law_248, e_L_law_249, e_L_law_250, e_L_law_251, e_L_law_255, e_L_law_256, e_L_law_257, e_L_law_258, e_L_law_259, e_L_law_260, e_L_law_261, e_L_law_262, e_L_law_263, e_L_law_264, e_L_law_265, e_L_law_269, e_L_law_272, e_L_law_273, eq_self, nI10, not_false_eq_true, not_true_eq_false, is2_i, is2_r, is2_n, nI_add, pk_mul, Nat.reduceAdd, Nat.reduceMul, f_L_246, f_L_251, f_L_260, f_L_265, j1, j2, j3, hl', e_L_law_252 (hE := e1), e_L_law_266 (hE := e2), if_true]
theorem lo_6 (ho : oOk o) (hl : o.1 0 ≤ 256) (ht : 4 * t + 4 ≤ o.1 0) (hJ : JJ t m lg) : ∃ m' lg', JJ (t + 1) m' lg' ∧ ∀ r, Rn o (d + 21) zL_law 274 [.ref ai_O, .ref 0, .ref 133, .int (nI (4 * t))] [] (ai_w m lg) r = Rn o (d + 21) zL_law 966 [.ref ai_O, .ref 0, .ref 133, .int (nI (4 * t))] [] (ai_w m' lg') r := by
  obtain ⟨tx, p, x, n, A, kp, K, so, sd, hC, hM, hN⟩ := hJ
  have j1 : 4 * t + 1 < o.1 0 := by omega
  have j2 : 4 * t + 2 < o.1 0 := by omega
  have j3 : 4 * t + 3 < o.1 0 := by omega
  have hl' : o.1 0 ≤ 1000 := by omega
  have hng : x.2.2.2.2.2 + 40 ≤ 1000 := by have := hN.1; omega
  obtain ⟨m1, m2, c, rm, e1, e2⟩ := st_op hM (⟨m, hC, fun _ _ => rfl, s_X7_dream (o := o) (d := d) (k := (o.2 0 (4 * t + 1))) (k2 := (o.2 0 (4 * t + 2))) hC ⟩) (fun _ h => s_X8_dream (o := o) (d := d) (k := (o.2 0 (4 * t + 1))) (k2 := (o.2 0 (4 * t + 2))) h )
  refine ⟨m2, lg, ⟨_, _, _, _, _, _, _, _, _, c, rm, hN.up⟩, fun r => ?_⟩
  simp only [e_L_law_274, e_L_law_275, e_L_law_276, e_L_law_277, e_L_law_278, e_L_law_279, e_L_law_280, e_L_law_281, e_L_law_282, e_L_law_283, e_L_law_284, e_L_law_288, e_L_law_289, e_L_law_290, e_L_law_291, e_L_law_292, e_L_law_293, e_L_law_294, e_L_law_295, e_L_law_296, e_L_law_297, e_L_law_298, e_L_law_302, e_L_law_305, e_L_law_306, eq_self, nI10, not_false_eq_true, not_true_eq_false, is2_i, is2_r, is2_n, nI_add, pk_mul, Nat.reduceAdd, Nat.reduceMul, f_L_279, f_L_284, f_L_293, f_L_298, j1, j2, j3, hl', e_L_law_285 (hE := e1), e_L_law_299 (hE := e2), if_true]
theorem lo_7 (ho : oOk o) (hl : o.1 0 ≤ 256) (ht : 4 * t + 4 ≤ o.1 0) (hJ : JJ t m lg) : ∃ m' lg', JJ (t + 1) m' lg' ∧ ∀ r, Rn o (d + 21) zL_law 307 [.ref ai_O, .ref 0, .ref 133, .int (nI (4 * t))] [] (ai_w m lg) r = Rn o (d + 21) zL_law 966 [.ref ai_O, .ref 0, .ref 133, .int (nI (4 * t))] [] (ai_w m' lg') r := by
  obtain ⟨tx, p, x, n, A, kp, K, so, sd, hC, hM, hN⟩ := hJ
  have j1 : 4 * t + 1 < o.1 0 := by omega
  have j2 : 4 * t + 2 < o.1 0 := by omega
  have j3 : 4 * t + 3 < o.1 0 := by omega
  have hl' : o.1 0 ≤ 1000 := by omega
  have hng : x.2.2.2.2.2 + 40 ≤ 1000 := by have := hN.1; omega
  obtain ⟨m1, m2, c, rm, e1, e2⟩ := st_op hM (s_X7_night (o := o) (d := d) hC (by omega)) (fun _ h => s_X8_night (o := o) (d := d) h (by omega))
  refine ⟨m2, lg, ⟨_, _, _, _, _, _, _, _, _, c, rm, hN.push (by rw [pNight_ng]; have := hN.1; omega)⟩, fun r => ?_⟩
  simp only [e_L_law_307, e_L_law_311, e_L_law_315, e_L_law_318, e_L_law_319, eq_self, nI10, not_false_eq_true, not_true_eq_false, is2_i, is2_r, is2_n, nI_add, pk_mul, Nat.reduceAdd, Nat.reduceMul, j1, j2, j3, hl', e_L_law_308 (hE := e1), e_L_law_312 (hE := e2), if_true]
theorem lo_8 (ho : oOk o) (hl : o.1 0 ≤ 256) (ht : 4 * t + 4 ≤ o.1 0) (hJ : JJ t m lg) : ∃ m' lg', JJ (t + 1) m' lg' ∧ ∀ r, Rn o (d + 21) zL_law 320 [.ref ai_O, .ref 0, .ref 133, .int (nI (4 * t))] [] (ai_w m lg) r = Rn o (d + 21) zL_law 966 [.ref ai_O, .ref 0, .ref 133, .int (nI (4 * t))] [] (ai_w m' lg') r := by
  obtain ⟨tx, p, x, n, A, kp, K, so, sd, hC, hM, hN⟩ := hJ
  have j1 : 4 * t + 1 < o.1 0 := by omega
  have j2 : 4 * t + 2 < o.1 0 := by omega
  have j3 : 4 * t + 3 < o.1 0 := by omega
  have hl' : o.1 0 ≤ 1000 := by omega
  have hng : x.2.2.2.2.2 + 40 ≤ 1000 := by have := hN.1; omega
  cases hF : dMoor p x (o.2 0 (4 * t + 1)) (o.2 0 (4 * t + 2)) with
  | none =>
    obtain ⟨m1, m2, c, rm, e1, e2⟩ := st_op hM (⟨m, hC, fun _ _ => rfl, s_X7_moorF (o := o) (d := d) hC hF⟩) (fun _ h => s_X8_moorF (o := o) (d := d) h hF)
    refine ⟨m2, lg, ⟨_, _, _, _, _, _, _, _, _, c, rm, hN.up⟩, fun r => ?_⟩
    simp only [e_L_law_320, e_L_law_321, e_L_law_322, e_L_law_323, e_L_law_324, e_L_law_325, e_L_law_326, e_L_law_327, e_L_law_328, e_L_law_329, e_L_law_330, e_L_law_334, e_L_law_335, e_L_law_336, e_L_law_337, e_L_law_338, e_L_law_339, e_L_law_340, e_L_law_341, e_L_law_342, e_L_law_343, e_L_law_344, e_L_law_348, e_L_law_351, e_L_law_352, eq_self, nI10, not_false_eq_true, not_true_eq_false, is2_i, is2_r, is2_n, nI_add, pk_mul, Nat.reduceAdd, Nat.reduceMul, f_L_325, f_L_330, f_L_339, f_L_344, j1, j2, j3, hl', e_L_law_331 (hE := e1), e_L_law_345 (hE := e2), if_true]
  | some dc =>
    obtain ⟨dd, cc⟩ := dc
    obtain ⟨m1, m2, c, rm, e1, e2⟩ := st_op hM (s_X7_moorT (o := o) (d := d) hC hF) (fun _ h => s_X8_moorT (o := o) (d := d) h hF)
    refine ⟨m2, lg, ⟨_, _, _, _, _, _, _, _, _, c, rm, hN.push (Nat.le_succ_of_le hN.1)⟩, fun r => ?_⟩
    simp only [e_L_law_320, e_L_law_321, e_L_law_322, e_L_law_323, e_L_law_324, e_L_law_325, e_L_law_326, e_L_law_327, e_L_law_328, e_L_law_329, e_L_law_330, e_L_law_334, e_L_law_335, e_L_law_336, e_L_law_337, e_L_law_338, e_L_law_339, e_L_law_340, e_L_law_341, e_L_law_342, e_L_law_343, e_L_law_344, e_L_law_348, e_L_law_351, e_L_law_352, eq_self, nI10, not_false_eq_true, not_true_eq_false, is2_i, is2_r, is2_n, nI_add, pk_mul, Nat.reduceAdd, Nat.reduceMul, f_L_325, f_L_330, f_L_339, f_L_344, j1, j2, j3, hl', e_L_law_331 (hE := e1), e_L_law_345 (hE := e2), if_true]
theorem lo_9 (ho : oOk o) (hl : o.1 0 ≤ 256) (ht : 4 * t + 4 ≤ o.1 0) (hJ : JJ t m lg) : ∃ m' lg', JJ (t + 1) m' lg' ∧ ∀ r, Rn o (d + 21) zL_law 353 [.ref ai_O, .ref 0, .ref 133, .int (nI (4 * t))] [] (ai_w m lg) r = Rn o (d + 21) zL_law 966 [.ref ai_O, .ref 0, .ref 133, .int (nI (4 * t))] [] (ai_w m' lg') r := by
  obtain ⟨tx, p, x, n, A, kp, K, so, sd, hC, hM, hN⟩ := hJ
  have j1 : 4 * t + 1 < o.1 0 := by omega
  have j2 : 4 * t + 2 < o.1 0 := by omega
  have j3 : 4 * t + 3 < o.1 0 := by omega
  have hl' : o.1 0 ≤ 1000 := by omega
  have hng : x.2.2.2.2.2 + 40 ≤ 1000 := by have := hN.1; omega
  cases hF : dTow p x (o.2 0 (4 * t + 1)) with
  | none =>
    obtain ⟨m1, m2, c, rm, e1, e2⟩ := st_op hM (⟨m, hC, fun _ _ => rfl, s_X7_towF (o := o) (d := d) hC hF⟩) (fun _ h => s_X8_towF (o := o) (d := d) h hF)
    refine ⟨m2, lg, ⟨_, _, _, _, _, _, _, _, _, c, rm, hN.up⟩, fun r => ?_⟩
    simp only [e_L_law_353, e_L_law_354, e_L_law_355, e_L_law_356, e_L_law_357, e_L_law_358, e_L_law_362, e_L_law_363, e_L_law_364, e_L_law_365, e_L_law_366, e_L_law_367, e_L_law_371, e_L_law_374, e_L_law_375, eq_self, nI10, not_false_eq_true, not_true_eq_false, is2_i, is2_r, is2_n, nI_add, pk_mul, Nat.reduceAdd, Nat.reduceMul, f_L_358, f_L_367, j1, j2, j3, hl', e_L_law_359 (hE := e1), e_L_law_368 (hE := e2), if_true]
  | some dd =>
    obtain ⟨m1, m2, c, rm, e1, e2⟩ := st_op hM (s_X7_towT (o := o) (d := d) hC hF) (fun _ h => s_X8_towT (o := o) (d := d) h hF)
    refine ⟨m2, lg, ⟨_, _, _, _, _, _, _, _, _, c, rm, hN.push (Nat.le_succ_of_le hN.1)⟩, fun r => ?_⟩
    simp only [e_L_law_353, e_L_law_354, e_L_law_355, e_L_law_356, e_L_law_357, e_L_law_358, e_L_law_362, e_L_law_363, e_L_law_364, e_L_law_365, e_L_law_366, e_L_law_367, e_L_law_371, e_L_law_374, e_L_law_375, eq_self, nI10, not_false_eq_true, not_true_eq_false, is2_i, is2_r, is2_n, nI_add, pk_mul, Nat.reduceAdd, Nat.reduceMul, f_L_358, f_L_367, j1, j2, j3, hl', e_L_law_359 (hE := e1), e_L_law_368 (hE := e2), if_true]
theorem lo_10 (ho : oOk o) (hl : o.1 0 ≤ 256) (ht : 4 * t + 4 ≤ o.1 0) (hJ : JJ t m lg) : ∃ m' lg', JJ (t + 1) m' lg' ∧ ∀ r, Rn o (d + 21) zL_law 376 [.ref ai_O, .ref 0, .ref 133, .int (nI (4 * t))] [] (ai_w m lg) r = Rn o (d + 21) zL_law 966 [.ref ai_O, .ref 0, .ref 133, .int (nI (4 * t))] [] (ai_w m' lg') r := by
  obtain ⟨tx, p, x, n, A, kp, K, so, sd, hC, hM, hN⟩ := hJ
  have j1 : 4 * t + 1 < o.1 0 := by omega
  have j2 : 4 * t + 2 < o.1 0 := by omega
  have j3 : 4 * t + 3 < o.1 0 := by omega
  have hl' : o.1 0 ≤ 1000 := by omega
  have hng : x.2.2.2.2.2 + 40 ≤ 1000 := by have := hN.1; omega
  cases n with
  | zero =>
    obtain ⟨m1, m2, c, rm, e1, e2⟩ := st_op hM (⟨m, hC, fun _ _ => rfl, s_X7_undoF (o := o) (d := d) hC⟩) (fun _ h => s_X8_undoF (o := o) (d := d) h)
    refine ⟨m2, lg, ⟨_, _, _, _, _, _, _, _, _, c, rm, hN.up⟩, fun r => ?_⟩
    simp only [e_L_law_376, e_L_law_380, e_L_law_384, e_L_law_387, e_L_law_388, eq_self, nI10, not_false_eq_true, not_true_eq_false, is2_i, is2_r, is2_n, nI_add, pk_mul, Nat.reduceAdd, Nat.reduceMul, j1, j2, j3, hl', e_L_law_377 (hE := e1), e_L_law_381 (hE := e2), if_true]
  | succ n =>
    obtain ⟨m1, m2, c, rm, e1, e2⟩ := st_op hM (s_X7_undoT (o := o) (d := d) hC (Nat.succ_pos n)) (fun _ h => s_X8_undoT (o := o) (d := d) h (Nat.succ_pos n))
    refine ⟨m2, lg, ⟨_, _, _, _, _, _, _, _, _, c, rm, ⟨Nat.le_succ_of_le (hN.2.1 0 (Nat.succ_pos n)), fun i hi => Nat.le_succ_of_le (hN.2.1 (i + 1) (by omega)), hN.up.2.2⟩⟩, fun r => ?_⟩
    simp only [e_L_law_376, e_L_law_380, e_L_law_384, e_L_law_387, e_L_law_388, eq_self, nI10, not_false_eq_true, not_true_eq_false, is2_i, is2_r, is2_n, nI_add, pk_mul, Nat.reduceAdd, Nat.reduceMul, j1, j2, j3, hl', e_L_law_377 (hE := e1), e_L_law_381 (hE := e2), if_true]
theorem lo_11 (ho : oOk o) (hl : o.1 0 ≤ 256) (ht : 4 * t + 4 ≤ o.1 0) (hJ : JJ t m lg) : ∃ m' lg', JJ (t + 1) m' lg' ∧ ∀ r, Rn o (d + 21) zL_law 389 [.ref ai_O, .ref 0, .ref 133, .int (nI (4 * t))] [] (ai_w m lg) r = Rn o (d + 21) zL_law 966 [.ref ai_O, .ref 0, .ref 133, .int (nI (4 * t))] [] (ai_w m' lg') r := by
  obtain ⟨tx, p, x, n, A, kp, K, so, sd, hC, hM, hN⟩ := hJ
  have j1 : 4 * t + 1 < o.1 0 := by omega
  have j2 : 4 * t + 2 < o.1 0 := by omega
  have j3 : 4 * t + 3 < o.1 0 := by omega
  have hl' : o.1 0 ≤ 1000 := by omega
  have hng : x.2.2.2.2.2 + 40 ≤ 1000 := by have := hN.1; omega
  obtain ⟨m1, m2, c, rm, e1, e2⟩ := st_op hM (s_X7_later (o := o) (d := d) (k := (o.2 0 (4 * t + 1))) (k2 := (o.2 0 (4 * t + 2))) hC hng) (fun _ h => s_X8_later (o := o) (d := d) (k := (o.2 0 (4 * t + 1))) (k2 := (o.2 0 (4 * t + 2))) h hng)
  refine ⟨m2, lg, ⟨_, _, _, _, _, _, _, _, _, c, rm, hN.up⟩, fun r => ?_⟩
  simp only [e_L_law_389, e_L_law_390, e_L_law_391, e_L_law_392, e_L_law_393, e_L_law_394, e_L_law_395, e_L_law_396, e_L_law_397, e_L_law_398, e_L_law_399, e_L_law_403, e_L_law_404, e_L_law_405, e_L_law_406, e_L_law_407, e_L_law_408, e_L_law_409, e_L_law_410, e_L_law_411, e_L_law_412, e_L_law_413, e_L_law_417, e_L_law_420, e_L_law_421, eq_self, nI10, not_false_eq_true, not_true_eq_false, is2_i, is2_r, is2_n, nI_add, pk_mul, Nat.reduceAdd, Nat.reduceMul, f_L_394, f_L_399, f_L_408, f_L_413, j1, j2, j3, hl', e_L_law_400 (hE := e1), e_L_law_414 (hE := e2), if_true]
theorem lo_12 (ho : oOk o) (hl : o.1 0 ≤ 256) (ht : 4 * t + 4 ≤ o.1 0) (hJ : JJ t m lg) : ∃ m' lg', JJ (t + 1) m' lg' ∧ ∀ r, Rn o (d + 21) zL_law 422 [.ref ai_O, .ref 0, .ref 133, .int (nI (4 * t))] [] (ai_w m lg) r = Rn o (d + 21) zL_law 966 [.ref ai_O, .ref 0, .ref 133, .int (nI (4 * t))] [] (ai_w m' lg') r := by
  obtain ⟨tx, p, x, n, A, kp, K, so, sd, hC, hM, hN⟩ := hJ
  have j1 : 4 * t + 1 < o.1 0 := by omega
  have j2 : 4 * t + 2 < o.1 0 := by omega
  have j3 : 4 * t + 3 < o.1 0 := by omega
  have hl' : o.1 0 ≤ 1000 := by omega
  have hng : x.2.2.2.2.2 + 40 ≤ 1000 := by have := hN.1; omega
  obtain ⟨m1, m2, c, rm, e1, e2⟩ := st_op hM (s_X7_wakes (o := o) (d := d) (k := (o.2 0 (4 * t + 1))) (k2 := (o.2 0 (4 * t + 2))) hC hng) (fun _ h => s_X8_wakes (o := o) (d := d) (k := (o.2 0 (4 * t + 1))) (k2 := (o.2 0 (4 * t + 2))) h hng)
  refine ⟨m2, lg, ⟨_, _, _, _, _, _, _, _, _, c, rm, hN.up⟩, fun r => ?_⟩
  simp only [e_L_law_422, e_L_law_423, e_L_law_424, e_L_law_425, e_L_law_426, e_L_law_427, e_L_law_428, e_L_law_429, e_L_law_430, e_L_law_431, e_L_law_432, e_L_law_436, e_L_law_437, e_L_law_438, e_L_law_439, e_L_law_440, e_L_law_441, e_L_law_442, e_L_law_443, e_L_law_444, e_L_law_445, e_L_law_446, e_L_law_450, e_L_law_453, e_L_law_454, eq_self, nI10, not_false_eq_true, not_true_eq_false, is2_i, is2_r, is2_n, nI_add, pk_mul, Nat.reduceAdd, Nat.reduceMul, f_L_427, f_L_432, f_L_441, f_L_446, j1, j2, j3, hl', e_L_law_433 (hE := e1), e_L_law_447 (hE := e2), if_true]
theorem lo_13 (ho : oOk o) (hl : o.1 0 ≤ 256) (ht : 4 * t + 4 ≤ o.1 0) (hJ : JJ t m lg) : ∃ m' lg', JJ (t + 1) m' lg' ∧ ∀ r, Rn o (d + 21) zL_law 455 [.ref ai_O, .ref 0, .ref 133, .int (nI (4 * t))] [] (ai_w m lg) r = Rn o (d + 21) zL_law 966 [.ref ai_O, .ref 0, .ref 133, .int (nI (4 * t))] [] (ai_w m' lg') r := by
  obtain ⟨tx, p, x, n, A, kp, K, so, sd, hC, hM, hN⟩ := hJ
  have j1 : 4 * t + 1 < o.1 0 := by omega
  have j2 : 4 * t + 2 < o.1 0 := by omega
  have j3 : 4 * t + 3 < o.1 0 := by omega
  have hl' : o.1 0 ≤ 1000 := by omega
  have hng : x.2.2.2.2.2 + 40 ≤ 1000 := by have := hN.1; omega
  obtain ⟨m1, m2, c, rm, e1, e2⟩ := st_op hM (s_X7_fits (o := o) (d := d) (k := (o.2 0 (4 * t + 1))) (k2 := (o.2 0 (4 * t + 2))) hC hng) (fun _ h => s_X8_fits (o := o) (d := d) (k := (o.2 0 (4 * t + 1))) (k2 := (o.2 0 (4 * t + 2))) h hng)
  refine ⟨m2, lg, ⟨_, _, _, _, _, _, _, _, _, c, rm, hN.up⟩, fun r => ?_⟩
  simp only [e_L_law_455, e_L_law_456, e_L_law_457, e_L_law_458, e_L_law_459, e_L_law_460, e_L_law_461, e_L_law_462, e_L_law_463, e_L_law_464, e_L_law_465, e_L_law_469, e_L_law_470, e_L_law_471, e_L_law_472, e_L_law_473, e_L_law_474, e_L_law_475, e_L_law_476, e_L_law_477, e_L_law_478, e_L_law_479, e_L_law_483, e_L_law_486, e_L_law_487, eq_self, nI10, not_false_eq_true, not_true_eq_false, is2_i, is2_r, is2_n, nI_add, pk_mul, Nat.reduceAdd, Nat.reduceMul, f_L_460, f_L_465, f_L_474, f_L_479, j1, j2, j3, hl', e_L_law_466 (hE := e1), e_L_law_480 (hE := e2), if_true]
theorem lo_14 (ho : oOk o) (hl : o.1 0 ≤ 256) (ht : 4 * t + 4 ≤ o.1 0) (hJ : JJ t m lg) : ∃ m' lg', JJ (t + 1) m' lg' ∧ ∀ r, Rn o (d + 21) zL_law 488 [.ref ai_O, .ref 0, .ref 133, .int (nI (4 * t))] [] (ai_w m lg) r = Rn o (d + 21) zL_law 966 [.ref ai_O, .ref 0, .ref 133, .int (nI (4 * t))] [] (ai_w m' lg') r := by
  obtain ⟨tx, p, x, n, A, kp, K, so, sd, hC, hM, hN⟩ := hJ
  have j1 : 4 * t + 1 < o.1 0 := by omega
  have j2 : 4 * t + 2 < o.1 0 := by omega
  have j3 : 4 * t + 3 < o.1 0 := by omega
  have hl' : o.1 0 ≤ 1000 := by omega
  have hng : x.2.2.2.2.2 + 40 ≤ 1000 := by have := hN.1; omega
  obtain ⟨m1, m2, c, rm, e1, e2⟩ := st_op hM (s_X7_soonest (o := o) (d := d) (k := (o.2 0 (4 * t + 1))) hC hng) (fun _ h => s_X8_soonest (o := o) (d := d) (k := (o.2 0 (4 * t + 1))) h hng)
  refine ⟨m2, lg, ⟨_, _, _, _, _, _, _, _, _, c, rm, hN.up⟩, fun r => ?_⟩
  simp only [e_L_law_488, e_L_law_489, e_L_law_490, e_L_law_491, e_L_law_492, e_L_law_493, e_L_law_497, e_L_law_498, e_L_law_499, e_L_law_500, e_L_law_501, e_L_law_502, e_L_law_506, e_L_law_509, e_L_law_510, eq_self, nI10, not_false_eq_true, not_true_eq_false, is2_i, is2_r, is2_n, nI_add, pk_mul, Nat.reduceAdd, Nat.reduceMul, f_L_493, f_L_502, j1, j2, j3, hl', e_L_law_494 (hE := e1), e_L_law_503 (hE := e2), if_true]
theorem lo_15 (ho : oOk o) (hl : o.1 0 ≤ 256) (ht : 4 * t + 4 ≤ o.1 0) (hJ : JJ t m lg) : ∃ m' lg', JJ (t + 1) m' lg' ∧ ∀ r, Rn o (d + 21) zL_law 511 [.ref ai_O, .ref 0, .ref 133, .int (nI (4 * t))] [] (ai_w m lg) r = Rn o (d + 21) zL_law 966 [.ref ai_O, .ref 0, .ref 133, .int (nI (4 * t))] [] (ai_w m' lg') r := by
  obtain ⟨tx, p, x, n, A, kp, K, so, sd, hC, hM, hN⟩ := hJ
  have j1 : 4 * t + 1 < o.1 0 := by omega
  have j2 : 4 * t + 2 < o.1 0 := by omega
  have j3 : 4 * t + 3 < o.1 0 := by omega
  have hl' : o.1 0 ≤ 1000 := by omega
  have hng : x.2.2.2.2.2 + 40 ≤ 1000 := by have := hN.1; omega
  by_cases hz : (o.2 0 (4 * t + 1)) = nI 0
  · obtain ⟨m1, m2, c, rm, e1, e2⟩ := st_op hM (s_X7_plan (o := o) (d := d)  (k := (nI 0)) hC) (fun _ h => s_X8_plan (o := o) (d := d)  (k := (nI 0)) h)
    refine ⟨m2, lg, ⟨_, _, _, _, _, _, _, _, _, c, rm, hN.up⟩, fun r => ?_⟩
    simp only [e_L_law_511, e_L_law_512, e_L_law_513, e_L_law_514, e_L_law_515, e_L_law_516, e_L_law_517, e_L_law_520, e_L_law_521, e_L_law_524, e_L_law_528, e_L_law_529, e_L_law_530, e_L_law_531, e_L_law_532, e_L_law_533, e_L_law_534, e_L_law_537, e_L_law_538, e_L_law_541, e_L_law_545, e_L_law_548, e_L_law_549, eq_self, nI10, not_false_eq_true, not_true_eq_false, is2_i, is2_r, is2_n, nI_add, pk_mul, Nat.reduceAdd, Nat.reduceMul, f_L_516, f_L_533, j1, j2, j3, hl', e_L_law_525 (hE := e1), e_L_law_542 (hE := e2), if_true, hz]
  · obtain ⟨m1, m2, c, rm, e1, e2⟩ := st_op hM (s_X7_plan (o := o) (d := d)  (k := (nI 1)) hC) (fun _ h => s_X8_plan (o := o) (d := d)  (k := (nI 1)) h)
    refine ⟨m2, lg, ⟨_, _, _, _, _, _, _, _, _, c, rm, hN.up⟩, fun r => ?_⟩
    simp only [e_L_law_511, e_L_law_512, e_L_law_513, e_L_law_514, e_L_law_515, e_L_law_516, e_L_law_517, e_L_law_520, e_L_law_521, e_L_law_524, e_L_law_528, e_L_law_529, e_L_law_530, e_L_law_531, e_L_law_532, e_L_law_533, e_L_law_534, e_L_law_537, e_L_law_538, e_L_law_541, e_L_law_545, e_L_law_548, e_L_law_549, eq_self, nI10, not_false_eq_true, not_true_eq_false, is2_i, is2_r, is2_n, nI_add, pk_mul, Nat.reduceAdd, Nat.reduceMul, f_L_516, f_L_533, j1, j2, j3, hl', e_L_law_525 (hE := e1), e_L_law_542 (hE := e2), if_true, hz, if_false]
theorem lo_16 (ho : oOk o) (hl : o.1 0 ≤ 256) (ht : 4 * t + 4 ≤ o.1 0) (hJ : JJ t m lg) : ∃ m' lg', JJ (t + 1) m' lg' ∧ ∀ r, Rn o (d + 21) zL_law 550 [.ref ai_O, .ref 0, .ref 133, .int (nI (4 * t))] [] (ai_w m lg) r = Rn o (d + 21) zL_law 966 [.ref ai_O, .ref 0, .ref 133, .int (nI (4 * t))] [] (ai_w m' lg') r := by
  obtain ⟨tx, p, x, n, A, kp, K, so, sd, hC, hM, hN⟩ := hJ
  have j1 : 4 * t + 1 < o.1 0 := by omega
  have j2 : 4 * t + 2 < o.1 0 := by omega
  have j3 : 4 * t + 3 < o.1 0 := by omega
  have hl' : o.1 0 ≤ 1000 := by omega
  have hng : x.2.2.2.2.2 + 40 ≤ 1000 := by have := hN.1; omega
  obtain ⟨m1, m2, c, rm, e1, e2⟩ := st_op hM (s_X7_judge (o := o) (d := d) (k := (o.2 0 (4 * t + 1))) (v := (((o.2 0 (4 * t + 2)).toInt64 <<< ((nI 32).toInt64 &&& 63)) ||| ((o.2 0 (4 * t + 3)).toInt64 &&& 4294967295))) hC hng) (fun _ h => s_X8_judge (o := o) (d := d) (k := (o.2 0 (4 * t + 1))) (v := (((o.2 0 (4 * t + 2)).toInt64 <<< ((nI 32).toInt64 &&& 63)) ||| ((o.2 0 (4 * t + 3)).toInt64 &&& 4294967295))) h hng)
  refine ⟨m2, lg, ⟨_, _, _, _, _, _, _, _, _, c, rm, hN.up⟩, fun r => ?_⟩
  simp only [e_L_law_550, e_L_law_551, e_L_law_552, e_L_law_553, e_L_law_554, e_L_law_555, e_L_law_556, e_L_law_557, e_L_law_558, e_L_law_559, e_L_law_560, e_L_law_561, e_L_law_562, e_L_law_564, e_L_law_565, e_L_law_566, e_L_law_567, e_L_law_568, e_L_law_569, e_L_law_570, e_L_law_571, e_L_law_574, e_L_law_575, e_L_law_579, e_L_law_580, e_L_law_581, e_L_law_582, e_L_law_583, e_L_law_584, e_L_law_585, e_L_law_586, e_L_law_587, e_L_law_588, e_L_law_589, e_L_law_590, e_L_law_591, e_L_law_593, e_L_law_594, e_L_law_595, e_L_law_596, e_L_law_597, e_L_law_598, e_L_law_599, e_L_law_600, e_L_law_603, e_L_law_604, e_L_law_608, e_L_law_611, e_L_law_612, eq_self, nI10, not_false_eq_true, not_true_eq_false, is2_i, is2_r, is2_n, nI_add, pk_mul, Nat.reduceAdd, Nat.reduceMul, f_L_555, f_L_560, f_L_569, f_L_584, f_L_589, f_L_598, j1, j2, j3, hl', e_L_law_576 (hE := e1), e_L_law_605 (hE := e2), if_true]
theorem lo_17 (ho : oOk o) (hl : o.1 0 ≤ 256) (ht : 4 * t + 4 ≤ o.1 0) (hJ : JJ t m lg) : ∃ m' lg', JJ (t + 1) m' lg' ∧ ∀ r, Rn o (d + 21) zL_law 613 [.ref ai_O, .ref 0, .ref 133, .int (nI (4 * t))] [] (ai_w m lg) r = Rn o (d + 21) zL_law 966 [.ref ai_O, .ref 0, .ref 133, .int (nI (4 * t))] [] (ai_w m' lg') r := by
  obtain ⟨tx, p, x, n, A, kp, K, so, sd, hC, hM, hN⟩ := hJ
  have j1 : 4 * t + 1 < o.1 0 := by omega
  have j2 : 4 * t + 2 < o.1 0 := by omega
  have j3 : 4 * t + 3 < o.1 0 := by omega
  have hl' : o.1 0 ≤ 1000 := by omega
  have hng : x.2.2.2.2.2 + 40 ≤ 1000 := by have := hN.1; omega
  by_cases hz : (o.2 0 (4 * t + 2)) = nI 0
  · obtain ⟨m1, m2, c, rm, e1, e2⟩ := st_op hM (s_X7_share (o := o) (d := d) (k := (o.2 0 (4 * t + 1))) (k2 := (nI 0)) ho hC) (fun _ h => s_X8_share (o := o) (d := d) (k := (o.2 0 (4 * t + 1))) (k2 := (nI 0)) h)
    refine ⟨m2, lg, ⟨_, _, _, _, _, _, _, _, _, c, rm, hN.up⟩, fun r => ?_⟩
    simp only [e_L_law_613, e_L_law_614, e_L_law_615, e_L_law_616, e_L_law_617, e_L_law_618, e_L_law_619, e_L_law_620, e_L_law_621, e_L_law_622, e_L_law_623, e_L_law_624, e_L_law_627, e_L_law_628, e_L_law_631, e_L_law_635, e_L_law_636, e_L_law_637, e_L_law_638, e_L_law_639, e_L_law_640, e_L_law_641, e_L_law_642, e_L_law_643, e_L_law_644, e_L_law_645, e_L_law_646, e_L_law_649, e_L_law_650, e_L_law_653, e_L_law_657, e_L_law_660, e_L_law_661, eq_self, nI10, not_false_eq_true, not_true_eq_false, is2_i, is2_r, is2_n, nI_add, pk_mul, Nat.reduceAdd, Nat.reduceMul, f_L_618, f_L_623, f_L_640, f_L_645, j1, j2, j3, hl', e_L_law_632 (hE := e1), e_L_law_654 (hE := e2), if_true, hz]
  · obtain ⟨m1, m2, c, rm, e1, e2⟩ := st_op hM (s_X7_share (o := o) (d := d) (k := (o.2 0 (4 * t + 1))) (k2 := (nI 1)) ho hC) (fun _ h => s_X8_share (o := o) (d := d) (k := (o.2 0 (4 * t + 1))) (k2 := (nI 1)) h)
    refine ⟨m2, lg, ⟨_, _, _, _, _, _, _, _, _, c, rm, hN.up⟩, fun r => ?_⟩
    simp only [e_L_law_613, e_L_law_614, e_L_law_615, e_L_law_616, e_L_law_617, e_L_law_618, e_L_law_619, e_L_law_620, e_L_law_621, e_L_law_622, e_L_law_623, e_L_law_624, e_L_law_627, e_L_law_628, e_L_law_631, e_L_law_635, e_L_law_636, e_L_law_637, e_L_law_638, e_L_law_639, e_L_law_640, e_L_law_641, e_L_law_642, e_L_law_643, e_L_law_644, e_L_law_645, e_L_law_646, e_L_law_649, e_L_law_650, e_L_law_653, e_L_law_657, e_L_law_660, e_L_law_661, eq_self, nI10, not_false_eq_true, not_true_eq_false, is2_i, is2_r, is2_n, nI_add, pk_mul, Nat.reduceAdd, Nat.reduceMul, f_L_618, f_L_623, f_L_640, f_L_645, j1, j2, j3, hl', e_L_law_632 (hE := e1), e_L_law_654 (hE := e2), if_true, hz, if_false]
theorem lo_18 (ho : oOk o) (hl : o.1 0 ≤ 256) (ht : 4 * t + 4 ≤ o.1 0) (hJ : JJ t m lg) : ∃ m' lg', JJ (t + 1) m' lg' ∧ ∀ r, Rn o (d + 21) zL_law 662 [.ref ai_O, .ref 0, .ref 133, .int (nI (4 * t))] [] (ai_w m lg) r = Rn o (d + 21) zL_law 966 [.ref ai_O, .ref 0, .ref 133, .int (nI (4 * t))] [] (ai_w m' lg') r := by
  obtain ⟨tx, p, x, n, A, kp, K, so, sd, hC, hM, hN⟩ := hJ
  have j1 : 4 * t + 1 < o.1 0 := by omega
  have j2 : 4 * t + 2 < o.1 0 := by omega
  have j3 : 4 * t + 3 < o.1 0 := by omega
  have hl' : o.1 0 ≤ 1000 := by omega
  have hng : x.2.2.2.2.2 + 40 ≤ 1000 := by have := hN.1; omega
  obtain ⟨m1, m2, c, rm, e1, e2⟩ := st_op hM (s_X7_sound (o := o) (d := d) (k := (o.2 0 (4 * t + 1))) (k2 := (o.2 0 (4 * t + 2))) (k3 := (o.2 0 (4 * t + 3))) hC ) (fun _ h => s_X8_sound (o := o) (d := d) (k := (o.2 0 (4 * t + 1))) (k2 := (o.2 0 (4 * t + 2))) (k3 := (o.2 0 (4 * t + 3))) h )
  refine ⟨m2, lg, ⟨_, _, _, _, _, _, _, _, _, c, rm, hN.up⟩, fun r => ?_⟩
  simp only [e_L_law_662, e_L_law_663, e_L_law_664, e_L_law_665, e_L_law_666, e_L_law_667, e_L_law_668, e_L_law_669, e_L_law_670, e_L_law_671, e_L_law_672, e_L_law_673, e_L_law_674, e_L_law_675, e_L_law_676, e_L_law_677, e_L_law_681, e_L_law_682, e_L_law_683, e_L_law_684, e_L_law_685, e_L_law_686, e_L_law_687, e_L_law_688, e_L_law_689, e_L_law_690, e_L_law_691, e_L_law_692, e_L_law_693, e_L_law_694, e_L_law_695, e_L_law_696, e_L_law_700, e_L_law_703, e_L_law_704, eq_self, nI10, not_false_eq_true, not_true_eq_false, is2_i, is2_r, is2_n, nI_add, pk_mul, Nat.reduceAdd, Nat.reduceMul, f_L_667, f_L_672, f_L_677, f_L_686, f_L_691, f_L_696, j1, j2, j3, hl', e_L_law_678 (hE := e1), e_L_law_697 (hE := e2), if_true]
theorem lo_19 (ho : oOk o) (hl : o.1 0 ≤ 256) (ht : 4 * t + 4 ≤ o.1 0) (hJ : JJ t m lg) : ∃ m' lg', JJ (t + 1) m' lg' ∧ ∀ r, Rn o (d + 21) zL_law 705 [.ref ai_O, .ref 0, .ref 133, .int (nI (4 * t))] [] (ai_w m lg) r = Rn o (d + 21) zL_law 966 [.ref ai_O, .ref 0, .ref 133, .int (nI (4 * t))] [] (ai_w m' lg') r := by
  obtain ⟨tx, p, x, n, A, kp, K, so, sd, hC, hM, hN⟩ := hJ
  have j1 : 4 * t + 1 < o.1 0 := by omega
  have j2 : 4 * t + 2 < o.1 0 := by omega
  have j3 : 4 * t + 3 < o.1 0 := by omega
  have hl' : o.1 0 ≤ 1000 := by omega
  have hng : x.2.2.2.2.2 + 40 ≤ 1000 := by have := hN.1; omega
  obtain ⟨m1, m2, c, rm, e1, e2⟩ := st_op hM (s_X7_unsound (o := o) (d := d)  hC ) (fun _ h => s_X8_unsound (o := o) (d := d)  h )
  refine ⟨m2, lg, ⟨_, _, _, _, _, _, _, _, _, c, rm, hN.up⟩, fun r => ?_⟩
  simp only [e_L_law_705, e_L_law_709, e_L_law_713, e_L_law_716, e_L_law_717, eq_self, nI10, not_false_eq_true, not_true_eq_false, is2_i, is2_r, is2_n, nI_add, pk_mul, Nat.reduceAdd, Nat.reduceMul, j1, j2, j3, hl', e_L_law_706 (hE := e1), e_L_law_710 (hE := e2), if_true]
theorem lo_20 (ho : oOk o) (hl : o.1 0 ≤ 256) (ht : 4 * t + 4 ≤ o.1 0) (hJ : JJ t m lg) : ∃ m' lg', JJ (t + 1) m' lg' ∧ ∀ r, Rn o (d + 21) zL_law 718 [.ref ai_O, .ref 0, .ref 133, .int (nI (4 * t))] [] (ai_w m lg) r = Rn o (d + 21) zL_law 966 [.ref ai_O, .ref 0, .ref 133, .int (nI (4 * t))] [] (ai_w m' lg') r := by
  obtain ⟨tx, p, x, n, A, kp, K, so, sd, hC, hM, hN⟩ := hJ
  have j1 : 4 * t + 1 < o.1 0 := by omega
  have j2 : 4 * t + 2 < o.1 0 := by omega
  have j3 : 4 * t + 3 < o.1 0 := by omega
  have hl' : o.1 0 ≤ 1000 := by omega
  have hng : x.2.2.2.2.2 + 40 ≤ 1000 := by have := hN.1; omega
  obtain ⟨m1, m2, c, rm, e1, e2⟩ := st_op hM (⟨m, hC, fun _ _ => rfl, s_X7_depths (o := o) (d := d) (k := (o.2 0 (4 * t + 1))) hC ⟩) (fun _ h => s_X8_depths (o := o) (d := d) (k := (o.2 0 (4 * t + 1))) h )
  refine ⟨m2, lg, ⟨_, _, _, _, _, _, _, _, _, c, rm, hN.up⟩, fun r => ?_⟩
  simp only [e_L_law_718, e_L_law_719, e_L_law_720, e_L_law_721, e_L_law_722, e_L_law_723, e_L_law_727, e_L_law_728, e_L_law_729, e_L_law_730, e_L_law_731, e_L_law_732, e_L_law_736, e_L_law_739, e_L_law_740, eq_self, nI10, not_false_eq_true, not_true_eq_false, is2_i, is2_r, is2_n, nI_add, pk_mul, Nat.reduceAdd, Nat.reduceMul, f_L_723, f_L_732, j1, j2, j3, hl', e_L_law_724 (hE := e1), e_L_law_733 (hE := e2), if_true]
theorem lo_21 (ho : oOk o) (hl : o.1 0 ≤ 256) (ht : 4 * t + 4 ≤ o.1 0) (hJ : JJ t m lg) : ∃ m' lg', JJ (t + 1) m' lg' ∧ ∀ r, Rn o (d + 21) zL_law 741 [.ref ai_O, .ref 0, .ref 133, .int (nI (4 * t))] [] (ai_w m lg) r = Rn o (d + 21) zL_law 966 [.ref ai_O, .ref 0, .ref 133, .int (nI (4 * t))] [] (ai_w m' lg') r := by
  obtain ⟨tx, p, x, n, A, kp, K, so, sd, hC, hM, hN⟩ := hJ
  have j1 : 4 * t + 1 < o.1 0 := by omega
  have j2 : 4 * t + 2 < o.1 0 := by omega
  have j3 : 4 * t + 3 < o.1 0 := by omega
  have hl' : o.1 0 ≤ 1000 := by omega
  have hng : x.2.2.2.2.2 + 40 ≤ 1000 := by have := hN.1; omega
  obtain ⟨m1, m2, c, rm, e1, e2⟩ := st_op hM (s_X7_rests (o := o) (d := d) (k := (o.2 0 (4 * t + 1))) (k2 := (o.2 0 (4 * t + 2))) (k3 := (o.2 0 (4 * t + 3))) hC ) (fun _ h => s_X8_rests (o := o) (d := d) (k := (o.2 0 (4 * t + 1))) (k2 := (o.2 0 (4 * t + 2))) (k3 := (o.2 0 (4 * t + 3))) h )
  refine ⟨m2, lg, ⟨_, _, _, _, _, _, _, _, _, c, rm, hN.up⟩, fun r => ?_⟩
  simp only [e_L_law_741, e_L_law_742, e_L_law_743, e_L_law_744, e_L_law_745, e_L_law_746, e_L_law_747, e_L_law_748, e_L_law_749, e_L_law_750, e_L_law_751, e_L_law_752, e_L_law_753, e_L_law_754, e_L_law_755, e_L_law_756, e_L_law_760, e_L_law_761, e_L_law_762, e_L_law_763, e_L_law_764, e_L_law_765, e_L_law_766, e_L_law_767, e_L_law_768, e_L_law_769, e_L_law_770, e_L_law_771, e_L_law_772, e_L_law_773, e_L_law_774, e_L_law_775, e_L_law_779, e_L_law_782, e_L_law_783, eq_self, nI10, not_false_eq_true, not_true_eq_false, is2_i, is2_r, is2_n, nI_add, pk_mul, Nat.reduceAdd, Nat.reduceMul, f_L_746, f_L_751, f_L_756, f_L_765, f_L_770, f_L_775, j1, j2, j3, hl', e_L_law_757 (hE := e1), e_L_law_776 (hE := e2), if_true]
theorem lo_22 (ho : oOk o) (hl : o.1 0 ≤ 256) (ht : 4 * t + 4 ≤ o.1 0) (hJ : JJ t m lg) : ∃ m' lg', JJ (t + 1) m' lg' ∧ ∀ r, Rn o (d + 21) zL_law 784 [.ref ai_O, .ref 0, .ref 133, .int (nI (4 * t))] [] (ai_w m lg) r = Rn o (d + 21) zL_law 966 [.ref ai_O, .ref 0, .ref 133, .int (nI (4 * t))] [] (ai_w m' lg') r := by
  obtain ⟨tx, p, x, n, A, kp, K, so, sd, hC, hM, hN⟩ := hJ
  have j1 : 4 * t + 1 < o.1 0 := by omega
  have j2 : 4 * t + 2 < o.1 0 := by omega
  have j3 : 4 * t + 3 < o.1 0 := by omega
  have hl' : o.1 0 ≤ 1000 := by omega
  have hng : x.2.2.2.2.2 + 40 ≤ 1000 := by have := hN.1; omega
  by_cases hz : (o.2 0 (4 * t + 3)) = nI 0
  · obtain ⟨m1, m2, c, rm, e1, e2⟩ := st_op hM (⟨m, hC, fun _ _ => rfl, s_X7_ebb (o := o) (d := d) (k := (o.2 0 (4 * t + 1))) (k2 := (o.2 0 (4 * t + 2))) (k3 := (nI 0)) hC⟩) (fun _ h => s_X8_ebb (o := o) (d := d) (k := (o.2 0 (4 * t + 1))) (k2 := (o.2 0 (4 * t + 2))) (k3 := (nI 0)) h)
    refine ⟨m2, lg, ⟨_, _, _, _, _, _, _, _, _, c, rm, hN.up⟩, fun r => ?_⟩
    simp only [e_L_law_784, e_L_law_785, e_L_law_786, e_L_law_787, e_L_law_788, e_L_law_789, e_L_law_790, e_L_law_791, e_L_law_792, e_L_law_793, e_L_law_794, e_L_law_795, e_L_law_796, e_L_law_797, e_L_law_798, e_L_law_799, e_L_law_800, e_L_law_803, e_L_law_804, e_L_law_807, e_L_law_811, e_L_law_812, e_L_law_813, e_L_law_814, e_L_law_815, e_L_law_816, e_L_law_817, e_L_law_818, e_L_law_819, e_L_law_820, e_L_law_821, e_L_law_822, e_L_law_823, e_L_law_824, e_L_law_825, e_L_law_826, e_L_law_827, e_L_law_830, e_L_law_831, e_L_law_834, e_L_law_838, e_L_law_841, e_L_law_842, eq_self, nI10, not_false_eq_true, not_true_eq_false, is2_i, is2_r, is2_n, nI_add, pk_mul, Nat.reduceAdd, Nat.reduceMul, f_L_789, f_L_794, f_L_799, f_L_816, f_L_821, f_L_826, j1, j2, j3, hl', e_L_law_808 (hE := e1), e_L_law_835 (hE := e2), if_true, hz]
  · obtain ⟨m1, m2, c, rm, e1, e2⟩ := st_op hM (⟨m, hC, fun _ _ => rfl, s_X7_ebb (o := o) (d := d) (k := (o.2 0 (4 * t + 1))) (k2 := (o.2 0 (4 * t + 2))) (k3 := (nI 1)) hC⟩) (fun _ h => s_X8_ebb (o := o) (d := d) (k := (o.2 0 (4 * t + 1))) (k2 := (o.2 0 (4 * t + 2))) (k3 := (nI 1)) h)
    refine ⟨m2, lg, ⟨_, _, _, _, _, _, _, _, _, c, rm, hN.up⟩, fun r => ?_⟩
    simp only [e_L_law_784, e_L_law_785, e_L_law_786, e_L_law_787, e_L_law_788, e_L_law_789, e_L_law_790, e_L_law_791, e_L_law_792, e_L_law_793, e_L_law_794, e_L_law_795, e_L_law_796, e_L_law_797, e_L_law_798, e_L_law_799, e_L_law_800, e_L_law_803, e_L_law_804, e_L_law_807, e_L_law_811, e_L_law_812, e_L_law_813, e_L_law_814, e_L_law_815, e_L_law_816, e_L_law_817, e_L_law_818, e_L_law_819, e_L_law_820, e_L_law_821, e_L_law_822, e_L_law_823, e_L_law_824, e_L_law_825, e_L_law_826, e_L_law_827, e_L_law_830, e_L_law_831, e_L_law_834, e_L_law_838, e_L_law_841, e_L_law_842, eq_self, nI10, not_false_eq_true, not_true_eq_false, is2_i, is2_r, is2_n, nI_add, pk_mul, Nat.reduceAdd, Nat.reduceMul, f_L_789, f_L_794, f_L_799, f_L_816, f_L_821, f_L_826, j1, j2, j3, hl', e_L_law_808 (hE := e1), e_L_law_835 (hE := e2), if_true, hz, if_false]
theorem lo_23 (ho : oOk o) (hl : o.1 0 ≤ 256) (ht : 4 * t + 4 ≤ o.1 0) (hJ : JJ t m lg) : ∃ m' lg', JJ (t + 1) m' lg' ∧ ∀ r, Rn o (d + 21) zL_law 843 [.ref ai_O, .ref 0, .ref 133, .int (nI (4 * t))] [] (ai_w m lg) r = Rn o (d + 21) zL_law 966 [.ref ai_O, .ref 0, .ref 133, .int (nI (4 * t))] [] (ai_w m' lg') r := by
  obtain ⟨tx, p, x, n, A, kp, K, so, sd, hC, hM, hN⟩ := hJ
  have j1 : 4 * t + 1 < o.1 0 := by omega
  have j2 : 4 * t + 2 < o.1 0 := by omega
  have j3 : 4 * t + 3 < o.1 0 := by omega
  have hl' : o.1 0 ≤ 1000 := by omega
  have hng : x.2.2.2.2.2 + 40 ≤ 1000 := by have := hN.1; omega
  obtain ⟨v, hv⟩ : ∃ v, v = (((o.2 0 (4 * t + 1)).toInt64 <<< ((nI 32).toInt64 &&& 63)) ||| ((o.2 0 (4 * t + 2)).toInt64 &&& 4294967295)) := ⟨_, rfl⟩
  obtain ⟨c1, e1⟩ := s_X7_seed (o := o) (d := d) (v := v) hC
  obtain ⟨c2, e2⟩ := s_X8_seed (o := o) (d := d) (v := v) (hM.lgq (lg' := ai_upL lg 0 11 v) (by simp [ai_upL]))
  have l1 : ai_upL (ai_upL lg 0 11 v) 133 26 v 0 11 = ai_upL lg 0 11 v 0 11 := by simp [ai_upL]
  have z0 : (lg_cmp sd sd = nI 0) = True := by simp [lg_cmp]; rfl
  refine ⟨_, _, ⟨_, _, _, _, _, _, _, _, _, (c1.frK (frT (m := m)).k).lgq l1, c2, hN.up⟩, fun r => ?_⟩
  simp only [e_L_law_843, e_L_law_844, e_L_law_845, e_L_law_846, e_L_law_847, e_L_law_848, e_L_law_849, e_L_law_850, e_L_law_852, e_L_law_853, e_L_law_854, e_L_law_855, e_L_law_856, e_L_law_857, e_L_law_858, e_L_law_859, e_L_law_862, e_L_law_863, e_L_law_867, e_L_law_868, e_L_law_869, e_L_law_870, e_L_law_871, e_L_law_872, e_L_law_873, e_L_law_874, e_L_law_876, e_L_law_877, e_L_law_878, e_L_law_879, e_L_law_880, e_L_law_881, e_L_law_882, e_L_law_883, e_L_law_886, e_L_law_887, e_L_law_891, e_L_law_892, e_L_law_895, e_L_law_896, eq_self, nI10, not_false_eq_true, not_true_eq_false, is2_i, is2_r, is2_n, nI_add, pk_mul, Nat.reduceAdd, Nat.reduceMul, f_L_848, f_L_857, f_L_872, f_L_881, j1, j2, j3, hl', e_L_law_864 (hE := e1), e_L_law_888 (hE := e2), if_true, ← hv, z0]
theorem lo_24 (ho : oOk o) (hl : o.1 0 ≤ 256) (ht : 4 * t + 4 ≤ o.1 0) (hJ : JJ t m lg) : ∃ m' lg', JJ (t + 1) m' lg' ∧ ∀ r, Rn o (d + 21) zL_law 897 [.ref ai_O, .ref 0, .ref 133, .int (nI (4 * t))] [] (ai_w m lg) r = Rn o (d + 21) zL_law 966 [.ref ai_O, .ref 0, .ref 133, .int (nI (4 * t))] [] (ai_w m' lg') r := by
  obtain ⟨tx, p, x, n, A, kp, K, so, sd, hC, hM, hN⟩ := hJ
  have j1 : 4 * t + 1 < o.1 0 := by omega
  have j2 : 4 * t + 2 < o.1 0 := by omega
  have j3 : 4 * t + 3 < o.1 0 := by omega
  have hl' : o.1 0 ≤ 1000 := by omega
  have hng : x.2.2.2.2.2 + 40 ≤ 1000 := by have := hN.1; omega
  obtain ⟨m1, lg1, c1, c2, c3, e1⟩ := s_X7_years (o := o) (d := d) (k := (o.2 0 (4 * t + 1))) hC hng
  obtain ⟨m2, lg2, b1, b2, b3, e2⟩ := s_X8_years (o := o) (d := d) (k := (o.2 0 (4 * t + 1))) ((hM.frC c2).lgq (lg' := lg1) (by rw [c3 133 (by decide)])) hng
  refine ⟨m2, lg2, ⟨_, _, _, _, _, _, _, _, _, (c1.frK b2).lgq (by rw [b3 0 (by decide)]), b1, hN.up⟩, fun r => ?_⟩
  simp only [e_L_law_897, e_L_law_898, e_L_law_899, e_L_law_900, e_L_law_901, e_L_law_902, e_L_law_906, e_L_law_907, e_L_law_908, e_L_law_909, e_L_law_910, e_L_law_911, e_L_law_915, e_L_law_918, e_L_law_919, eq_self, nI10, not_false_eq_true, not_true_eq_false, is2_i, is2_r, is2_n, nI_add, pk_mul, Nat.reduceAdd, Nat.reduceMul, f_L_902, f_L_911, j1, j2, j3, hl', e_L_law_903 (hE := e1), e_L_law_912 (hE := e2), if_true]
theorem lo_25 (ho : oOk o) (hl : o.1 0 ≤ 256) (ht : 4 * t + 4 ≤ o.1 0) (hJ : JJ t m lg) : ∃ m' lg', JJ (t + 1) m' lg' ∧ ∀ r, Rn o (d + 21) zL_law 920 [.ref ai_O, .ref 0, .ref 133, .int (nI (4 * t))] [] (ai_w m lg) r = Rn o (d + 21) zL_law 966 [.ref ai_O, .ref 0, .ref 133, .int (nI (4 * t))] [] (ai_w m' lg') r := by
  obtain ⟨tx, p, x, n, A, kp, K, so, sd, hC, hM, hN⟩ := hJ
  have j1 : 4 * t + 1 < o.1 0 := by omega
  have j2 : 4 * t + 2 < o.1 0 := by omega
  have j3 : 4 * t + 3 < o.1 0 := by omega
  have hl' : o.1 0 ≤ 1000 := by omega
  have hng : x.2.2.2.2.2 + 40 ≤ 1000 := by have := hN.1; omega
  rcases sw_cases (o.2 0 (4 * t + 1)) 2 (by decide) with ⟨j, hj, hk, _, _⟩ | ⟨hs, _, _⟩
  · obtain ⟨m1, m2, c, rm, e1, e2⟩ := st_op hM (s_X7_keepT (o := o) (d := d) hj hC) (fun _ h => s_X8_keepT (o := o) (d := d) hj h)
    refine ⟨m2, lg, ⟨_, _, _, _, _, _, _, _, _, c, rm, ⟨Nat.le_succ_of_le hN.1, fun i hi => Nat.le_succ_of_le (hN.2.1 i hi), fun i hi hq => (by
      simp only [va_up] at hq ⊢
      split
      · exact Nat.le_succ_of_le hN.1
      · rename_i ne
        rw [if_neg ne] at hq
        exact Nat.le_succ_of_le (hN.2.2 i hi hq))⟩⟩, fun r => ?_⟩
    simp only [e_L_law_920, e_L_law_921, e_L_law_922, e_L_law_923, e_L_law_924, e_L_law_925, e_L_law_929, e_L_law_930, e_L_law_931, e_L_law_932, e_L_law_933, e_L_law_934, e_L_law_938, e_L_law_941, e_L_law_942, eq_self, nI10, not_false_eq_true, not_true_eq_false, is2_i, is2_r, is2_n, nI_add, pk_mul, Nat.reduceAdd, Nat.reduceMul, f_L_925, f_L_934, j1, j2, j3, hl', e_L_law_926 (hE := e1), e_L_law_935 (hE := e2), if_true, hk]
  · obtain ⟨m1, m2, c, rm, e1, e2⟩ := st_op hM (⟨m, hC, fun _ _ => rfl, s_X7_keepF (o := o) (d := d) hs⟩) (fun _ h => s_X8_keepF (o := o) (d := d) h hs)
    refine ⟨m2, lg, ⟨_, _, _, _, _, _, _, _, _, c, rm, hN.up⟩, fun r => ?_⟩
    simp only [e_L_law_920, e_L_law_921, e_L_law_922, e_L_law_923, e_L_law_924, e_L_law_925, e_L_law_929, e_L_law_930, e_L_law_931, e_L_law_932, e_L_law_933, e_L_law_934, e_L_law_938, e_L_law_941, e_L_law_942, eq_self, nI10, not_false_eq_true, not_true_eq_false, is2_i, is2_r, is2_n, nI_add, pk_mul, Nat.reduceAdd, Nat.reduceMul, f_L_925, f_L_934, j1, j2, j3, hl', e_L_law_926 (hE := e1), e_L_law_935 (hE := e2), if_true]
theorem lo_26 (ho : oOk o) (hl : o.1 0 ≤ 256) (ht : 4 * t + 4 ≤ o.1 0) (hJ : JJ t m lg) : ∃ m' lg', JJ (t + 1) m' lg' ∧ ∀ r, Rn o (d + 21) zL_law 943 [.ref ai_O, .ref 0, .ref 133, .int (nI (4 * t))] [] (ai_w m lg) r = Rn o (d + 21) zL_law 966 [.ref ai_O, .ref 0, .ref 133, .int (nI (4 * t))] [] (ai_w m' lg') r := by
  obtain ⟨tx, p, x, n, A, kp, K, so, sd, hC, hM, hN⟩ := hJ
  have j1 : 4 * t + 1 < o.1 0 := by omega
  have j2 : 4 * t + 2 < o.1 0 := by omega
  have j3 : 4 * t + 3 < o.1 0 := by omega
  have hl' : o.1 0 ≤ 1000 := by omega
  have hng : x.2.2.2.2.2 + 40 ≤ 1000 := by have := hN.1; omega
  rcases sw_cases (o.2 0 (4 * t + 1)) 2 (by decide) with ⟨j, hj, hk, _, _⟩ | ⟨hs, _, _⟩
  · cases hb : kp j with
    | false =>
      obtain ⟨m1, m2, c, rm, e1, e2⟩ := st_op hM (⟨m, hC, fun _ _ => rfl, s_X7_againL (o := o) (d := d) hj hC hb⟩) (fun _ h => s_X8_againL (o := o) (d := d) hj h hb)
      refine ⟨m2, lg, ⟨_, _, _, _, _, _, _, _, _, c, rm, hN.up⟩, fun r => ?_⟩
      simp only [e_L_law_943, e_L_law_944, e_L_law_945, e_L_law_946, e_L_law_947, e_L_law_948, e_L_law_952, e_L_law_953, e_L_law_954, e_L_law_955, e_L_law_956, e_L_law_957, e_L_law_961, e_L_law_964, e_L_law_965, eq_self, nI10, not_false_eq_true, not_true_eq_false, is2_i, is2_r, is2_n, nI_add, pk_mul, Nat.reduceAdd, Nat.reduceMul, f_L_948, f_L_957, j1, j2, j3, hl', e_L_law_949 (hE := e1), e_L_law_958 (hE := e2), if_true, hk]
    | true =>
      obtain ⟨m1, m2, c, rm, e1, e2⟩ := st_op hM (s_X7_againT (o := o) (d := d) hj hC hb) (fun _ h => s_X8_againT (o := o) (d := d) hj h hb)
      refine ⟨m2, lg, ⟨_, _, _, _, _, _, _, _, _, c, rm, ⟨Nat.le_succ_of_le (hN.2.2 j hj hb), fun i hi => absurd hi (Nat.not_lt_zero i), hN.up.2.2⟩⟩, fun r => ?_⟩
      simp only [e_L_law_943, e_L_law_944, e_L_law_945, e_L_law_946, e_L_law_947, e_L_law_948, e_L_law_952, e_L_law_953, e_L_law_954, e_L_law_955, e_L_law_956, e_L_law_957, e_L_law_961, e_L_law_964, e_L_law_965, eq_self, nI10, not_false_eq_true, not_true_eq_false, is2_i, is2_r, is2_n, nI_add, pk_mul, Nat.reduceAdd, Nat.reduceMul, f_L_948, f_L_957, j1, j2, j3, hl', e_L_law_949 (hE := e1), e_L_law_958 (hE := e2), if_true, hk]
  · obtain ⟨m1, m2, c, rm, e1, e2⟩ := st_op hM (⟨m, hC, fun _ _ => rfl, s_X7_againF (o := o) (d := d) hs⟩) (fun _ h => s_X8_againF (o := o) (d := d) h hs)
    refine ⟨m2, lg, ⟨_, _, _, _, _, _, _, _, _, c, rm, hN.up⟩, fun r => ?_⟩
    simp only [e_L_law_943, e_L_law_944, e_L_law_945, e_L_law_946, e_L_law_947, e_L_law_948, e_L_law_952, e_L_law_953, e_L_law_954, e_L_law_955, e_L_law_956, e_L_law_957, e_L_law_961, e_L_law_964, e_L_law_965, eq_self, nI10, not_false_eq_true, not_true_eq_false, is2_i, is2_r, is2_n, nI_add, pk_mul, Nat.reduceAdd, Nat.reduceMul, f_L_948, f_L_957, j1, j2, j3, hl', e_L_law_949 (hE := e1), e_L_law_958 (hE := e2), if_true]
theorem and31 (c : Int32) : ∃ q, q < 32 ∧ c &&& nI 31 = nI q := by
  refine ⟨c.toBitVec.toNat % 32, Nat.mod_lt _ (by decide), ?_⟩
  apply Int32.toBitVec_inj.1
  apply BitVec.eq_of_toNat_eq
  show (c.toBitVec &&& 31#32).toNat = (BitVec.ofNat 32 (c.toBitVec.toNat % 32)).toNat
  rw [BitVec.toNat_and, BitVec.toNat_ofNat, BitVec.toNat_ofNat]
  have e := Nat.and_two_pow_sub_one_eq_mod c.toBitVec.toNat 5
  simp only [Nat.reducePow, Nat.reduceSub, Nat.reduceMod] at e ⊢
  rw [e]
  omega
theorem law_step (ho : oOk o) (hl : o.1 0 ≤ 256) (ht : 4 * t + 4 ≤ o.1 0) (hJ : JJ t m lg) : ∃ m' lg', JJ (t + 1) m' lg' ∧ ∀ r, Rn o (d + 21) zL_law 26 [.ref ai_O, .ref 0, .ref 133, .int (nI (4 * t))] [] (ai_w m lg) r = Rn o (d + 21) zL_law 966 [.ref ai_O, .ref 0, .ref 133, .int (nI (4 * t))] [] (ai_w m' lg') r := by
  obtain ⟨q, hq, hqe⟩ := and31 (o.2 0 (4 * t))
  have j0 : 4 * t < o.1 0 := by omega
  have hl' : o.1 0 ≤ 1000 := by omega
  have pre : ∀ r, Rn o (d + 21) zL_law 26 [.ref ai_O, .ref 0, .ref 133, .int (nI (4 * t))] [] (ai_w m lg) r = Rn o (d + 21) zL_law 32 [.ref ai_O, .ref 0, .ref 133, .int (nI (4 * t))] [.int (nI q)] (ai_w m lg) r := fun r => by
    simp only [e_L_law_26, e_L_law_27, f_L_28, e_L_law_29, e_L_law_31, j0, hl', hqe]
  have hqs : q = 0 ∨ q = 1 ∨ q = 2 ∨ q = 3 ∨ q = 4 ∨ q = 5 ∨ q = 6 ∨ q = 7 ∨ q = 8 ∨ q = 9 ∨ q = 10 ∨ q = 11 ∨ q = 12 ∨ q = 13 ∨ q = 14 ∨ q = 15 ∨ q = 16 ∨ q = 17 ∨ q = 18 ∨ q = 19 ∨ q = 20 ∨ q = 21 ∨ q = 22 ∨ q = 23 ∨ q = 24 ∨ q = 25 ∨ q = 26 ∨ 26 < q := by omega
  rcases hqs with rfl | rfl | rfl | rfl | rfl | rfl | rfl | rfl | rfl | rfl | rfl | rfl | rfl | rfl | rfl | rfl | rfl | rfl | rfl | rfl | rfl | rfl | rfl | rfl | rfl | rfl | rfl | hb
  · obtain ⟨m', lg', a, b⟩ := lo_0 (d := d) ho hl ht hJ
    exact ⟨m', lg', a, fun r => by rw [pre, e_L_law_32_0, b]⟩
  · obtain ⟨m', lg', a, b⟩ := lo_1 (d := d) ho hl ht hJ
    exact ⟨m', lg', a, fun r => by rw [pre, e_L_law_32_1, b]⟩
  · obtain ⟨m', lg', a, b⟩ := lo_2 (d := d) ho hl ht hJ
    exact ⟨m', lg', a, fun r => by rw [pre, e_L_law_32_2, b]⟩
  · obtain ⟨m', lg', a, b⟩ := lo_3 (d := d) ho hl ht hJ
    exact ⟨m', lg', a, fun r => by rw [pre, e_L_law_32_3, b]⟩
  · obtain ⟨m', lg', a, b⟩ := lo_4 (d := d) ho hl ht hJ
    exact ⟨m', lg', a, fun r => by rw [pre, e_L_law_32_4, b]⟩
  · obtain ⟨m', lg', a, b⟩ := lo_5 (d := d) ho hl ht hJ
    exact ⟨m', lg', a, fun r => by rw [pre, e_L_law_32_5, b]⟩
  · obtain ⟨m', lg', a, b⟩ := lo_6 (d := d) ho hl ht hJ
    exact ⟨m', lg', a, fun r => by rw [pre, e_L_law_32_6, b]⟩
  · obtain ⟨m', lg', a, b⟩ := lo_7 (d := d) ho hl ht hJ
    exact ⟨m', lg', a, fun r => by rw [pre, e_L_law_32_7, b]⟩
  · obtain ⟨m', lg', a, b⟩ := lo_8 (d := d) ho hl ht hJ
    exact ⟨m', lg', a, fun r => by rw [pre, e_L_law_32_8, b]⟩
  · obtain ⟨m', lg', a, b⟩ := lo_9 (d := d) ho hl ht hJ
    exact ⟨m', lg', a, fun r => by rw [pre, e_L_law_32_9, b]⟩
  · obtain ⟨m', lg', a, b⟩ := lo_10 (d := d) ho hl ht hJ
    exact ⟨m', lg', a, fun r => by rw [pre, e_L_law_32_10, b]⟩
  · obtain ⟨m', lg', a, b⟩ := lo_11 (d := d) ho hl ht hJ
    exact ⟨m', lg', a, fun r => by rw [pre, e_L_law_32_11, b]⟩
  · obtain ⟨m', lg', a, b⟩ := lo_12 (d := d) ho hl ht hJ
    exact ⟨m', lg', a, fun r => by rw [pre, e_L_law_32_12, b]⟩
  · obtain ⟨m', lg', a, b⟩ := lo_13 (d := d) ho hl ht hJ
    exact ⟨m', lg', a, fun r => by rw [pre, e_L_law_32_13, b]⟩
  · obtain ⟨m', lg', a, b⟩ := lo_14 (d := d) ho hl ht hJ
    exact ⟨m', lg', a, fun r => by rw [pre, e_L_law_32_14, b]⟩
  · obtain ⟨m', lg', a, b⟩ := lo_15 (d := d) ho hl ht hJ
    exact ⟨m', lg', a, fun r => by rw [pre, e_L_law_32_15, b]⟩
  · obtain ⟨m', lg', a, b⟩ := lo_16 (d := d) ho hl ht hJ
    exact ⟨m', lg', a, fun r => by rw [pre, e_L_law_32_16, b]⟩
  · obtain ⟨m', lg', a, b⟩ := lo_17 (d := d) ho hl ht hJ
    exact ⟨m', lg', a, fun r => by rw [pre, e_L_law_32_17, b]⟩
  · obtain ⟨m', lg', a, b⟩ := lo_18 (d := d) ho hl ht hJ
    exact ⟨m', lg', a, fun r => by rw [pre, e_L_law_32_18, b]⟩
  · obtain ⟨m', lg', a, b⟩ := lo_19 (d := d) ho hl ht hJ
    exact ⟨m', lg', a, fun r => by rw [pre, e_L_law_32_19, b]⟩
  · obtain ⟨m', lg', a, b⟩ := lo_20 (d := d) ho hl ht hJ
    exact ⟨m', lg', a, fun r => by rw [pre, e_L_law_32_20, b]⟩
  · obtain ⟨m', lg', a, b⟩ := lo_21 (d := d) ho hl ht hJ
    exact ⟨m', lg', a, fun r => by rw [pre, e_L_law_32_21, b]⟩
  · obtain ⟨m', lg', a, b⟩ := lo_22 (d := d) ho hl ht hJ
    exact ⟨m', lg', a, fun r => by rw [pre, e_L_law_32_22, b]⟩
  · obtain ⟨m', lg', a, b⟩ := lo_23 (d := d) ho hl ht hJ
    exact ⟨m', lg', a, fun r => by rw [pre, e_L_law_32_23, b]⟩
  · obtain ⟨m', lg', a, b⟩ := lo_24 (d := d) ho hl ht hJ
    exact ⟨m', lg', a, fun r => by rw [pre, e_L_law_32_24, b]⟩
  · obtain ⟨m', lg', a, b⟩ := lo_25 (d := d) ho hl ht hJ
    exact ⟨m', lg', a, fun r => by rw [pre, e_L_law_32_25, b]⟩
  · obtain ⟨m', lg', a, b⟩ := lo_26 (d := d) ho hl ht hJ
    exact ⟨m', lg', a, fun r => by rw [pre, e_L_law_32_26, b]⟩
  · obtain ⟨tx, p, x, n, A, kp, K, so, sd, hC, hM, hN⟩ := hJ
    exact ⟨m, lg, ⟨tx, p, x, n, A, kp, K, so, sd, hC, hM, hN.up⟩, fun r => by rw [pre, e_L_law_32_d (by rw [nI_toInt (by omega)]; omega)]⟩
theorem law_loop (ho : oOk o) (hl : o.1 0 ≤ 256) : ∀ (k t : Nat) (m : Nat → Nat → Int32) (lg : Nat → Nat → Int64), o.1 0 ≤ 4 * (t + k) + 3 → t ≤ 64 → JJ t m lg → ∃ m' lg', Rn o (d + 21) zL_law 18 [.ref ai_O, .ref 0, .ref 133, .int (nI (4 * t))] [] (ai_w m lg) (some (.int (nI 1)), ai_w m' lg') := by
  intro k
  induction k with
  | zero =>
    intro t m lg hk ht hJ
    have e : (nI (o.1 0) - nI 4 < nI (4 * t)) = True := by
      simp only [eq_iff_iff, iff_true]
      rw [Int32.lt_iff_toInt_lt, pk_sub_toInt (by omega) (by omega), nI_toInt (by omega)]
      omega
    refine ⟨m, lg, ?_⟩
    simp only [e_L_law_18, e_L_law_19, e_L_law_20, e_L_law_21, e_L_law_22, e_L_law_23, e, if_true, e_L_law_972, e_L_law_973, nar_1]
  | succ k ih =>
    intro t m lg hk ht hJ
    by_cases h4 : 4 * t + 4 ≤ o.1 0
    · have e : (nI (o.1 0) - nI 4 < nI (4 * t)) = False := by
        simp only [eq_iff_iff, iff_false]
        rw [Int32.lt_iff_toInt_lt, pk_sub_toInt (by omega) (by omega), nI_toInt (by omega)]
        omega
      obtain ⟨m1, lg1, h1, h2⟩ := law_step (d := d) ho hl h4 hJ
      obtain ⟨m', lg', h3⟩ := ih (t + 1) m1 lg1 (by omega) (by omega) h1
      refine ⟨m', lg', ?_⟩
      rw [show 4 * (t + 1) = 4 * t + 4 by omega] at h3
      simp only [e_L_law_18, e_L_law_19, e_L_law_20, e_L_law_21, e_L_law_22, e_L_law_23, e, if_false]
      rw [h2, e_L_law_966_r, nI_add, e_L_law_969]
      exact h3
    · exact ih t m lg (by omega) ht hJ
end P67
