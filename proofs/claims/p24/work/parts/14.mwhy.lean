/-! the reference: WHY, safe (its answer is between 0 and 9) -/
set_option maxHeartbeats 2000000 in
theorem ct_X11_whyOf (E : jf_E) (σ : jf_S) (f h b s w : Int32) (hI : mI_s σ) (f0 : 0 ≤ f.toInt) (f1 : f.toInt < 20) (h0 : 0 ≤ h.toInt) (h1 : h.toInt < 4) : jf_I jh_M E yX11_whyOf cX11_whyOf 13 .int 1 [jf_r E 0, .int f, .int h, .int b, .int s, .int w] σ (fun r τ => (0 ≤ r.toInt ∧ r.toInt ≤ 9) ∧ σ = τ) := by
  refine jf_mkI (by decide) (Nat.le_of_ble_eq_true rfl) ?_
  intro G C ret
  have hE := hI.1
  have J355 : ∀ (e a7 a8 a9 n : Int32), jf_X jh_M E G 13 355 [(0, jf_r E 0), (1, .int f), (2, .int h), (3, .int b), (4, .int s), (5, .int w), (6, .int e), (7, .int a7), (8, .int a8), (9, .int a9), (10, .int n)] [] σ := by
    intro e a7 a8 a9 n
    refine jr_iload C dX11_whyOf_355 rfl ?_
    refine jr_nif_ne C 365 dX11_whyOf_357 (by decide) (fun b357 => ?_) (fun b357 => ?_)
    · refine jr_iload C dX11_whyOf_365 rfl ?_
      refine jr_nif_eq C 374 dX11_whyOf_367 (by decide) (fun b367 => ?_) (fun b367 => ?_)
      · refine jr_iconst C (v := 4) dX11_whyOf_374 (by decide) ?_
        exact ret _ _ _ _ dX11_whyOf_375 rfl (⟨by decide, rfl⟩)
      · refine jr_iconst C (v := 3) dX11_whyOf_370 (by decide) ?_
        refine jr_goto C 375 dX11_whyOf_371 (by decide) ?_
        exact ret _ _ _ _ dX11_whyOf_375 rfl (⟨by decide, rfl⟩)
    · refine jr_iload C dX11_whyOf_360 rfl ?_
      refine jr_nif_eq C 376 dX11_whyOf_362 (by decide) (fun b362 => ?_) (fun b362 => ?_)
      · refine jr_iload C dX11_whyOf_376 rfl ?_
        refine jr_iconst C (v := 1) dX11_whyOf_378 (by decide) ?_
        refine jr_ncmp_ne C (b := 1) 415 dX11_whyOf_379 (by decide) rfl rfl (fun b379 => ?_) (fun b379 => ?_)
        · refine jr_iload C dX11_whyOf_415 rfl ?_
          refine jr_iconst C (v := 2) dX11_whyOf_417 (by decide) ?_
          refine jr_ncmp_ne C (b := 2) 445 dX11_whyOf_418 (by decide) rfl rfl (fun b418 => ?_) (fun b418 => ?_)
          · refine jr_iload_n C dX11_whyOf_445 rfl ?_
            refine jr_aload_n C dX11_whyOf_446 rfl ?_
            refine jr_getr C kf_X11_37_0 dX11_whyOf_447 ?_
            refine jr_iload_n C dX11_whyOf_450 rfl ?_
            refine jr_ialv C ka_M_10 dX11_whyOf_451 (ji_in (i := f) (by omega) (by omega)) (v := σ.1 10 _) rfl ?_
            refine jr_ncmp_ge C 460 dX11_whyOf_452 (by decide) rfl rfl (fun b452 => ?_) (fun b452 => ?_)
            · refine jr_iload C dX11_whyOf_460 rfl ?_
              refine jr_aload_n C dX11_whyOf_462 rfl ?_
              refine jr_getr C kf_X11_40_0 dX11_whyOf_463 ?_
              refine jr_iload_n C dX11_whyOf_466 rfl ?_
              refine jr_ialv C ka_M_11 dX11_whyOf_467 (ji_in (i := f) (by omega) (by omega)) (v := σ.1 11 _) rfl ?_
              refine jr_ncmp_le C 476 dX11_whyOf_468 (by decide) rfl rfl (fun b468 => ?_) (fun b468 => ?_)
              · refine jr_iload C dX11_whyOf_476 rfl ?_
                refine jr_nif_eq C 486 dX11_whyOf_478 (by decide) (fun b478 => ?_) (fun b478 => ?_)
                · refine jr_iconst C (v := 0) dX11_whyOf_486 (by decide) ?_
                  exact ret _ _ _ _ dX11_whyOf_487 rfl (⟨by decide, rfl⟩)
                · refine jr_bipush C (v := 9) dX11_whyOf_481 (by decide) ?_
                  refine jr_goto C 487 dX11_whyOf_483 (by decide) ?_
                  exact ret _ _ _ _ dX11_whyOf_487 rfl (⟨by decide, rfl⟩)
              · refine jr_bipush C (v := 8) dX11_whyOf_471 (by decide) ?_
                refine jr_goto C 487 dX11_whyOf_473 (by decide) ?_
                exact ret _ _ _ _ dX11_whyOf_487 rfl (⟨by decide, rfl⟩)
            · refine jr_bipush C (v := 7) dX11_whyOf_455 (by decide) ?_
              refine jr_goto C 487 dX11_whyOf_457 (by decide) ?_
              exact ret _ _ _ _ dX11_whyOf_487 rfl (⟨by decide, rfl⟩)
          · refine jr_iload_n C dX11_whyOf_421 rfl ?_
            refine jr_sipush C (v := 1440) dX11_whyOf_422 (by decide) ?_
            refine jr_irem C dX11_whyOf_425 (by decide) ?_
            refine jr_bipush C (v := 120) dX11_whyOf_426 (by decide) ?_
            refine jr_ncmp_lt C (b := 120) 445 dX11_whyOf_428 (by decide) rfl rfl (fun b428 => ?_) (fun b428 => ?_)
            · refine jr_iload_n C dX11_whyOf_445 rfl ?_
              refine jr_aload_n C dX11_whyOf_446 rfl ?_
              refine jr_getr C kf_X11_37_0 dX11_whyOf_447 ?_
              refine jr_iload_n C dX11_whyOf_450 rfl ?_
              refine jr_ialv C ka_M_10 dX11_whyOf_451 (ji_in (i := f) (by omega) (by omega)) (v := σ.1 10 _) rfl ?_
              refine jr_ncmp_ge C 460 dX11_whyOf_452 (by decide) rfl rfl (fun b452 => ?_) (fun b452 => ?_)
              · refine jr_iload C dX11_whyOf_460 rfl ?_
                refine jr_aload_n C dX11_whyOf_462 rfl ?_
                refine jr_getr C kf_X11_40_0 dX11_whyOf_463 ?_
                refine jr_iload_n C dX11_whyOf_466 rfl ?_
                refine jr_ialv C ka_M_11 dX11_whyOf_467 (ji_in (i := f) (by omega) (by omega)) (v := σ.1 11 _) rfl ?_
                refine jr_ncmp_le C 476 dX11_whyOf_468 (by decide) rfl rfl (fun b468 => ?_) (fun b468 => ?_)
                · refine jr_iload C dX11_whyOf_476 rfl ?_
                  refine jr_nif_eq C 486 dX11_whyOf_478 (by decide) (fun b478 => ?_) (fun b478 => ?_)
                  · refine jr_iconst C (v := 0) dX11_whyOf_486 (by decide) ?_
                    exact ret _ _ _ _ dX11_whyOf_487 rfl (⟨by decide, rfl⟩)
                  · refine jr_bipush C (v := 9) dX11_whyOf_481 (by decide) ?_
                    refine jr_goto C 487 dX11_whyOf_483 (by decide) ?_
                    exact ret _ _ _ _ dX11_whyOf_487 rfl (⟨by decide, rfl⟩)
                · refine jr_bipush C (v := 8) dX11_whyOf_471 (by decide) ?_
                  refine jr_goto C 487 dX11_whyOf_473 (by decide) ?_
                  exact ret _ _ _ _ dX11_whyOf_487 rfl (⟨by decide, rfl⟩)
              · refine jr_bipush C (v := 7) dX11_whyOf_455 (by decide) ?_
                refine jr_goto C 487 dX11_whyOf_457 (by decide) ?_
                exact ret _ _ _ _ dX11_whyOf_487 rfl (⟨by decide, rfl⟩)
            · refine jr_iload_n C dX11_whyOf_431 rfl ?_
              refine jr_sipush C (v := 1440) dX11_whyOf_432 (by decide) ?_
              refine jr_irem C dX11_whyOf_435 (by decide) ?_
              refine jr_sipush C (v := 1320) dX11_whyOf_436 (by decide) ?_
              refine jr_ncmp_ge C (b := 1320) 445 dX11_whyOf_439 (by decide) rfl rfl (fun b439 => ?_) (fun b439 => ?_)
              · refine jr_iload_n C dX11_whyOf_445 rfl ?_
                refine jr_aload_n C dX11_whyOf_446 rfl ?_
                refine jr_getr C kf_X11_37_0 dX11_whyOf_447 ?_
                refine jr_iload_n C dX11_whyOf_450 rfl ?_
                refine jr_ialv C ka_M_10 dX11_whyOf_451 (ji_in (i := f) (by omega) (by omega)) (v := σ.1 10 _) rfl ?_
                refine jr_ncmp_ge C 460 dX11_whyOf_452 (by decide) rfl rfl (fun b452 => ?_) (fun b452 => ?_)
                · refine jr_iload C dX11_whyOf_460 rfl ?_
                  refine jr_aload_n C dX11_whyOf_462 rfl ?_
                  refine jr_getr C kf_X11_40_0 dX11_whyOf_463 ?_
                  refine jr_iload_n C dX11_whyOf_466 rfl ?_
                  refine jr_ialv C ka_M_11 dX11_whyOf_467 (ji_in (i := f) (by omega) (by omega)) (v := σ.1 11 _) rfl ?_
                  refine jr_ncmp_le C 476 dX11_whyOf_468 (by decide) rfl rfl (fun b468 => ?_) (fun b468 => ?_)
                  · refine jr_iload C dX11_whyOf_476 rfl ?_
                    refine jr_nif_eq C 486 dX11_whyOf_478 (by decide) (fun b478 => ?_) (fun b478 => ?_)
                    · refine jr_iconst C (v := 0) dX11_whyOf_486 (by decide) ?_
                      exact ret _ _ _ _ dX11_whyOf_487 rfl (⟨by decide, rfl⟩)
                    · refine jr_bipush C (v := 9) dX11_whyOf_481 (by decide) ?_
                      refine jr_goto C 487 dX11_whyOf_483 (by decide) ?_
                      exact ret _ _ _ _ dX11_whyOf_487 rfl (⟨by decide, rfl⟩)
                  · refine jr_bipush C (v := 8) dX11_whyOf_471 (by decide) ?_
                    refine jr_goto C 487 dX11_whyOf_473 (by decide) ?_
                    exact ret _ _ _ _ dX11_whyOf_487 rfl (⟨by decide, rfl⟩)
                · refine jr_bipush C (v := 7) dX11_whyOf_455 (by decide) ?_
                  refine jr_goto C 487 dX11_whyOf_457 (by decide) ?_
                  exact ret _ _ _ _ dX11_whyOf_487 rfl (⟨by decide, rfl⟩)
              · refine jr_bipush C (v := 6) dX11_whyOf_442 (by decide) ?_
                exact ret _ _ _ _ dX11_whyOf_444 rfl (⟨by decide, rfl⟩)
        · refine jr_aload_n C dX11_whyOf_382 rfl ?_
          refine jr_getr C kf_X11_31_0 dX11_whyOf_383 ?_
          refine jr_iload_n C dX11_whyOf_386 rfl ?_
          refine jr_ialv C ka_M_8 dX11_whyOf_387 (ji_in (i := f) (by omega) (by omega)) (v := σ.1 8 _) rfl ?_
          refine jr_iconst C (v := -1) dX11_whyOf_388 (by decide) ?_
          refine jr_ncmp_eq C (b := -1) 413 dX11_whyOf_389 (by decide) rfl rfl (fun b389 => ?_) (fun b389 => ?_)
          · refine jr_iconst C (v := 5) dX11_whyOf_413 (by decide) ?_
            exact ret _ _ _ _ dX11_whyOf_414 rfl (⟨by decide, rfl⟩)
          · refine jr_aload_n C dX11_whyOf_392 rfl ?_
            refine jr_getr C kf_X11_31_0 dX11_whyOf_393 ?_
            refine jr_iload_n C dX11_whyOf_396 rfl ?_
            refine jr_ialv C ka_M_8 dX11_whyOf_397 (ji_in (i := f) (by omega) (by omega)) (v := σ.1 8 _) rfl ?_
            refine jr_iload_n C dX11_whyOf_398 rfl ?_
            refine jr_ncmp_gt C 413 dX11_whyOf_399 (by decide) rfl rfl (fun b399 => ?_) (fun b399 => ?_)
            · refine jr_iconst C (v := 5) dX11_whyOf_413 (by decide) ?_
              exact ret _ _ _ _ dX11_whyOf_414 rfl (⟨by decide, rfl⟩)
            · refine jr_aload_n C dX11_whyOf_402 rfl ?_
              refine jr_getr C kf_X11_34_0 dX11_whyOf_403 ?_
              refine jr_iload_n C dX11_whyOf_406 rfl ?_
              refine jr_ialv C ka_M_9 dX11_whyOf_407 (ji_in (i := f) (by omega) (by omega)) (v := σ.1 9 _) rfl ?_
              refine jr_iload C dX11_whyOf_408 rfl ?_
              refine jr_ncmp_ge C 415 dX11_whyOf_410 (by decide) rfl rfl (fun b410 => ?_) (fun b410 => ?_)
              · refine jr_iload C dX11_whyOf_415 rfl ?_
                refine jr_iconst C (v := 2) dX11_whyOf_417 (by decide) ?_
                refine jr_ncmp_ne C (b := 2) 445 dX11_whyOf_418 (by decide) rfl rfl (fun b418 => ?_) (fun b418 => ?_)
                · refine jr_iload_n C dX11_whyOf_445 rfl ?_
                  refine jr_aload_n C dX11_whyOf_446 rfl ?_
                  refine jr_getr C kf_X11_37_0 dX11_whyOf_447 ?_
                  refine jr_iload_n C dX11_whyOf_450 rfl ?_
                  refine jr_ialv C ka_M_10 dX11_whyOf_451 (ji_in (i := f) (by omega) (by omega)) (v := σ.1 10 _) rfl ?_
                  refine jr_ncmp_ge C 460 dX11_whyOf_452 (by decide) rfl rfl (fun b452 => ?_) (fun b452 => ?_)
                  · refine jr_iload C dX11_whyOf_460 rfl ?_
                    refine jr_aload_n C dX11_whyOf_462 rfl ?_
                    refine jr_getr C kf_X11_40_0 dX11_whyOf_463 ?_
                    refine jr_iload_n C dX11_whyOf_466 rfl ?_
                    refine jr_ialv C ka_M_11 dX11_whyOf_467 (ji_in (i := f) (by omega) (by omega)) (v := σ.1 11 _) rfl ?_
                    refine jr_ncmp_le C 476 dX11_whyOf_468 (by decide) rfl rfl (fun b468 => ?_) (fun b468 => ?_)
                    · refine jr_iload C dX11_whyOf_476 rfl ?_
                      refine jr_nif_eq C 486 dX11_whyOf_478 (by decide) (fun b478 => ?_) (fun b478 => ?_)
                      · refine jr_iconst C (v := 0) dX11_whyOf_486 (by decide) ?_
                        exact ret _ _ _ _ dX11_whyOf_487 rfl (⟨by decide, rfl⟩)
                      · refine jr_bipush C (v := 9) dX11_whyOf_481 (by decide) ?_
                        refine jr_goto C 487 dX11_whyOf_483 (by decide) ?_
                        exact ret _ _ _ _ dX11_whyOf_487 rfl (⟨by decide, rfl⟩)
                    · refine jr_bipush C (v := 8) dX11_whyOf_471 (by decide) ?_
                      refine jr_goto C 487 dX11_whyOf_473 (by decide) ?_
                      exact ret _ _ _ _ dX11_whyOf_487 rfl (⟨by decide, rfl⟩)
                  · refine jr_bipush C (v := 7) dX11_whyOf_455 (by decide) ?_
                    refine jr_goto C 487 dX11_whyOf_457 (by decide) ?_
                    exact ret _ _ _ _ dX11_whyOf_487 rfl (⟨by decide, rfl⟩)
                · refine jr_iload_n C dX11_whyOf_421 rfl ?_
                  refine jr_sipush C (v := 1440) dX11_whyOf_422 (by decide) ?_
                  refine jr_irem C dX11_whyOf_425 (by decide) ?_
                  refine jr_bipush C (v := 120) dX11_whyOf_426 (by decide) ?_
                  refine jr_ncmp_lt C (b := 120) 445 dX11_whyOf_428 (by decide) rfl rfl (fun b428 => ?_) (fun b428 => ?_)
                  · refine jr_iload_n C dX11_whyOf_445 rfl ?_
                    refine jr_aload_n C dX11_whyOf_446 rfl ?_
                    refine jr_getr C kf_X11_37_0 dX11_whyOf_447 ?_
                    refine jr_iload_n C dX11_whyOf_450 rfl ?_
                    refine jr_ialv C ka_M_10 dX11_whyOf_451 (ji_in (i := f) (by omega) (by omega)) (v := σ.1 10 _) rfl ?_
                    refine jr_ncmp_ge C 460 dX11_whyOf_452 (by decide) rfl rfl (fun b452 => ?_) (fun b452 => ?_)
                    · refine jr_iload C dX11_whyOf_460 rfl ?_
                      refine jr_aload_n C dX11_whyOf_462 rfl ?_
                      refine jr_getr C kf_X11_40_0 dX11_whyOf_463 ?_
                      refine jr_iload_n C dX11_whyOf_466 rfl ?_
                      refine jr_ialv C ka_M_11 dX11_whyOf_467 (ji_in (i := f) (by omega) (by omega)) (v := σ.1 11 _) rfl ?_
                      refine jr_ncmp_le C 476 dX11_whyOf_468 (by decide) rfl rfl (fun b468 => ?_) (fun b468 => ?_)
                      · refine jr_iload C dX11_whyOf_476 rfl ?_
                        refine jr_nif_eq C 486 dX11_whyOf_478 (by decide) (fun b478 => ?_) (fun b478 => ?_)
                        · refine jr_iconst C (v := 0) dX11_whyOf_486 (by decide) ?_
                          exact ret _ _ _ _ dX11_whyOf_487 rfl (⟨by decide, rfl⟩)
                        · refine jr_bipush C (v := 9) dX11_whyOf_481 (by decide) ?_
                          refine jr_goto C 487 dX11_whyOf_483 (by decide) ?_
                          exact ret _ _ _ _ dX11_whyOf_487 rfl (⟨by decide, rfl⟩)
                      · refine jr_bipush C (v := 8) dX11_whyOf_471 (by decide) ?_
                        refine jr_goto C 487 dX11_whyOf_473 (by decide) ?_
                        exact ret _ _ _ _ dX11_whyOf_487 rfl (⟨by decide, rfl⟩)
                    · refine jr_bipush C (v := 7) dX11_whyOf_455 (by decide) ?_
                      refine jr_goto C 487 dX11_whyOf_457 (by decide) ?_
                      exact ret _ _ _ _ dX11_whyOf_487 rfl (⟨by decide, rfl⟩)
                  · refine jr_iload_n C dX11_whyOf_431 rfl ?_
                    refine jr_sipush C (v := 1440) dX11_whyOf_432 (by decide) ?_
                    refine jr_irem C dX11_whyOf_435 (by decide) ?_
                    refine jr_sipush C (v := 1320) dX11_whyOf_436 (by decide) ?_
                    refine jr_ncmp_ge C (b := 1320) 445 dX11_whyOf_439 (by decide) rfl rfl (fun b439 => ?_) (fun b439 => ?_)
                    · refine jr_iload_n C dX11_whyOf_445 rfl ?_
                      refine jr_aload_n C dX11_whyOf_446 rfl ?_
                      refine jr_getr C kf_X11_37_0 dX11_whyOf_447 ?_
                      refine jr_iload_n C dX11_whyOf_450 rfl ?_
                      refine jr_ialv C ka_M_10 dX11_whyOf_451 (ji_in (i := f) (by omega) (by omega)) (v := σ.1 10 _) rfl ?_
                      refine jr_ncmp_ge C 460 dX11_whyOf_452 (by decide) rfl rfl (fun b452 => ?_) (fun b452 => ?_)
                      · refine jr_iload C dX11_whyOf_460 rfl ?_
                        refine jr_aload_n C dX11_whyOf_462 rfl ?_
                        refine jr_getr C kf_X11_40_0 dX11_whyOf_463 ?_
                        refine jr_iload_n C dX11_whyOf_466 rfl ?_
                        refine jr_ialv C ka_M_11 dX11_whyOf_467 (ji_in (i := f) (by omega) (by omega)) (v := σ.1 11 _) rfl ?_
                        refine jr_ncmp_le C 476 dX11_whyOf_468 (by decide) rfl rfl (fun b468 => ?_) (fun b468 => ?_)
                        · refine jr_iload C dX11_whyOf_476 rfl ?_
                          refine jr_nif_eq C 486 dX11_whyOf_478 (by decide) (fun b478 => ?_) (fun b478 => ?_)
                          · refine jr_iconst C (v := 0) dX11_whyOf_486 (by decide) ?_
                            exact ret _ _ _ _ dX11_whyOf_487 rfl (⟨by decide, rfl⟩)
                          · refine jr_bipush C (v := 9) dX11_whyOf_481 (by decide) ?_
                            refine jr_goto C 487 dX11_whyOf_483 (by decide) ?_
                            exact ret _ _ _ _ dX11_whyOf_487 rfl (⟨by decide, rfl⟩)
                        · refine jr_bipush C (v := 8) dX11_whyOf_471 (by decide) ?_
                          refine jr_goto C 487 dX11_whyOf_473 (by decide) ?_
                          exact ret _ _ _ _ dX11_whyOf_487 rfl (⟨by decide, rfl⟩)
                      · refine jr_bipush C (v := 7) dX11_whyOf_455 (by decide) ?_
                        refine jr_goto C 487 dX11_whyOf_457 (by decide) ?_
                        exact ret _ _ _ _ dX11_whyOf_487 rfl (⟨by decide, rfl⟩)
                    · refine jr_bipush C (v := 6) dX11_whyOf_442 (by decide) ?_
                      exact ret _ _ _ _ dX11_whyOf_444 rfl (⟨by decide, rfl⟩)
              · refine jr_iconst C (v := 5) dX11_whyOf_413 (by decide) ?_
                exact ret _ _ _ _ dX11_whyOf_414 rfl (⟨by decide, rfl⟩)
      · refine jr_iload C dX11_whyOf_365 rfl ?_
        refine jr_nif_eq C 374 dX11_whyOf_367 (by decide) (fun b367 => ?_) (fun b367 => ?_)
        · refine jr_iconst C (v := 4) dX11_whyOf_374 (by decide) ?_
          exact ret _ _ _ _ dX11_whyOf_375 rfl (⟨by decide, rfl⟩)
        · refine jr_iconst C (v := 3) dX11_whyOf_370 (by decide) ?_
          refine jr_goto C 375 dX11_whyOf_371 (by decide) ?_
          exact ret _ _ _ _ dX11_whyOf_375 rfl (⟨by decide, rfl⟩)
  have loop : ∀ (m : Nat) (e a7 a8 a9 n o : Int32), 0 ≤ o.toInt → o.toInt ≤ ((σ.1 0 17)).toInt → ((σ.1 0 17)).toInt - o.toInt < m → jf_X jh_M E G 13 55 [(0, jf_r E 0), (1, .int f), (2, .int h), (3, .int b), (4, .int s), (5, .int w), (6, .int e), (7, .int a7), (8, .int a8), (9, .int a9), (10, .int n), (11, .int o)] [] σ := by
    intro m
    induction m with
    | zero => intro e a7 a8 a9 n o g1 g2 g3; exfalso; omega
    | succ m ih =>
      intro e a7 a8 a9 n o g1 g2 g3
      have e1 := ji_inc (k := o) (by omega)
      refine jr_iload C dX11_whyOf_55 rfl ?_
      refine jr_aload_n C dX11_whyOf_57 rfl ?_
      refine jr_geti C kf_X11_160_0 dX11_whyOf_58 ?_
      refine jr_ncmp_ge C 355 dX11_whyOf_61 (by decide) rfl rfl (fun b61 => ?_) (fun b61 => ?_)
      · exact jr_sub [(0, jf_r E 0), (1, .int f), (2, .int h), (3, .int b), (4, .int s), (5, .int w), (6, .int e), (7, .int a7), (8, .int a8), (9, .int a9), (10, .int n)] rfl (J355 _ _ _ _ _)
      have J349 : ∀ (a7 a8 a9 n : Int32), jf_X jh_M E G 13 349 [(0, jf_r E 0), (1, .int f), (2, .int h), (3, .int b), (4, .int s), (5, .int w), (6, .int e), (7, .int a7), (8, .int a8), (9, .int a9), (10, .int n), (11, .int o)] [] σ := by
        intro a7 a8 a9 n
        refine jr_iinc C _ dX11_whyOf_349 rfl rfl (by decide) ?_
        refine jr_goto C 55 dX11_whyOf_352 (by decide) ?_
        exact jr_sub [(0, jf_r E 0), (1, .int f), (2, .int h), (3, .int b), (4, .int s), (5, .int w), (6, .int e), (7, .int a7), (8, .int a8), (9, .int a9), (10, .int n), (11, .int _)] rfl (ih _ _ _ _ _ _ (by omega) (by omega) (by omega))
      have J289 : ∀ (a7 a8 n p : Int32), jf_X jh_M E G 13 289 [(0, jf_r E 0), (1, .int f), (2, .int h), (3, .int b), (4, .int s), (5, .int w), (6, .int e), (7, .int a7), (8, .int a8), (9, .int a9), (10, .int n), (11, .int o), (12, .int p)] [] σ := by
        intro a7 a8 n p
        refine jr_iload C dX11_whyOf_289 rfl ?_
        refine jr_nif_ne C 342 dX11_whyOf_291 (by decide) (fun b291 => ?_) (fun b291 => ?_)
        · refine jr_iconst C (v := 1) dX11_whyOf_342 (by decide) ?_
          refine jr_goto C 347 dX11_whyOf_343 (by decide) ?_
          refine jr_istore C dX11_whyOf_347 (by decide) ?_
          exact jr_sub [(0, jf_r E 0), (1, .int f), (2, .int h), (3, .int b), (4, .int s), (5, .int w), (6, .int e), (7, .int a7), (8, .int a8), (9, .int _), (10, .int n), (11, .int o)] rfl (J349 _ _ _ _)
        · refine jr_iload C dX11_whyOf_294 rfl ?_
          refine jr_nif_eq C 346 dX11_whyOf_296 (by decide) (fun b296 => ?_) (fun b296 => ?_)
          · refine jr_iconst C (v := 0) dX11_whyOf_346 (by decide) ?_
            refine jr_istore C dX11_whyOf_347 (by decide) ?_
            exact jr_sub [(0, jf_r E 0), (1, .int f), (2, .int h), (3, .int b), (4, .int s), (5, .int w), (6, .int e), (7, .int a7), (8, .int a8), (9, .int _), (10, .int n), (11, .int o)] rfl (J349 _ _ _ _)
          · refine jr_aload_n C dX11_whyOf_299 rfl ?_
            refine jr_getr C kf_X11_7_0 dX11_whyOf_300 ?_
            refine jr_aload_n C dX11_whyOf_303 rfl ?_
            refine jr_getr C kf_X11_56_0 dX11_whyOf_304 ?_
            refine jr_iload C dX11_whyOf_307 rfl ?_
            refine jr_ialv C ka_M_16 dX11_whyOf_309 (ji_in (i := o) (by omega) (by omega)) (v := σ.1 16 _) rfl ?_
            refine jr_ialv C ka_M_1 dX11_whyOf_310 (mI_hall hI _ (by decide)) (v := σ.1 1 _) rfl ?_
            refine jr_aload_n C dX11_whyOf_311 rfl ?_
            refine jr_getr C kf_X11_7_0 dX11_whyOf_312 ?_
            refine jr_iload_n C dX11_whyOf_315 rfl ?_
            refine jr_ialv C ka_M_1 dX11_whyOf_316 (ji_in (i := h) (by omega) (by omega)) (v := σ.1 1 _) rfl ?_
            refine jr_ncmp_ne C 346 dX11_whyOf_317 (by decide) rfl rfl (fun b317 => ?_) (fun b317 => ?_)
            · refine jr_iconst C (v := 0) dX11_whyOf_346 (by decide) ?_
              refine jr_istore C dX11_whyOf_347 (by decide) ?_
              exact jr_sub [(0, jf_r E 0), (1, .int f), (2, .int h), (3, .int b), (4, .int s), (5, .int w), (6, .int e), (7, .int a7), (8, .int a8), (9, .int _), (10, .int n), (11, .int o)] rfl (J349 _ _ _ _)
            · refine jr_aload_n C dX11_whyOf_320 rfl ?_
              refine jr_getr C kf_X11_59_0 dX11_whyOf_321 ?_
              refine jr_iload C dX11_whyOf_324 rfl ?_
              refine jr_ialv C ka_M_17 dX11_whyOf_326 (ji_in (i := o) (by omega) (by omega)) (v := σ.1 17 _) rfl ?_
              refine jr_iload C dX11_whyOf_327 rfl ?_
              refine jr_ncmp_ge C 346 dX11_whyOf_329 (by decide) rfl rfl (fun b329 => ?_) (fun b329 => ?_)
              · refine jr_iconst C (v := 0) dX11_whyOf_346 (by decide) ?_
                refine jr_istore C dX11_whyOf_347 (by decide) ?_
                exact jr_sub [(0, jf_r E 0), (1, .int f), (2, .int h), (3, .int b), (4, .int s), (5, .int w), (6, .int e), (7, .int a7), (8, .int a8), (9, .int _), (10, .int n), (11, .int o)] rfl (J349 _ _ _ _)
              · refine jr_aload_n C dX11_whyOf_332 rfl ?_
                refine jr_iload C dX11_whyOf_333 rfl ?_
                refine jr_vip C [.int _] _ (ct_X11_endOf E _ _ hI (by omega) (by omega)) ky_X11_endOf kv_X11_endOf kk_M_0 km_X11_192 (by decide) rfl (Nat.le_of_ble_eq_true rfl) dX11_whyOf_335 ?_
                refine jr_iload_n C dX11_whyOf_338 rfl ?_
                refine jr_ncmp_le C 346 dX11_whyOf_339 (by decide) rfl rfl (fun b339 => ?_) (fun b339 => ?_)
                · refine jr_iconst C (v := 0) dX11_whyOf_346 (by decide) ?_
                  refine jr_istore C dX11_whyOf_347 (by decide) ?_
                  exact jr_sub [(0, jf_r E 0), (1, .int f), (2, .int h), (3, .int b), (4, .int s), (5, .int w), (6, .int e), (7, .int a7), (8, .int a8), (9, .int _), (10, .int n), (11, .int o)] rfl (J349 _ _ _ _)
                · refine jr_iconst C (v := 1) dX11_whyOf_342 (by decide) ?_
                  refine jr_goto C 347 dX11_whyOf_343 (by decide) ?_
                  refine jr_istore C dX11_whyOf_347 (by decide) ?_
                  exact jr_sub [(0, jf_r E 0), (1, .int f), (2, .int h), (3, .int b), (4, .int s), (5, .int w), (6, .int e), (7, .int a7), (8, .int a8), (9, .int _), (10, .int n), (11, .int o)] rfl (J349 _ _ _ _)
      have J250 : ∀ (a7 a8 n : Int32), jf_X jh_M E G 13 250 [(0, jf_r E 0), (1, .int f), (2, .int h), (3, .int b), (4, .int s), (5, .int w), (6, .int e), (7, .int a7), (8, .int a8), (9, .int a9), (10, .int n), (11, .int o)] [] σ := by
        intro a7 a8 n
        refine jr_aload_n C dX11_whyOf_250 rfl ?_
        refine jr_getr C kf_X11_43_0 dX11_whyOf_251 ?_
        refine jr_iload_n C dX11_whyOf_254 rfl ?_
        refine jr_ialv C ka_M_12 dX11_whyOf_255 (ji_in (i := f) (by omega) (by omega)) (v := σ.1 12 _) rfl ?_
        refine jr_aload_n C dX11_whyOf_256 rfl ?_
        refine jr_getr C kf_X11_53_0 dX11_whyOf_257 ?_
        refine jr_iload C dX11_whyOf_260 rfl ?_
        refine jr_ialv C ka_M_15 dX11_whyOf_262 (ji_in (i := o) (by omega) (by omega)) (v := σ.1 15 _) rfl ?_
        refine jr_ncmp_eq C 282 dX11_whyOf_263 (by decide) rfl rfl (fun b263 => ?_) (fun b263 => ?_)
        · refine jr_iconst C (v := 1) dX11_whyOf_282 (by decide) ?_
          refine jr_goto C 287 dX11_whyOf_283 (by decide) ?_
          refine jr_istore C dX11_whyOf_287 (by decide) ?_
          exact jr_sub [(0, jf_r E 0), (1, .int f), (2, .int h), (3, .int b), (4, .int s), (5, .int w), (6, .int e), (7, .int a7), (8, .int a8), (9, .int a9), (10, .int n), (11, .int o), (12, .int _)] rfl (J289 _ _ _ _)
        · refine jr_aload_n C dX11_whyOf_266 rfl ?_
          refine jr_getr C kf_X11_43_0 dX11_whyOf_267 ?_
          refine jr_aload_n C dX11_whyOf_270 rfl ?_
          refine jr_getr C kf_X11_53_0 dX11_whyOf_271 ?_
          refine jr_iload C dX11_whyOf_274 rfl ?_
          refine jr_ialv C ka_M_15 dX11_whyOf_276 (ji_in (i := o) (by omega) (by omega)) (v := σ.1 15 _) rfl ?_
          refine jr_ialv C ka_M_12 dX11_whyOf_277 (mI_film hI _ (by decide)) (v := σ.1 12 _) rfl ?_
          refine jr_iload_n C dX11_whyOf_278 rfl ?_
          refine jr_ncmp_ne C 286 dX11_whyOf_279 (by decide) rfl rfl (fun b279 => ?_) (fun b279 => ?_)
          · refine jr_iconst C (v := 0) dX11_whyOf_286 (by decide) ?_
            refine jr_istore C dX11_whyOf_287 (by decide) ?_
            exact jr_sub [(0, jf_r E 0), (1, .int f), (2, .int h), (3, .int b), (4, .int s), (5, .int w), (6, .int e), (7, .int a7), (8, .int a8), (9, .int a9), (10, .int n), (11, .int o), (12, .int _)] rfl (J289 _ _ _ _)
          · refine jr_iconst C (v := 1) dX11_whyOf_282 (by decide) ?_
            refine jr_goto C 287 dX11_whyOf_283 (by decide) ?_
            refine jr_istore C dX11_whyOf_287 (by decide) ?_
            exact jr_sub [(0, jf_r E 0), (1, .int f), (2, .int h), (3, .int b), (4, .int s), (5, .int w), (6, .int e), (7, .int a7), (8, .int a8), (9, .int a9), (10, .int n), (11, .int o), (12, .int _)] rfl (J289 _ _ _ _)
      have J143 : ∀ (a7 : Int32), jf_X jh_M E G 13 143 [(0, jf_r E 0), (1, .int f), (2, .int h), (3, .int b), (4, .int s), (5, .int w), (6, .int e), (7, .int a7), (8, .int a8), (9, .int a9), (10, .int n), (11, .int o)] [] σ := by
        intro a7
        refine jr_aload_n C dX11_whyOf_143 rfl ?_
        refine jr_getr C kf_X11_53_0 dX11_whyOf_144 ?_
        refine jr_iload C dX11_whyOf_147 rfl ?_
        refine jr_ialv C ka_M_15 dX11_whyOf_149 (ji_in (i := o) (by omega) (by omega)) (v := σ.1 15 _) rfl ?_
        refine jr_iload_n C dX11_whyOf_150 rfl ?_
        refine jr_ncmp_ne C 250 dX11_whyOf_151 (by decide) rfl rfl (fun b151 => ?_) (fun b151 => ?_)
        · exact jr_sub [(0, jf_r E 0), (1, .int f), (2, .int h), (3, .int b), (4, .int s), (5, .int w), (6, .int e), (7, .int a7), (8, .int _), (9, .int a9), (10, .int _), (11, .int o)] rfl (J250 _ _ _)
        · refine jr_iinc C _ dX11_whyOf_154 rfl rfl (by decide) ?_
          refine jr_aload_n C dX11_whyOf_157 rfl ?_
          refine jr_getr C kf_X11_46_0 dX11_whyOf_158 ?_
          refine jr_iconst C (v := 5) dX11_whyOf_161 (by decide) ?_
          refine jr_aload_n C dX11_whyOf_162 rfl ?_
          refine jr_getr C kf_X11_7_0 dX11_whyOf_163 ?_
          refine jr_iload_n C dX11_whyOf_166 rfl ?_
          refine jr_ialv C ka_M_1 dX11_whyOf_167 (ji_in (i := h) (by omega) (by omega)) (v := σ.1 1 _) rfl ?_
          refine jr_imul C dX11_whyOf_168 ?_
          refine jr_aload_n C dX11_whyOf_169 rfl ?_
          refine jr_getr C kf_X11_7_0 dX11_whyOf_170 ?_
          refine jr_aload_n C dX11_whyOf_173 rfl ?_
          refine jr_getr C kf_X11_56_0 dX11_whyOf_174 ?_
          refine jr_iload C dX11_whyOf_177 rfl ?_
          refine jr_ialv C ka_M_16 dX11_whyOf_179 (ji_in (i := o) (by omega) (by omega)) (v := σ.1 16 _) rfl ?_
          refine jr_ialv C ka_M_1 dX11_whyOf_180 (mI_hall hI _ (by decide)) (v := σ.1 1 _) rfl ?_
          refine jr_iadd C dX11_whyOf_181 ?_
          refine jr_ialv C ka_M_13 dX11_whyOf_182 (mI_way hI _ _) (v := σ.1 13 _) rfl ?_
          refine jr_istore C dX11_whyOf_183 (by decide) ?_
          refine jr_iload C dX11_whyOf_185 rfl ?_
          refine jr_nif_ne C 243 dX11_whyOf_187 (by decide) (fun b187 => ?_) (fun b187 => ?_)
          · refine jr_iconst C (v := 1) dX11_whyOf_243 (by decide) ?_
            refine jr_goto C 248 dX11_whyOf_244 (by decide) ?_
            refine jr_istore C dX11_whyOf_248 (by decide) ?_
            exact jr_sub [(0, jf_r E 0), (1, .int f), (2, .int h), (3, .int b), (4, .int s), (5, .int w), (6, .int e), (7, .int a7), (8, .int _), (9, .int a9), (10, .int _), (11, .int o)] rfl (J250 _ _ _)
          · refine jr_iload_n C dX11_whyOf_190 rfl ?_
            refine jr_aload_n C dX11_whyOf_191 rfl ?_
            refine jr_getr C kf_X11_59_0 dX11_whyOf_192 ?_
            refine jr_iload C dX11_whyOf_195 rfl ?_
            refine jr_ialv C ka_M_17 dX11_whyOf_197 (ji_in (i := o) (by omega) (by omega)) (v := σ.1 17 _) rfl ?_
            refine jr_ncmp_eq C 243 dX11_whyOf_198 (by decide) rfl rfl (fun b198 => ?_) (fun b198 => ?_)
            · refine jr_iconst C (v := 1) dX11_whyOf_243 (by decide) ?_
              refine jr_goto C 248 dX11_whyOf_244 (by decide) ?_
              refine jr_istore C dX11_whyOf_248 (by decide) ?_
              exact jr_sub [(0, jf_r E 0), (1, .int f), (2, .int h), (3, .int b), (4, .int s), (5, .int w), (6, .int e), (7, .int a7), (8, .int _), (9, .int a9), (10, .int _), (11, .int o)] rfl (J250 _ _ _)
            · refine jr_iload_n C dX11_whyOf_201 rfl ?_
              refine jr_aload_n C dX11_whyOf_202 rfl ?_
              refine jr_getr C kf_X11_59_0 dX11_whyOf_203 ?_
              refine jr_iload C dX11_whyOf_206 rfl ?_
              refine jr_ialv C ka_M_17 dX11_whyOf_208 (ji_in (i := o) (by omega) (by omega)) (v := σ.1 17 _) rfl ?_
              refine jr_ncmp_le C 228 dX11_whyOf_209 (by decide) rfl rfl (fun b209 => ?_) (fun b209 => ?_)
              · refine jr_aload_n C dX11_whyOf_228 rfl ?_
                refine jr_getr C kf_X11_59_0 dX11_whyOf_229 ?_
                refine jr_iload C dX11_whyOf_232 rfl ?_
                refine jr_ialv C ka_M_17 dX11_whyOf_234 (ji_in (i := o) (by omega) (by omega)) (v := σ.1 17 _) rfl ?_
                refine jr_iload C dX11_whyOf_235 rfl ?_
                refine jr_iload C dX11_whyOf_237 rfl ?_
                refine jr_iadd C dX11_whyOf_239 ?_
                refine jr_ncmp_ge C 247 dX11_whyOf_240 (by decide) rfl rfl (fun b240 => ?_) (fun b240 => ?_)
                · refine jr_iconst C (v := 0) dX11_whyOf_247 (by decide) ?_
                  refine jr_istore C dX11_whyOf_248 (by decide) ?_
                  exact jr_sub [(0, jf_r E 0), (1, .int f), (2, .int h), (3, .int b), (4, .int s), (5, .int w), (6, .int e), (7, .int a7), (8, .int _), (9, .int a9), (10, .int _), (11, .int o)] rfl (J250 _ _ _)
                · refine jr_iconst C (v := 1) dX11_whyOf_243 (by decide) ?_
                  refine jr_goto C 248 dX11_whyOf_244 (by decide) ?_
                  refine jr_istore C dX11_whyOf_248 (by decide) ?_
                  exact jr_sub [(0, jf_r E 0), (1, .int f), (2, .int h), (3, .int b), (4, .int s), (5, .int w), (6, .int e), (7, .int a7), (8, .int _), (9, .int a9), (10, .int _), (11, .int o)] rfl (J250 _ _ _)
              · refine jr_iload_n C dX11_whyOf_212 rfl ?_
                refine jr_aload_n C dX11_whyOf_213 rfl ?_
                refine jr_iload C dX11_whyOf_214 rfl ?_
                refine jr_vip C [.int _] _ (ct_X11_endOf E _ _ hI (by omega) (by omega)) ky_X11_endOf kv_X11_endOf kk_M_0 km_X11_192 (by decide) rfl (Nat.le_of_ble_eq_true rfl) dX11_whyOf_216 ?_
                refine jr_iload C dX11_whyOf_219 rfl ?_
                refine jr_iadd C dX11_whyOf_221 ?_
                refine jr_ncmp_ge C 247 dX11_whyOf_222 (by decide) rfl rfl (fun b222 => ?_) (fun b222 => ?_)
                · refine jr_iconst C (v := 0) dX11_whyOf_247 (by decide) ?_
                  refine jr_istore C dX11_whyOf_248 (by decide) ?_
                  exact jr_sub [(0, jf_r E 0), (1, .int f), (2, .int h), (3, .int b), (4, .int s), (5, .int w), (6, .int e), (7, .int a7), (8, .int _), (9, .int a9), (10, .int _), (11, .int o)] rfl (J250 _ _ _)
                · refine jr_goto C 243 dX11_whyOf_225 (by decide) ?_
                  refine jr_iconst C (v := 1) dX11_whyOf_243 (by decide) ?_
                  refine jr_goto C 248 dX11_whyOf_244 (by decide) ?_
                  refine jr_istore C dX11_whyOf_248 (by decide) ?_
                  exact jr_sub [(0, jf_r E 0), (1, .int f), (2, .int h), (3, .int b), (4, .int s), (5, .int w), (6, .int e), (7, .int a7), (8, .int _), (9, .int a9), (10, .int _), (11, .int o)] rfl (J250 _ _ _)
      refine jr_aload_n C dX11_whyOf_64 rfl ?_
      refine jr_getr C kf_X11_49_0 dX11_whyOf_65 ?_
      refine jr_iload C dX11_whyOf_68 rfl ?_
      refine jr_zalv C ka_M_14 dX11_whyOf_70 (ji_in (i := o) (by omega) (by omega)) (v := σ.1 14 _) rfl ?_
      refine jr_nif_eq C 349 dX11_whyOf_71 (by decide) (fun b71 => ?_) (fun b71 => ?_)
      · exact jr_sub [(0, jf_r E 0), (1, .int f), (2, .int h), (3, .int b), (4, .int s), (5, .int w), (6, .int e), (7, .int a7), (8, .int a8), (9, .int a9), (10, .int n), (11, .int o)] rfl (J349 _ _ _ _)
      · refine jr_iload C dX11_whyOf_74 rfl ?_
        refine jr_iload C dX11_whyOf_76 rfl ?_
        refine jr_ncmp_ne C 84 dX11_whyOf_78 (by decide) rfl rfl (fun b78 => ?_) (fun b78 => ?_)
        · refine jr_iload C dX11_whyOf_84 rfl ?_
          refine jr_nif_ne C 136 dX11_whyOf_86 (by decide) (fun b86 => ?_) (fun b86 => ?_)
          · refine jr_iconst C (v := 1) dX11_whyOf_136 (by decide) ?_
            refine jr_goto C 141 dX11_whyOf_137 (by decide) ?_
            refine jr_istore C dX11_whyOf_141 (by decide) ?_
            exact jr_sub [(0, jf_r E 0), (1, .int f), (2, .int h), (3, .int b), (4, .int s), (5, .int w), (6, .int e), (7, .int _), (8, .int a8), (9, .int a9), (10, .int n), (11, .int o)] rfl (J143 _)
          · refine jr_aload_n C dX11_whyOf_89 rfl ?_
            refine jr_getr C kf_X11_56_0 dX11_whyOf_90 ?_
            refine jr_iload C dX11_whyOf_93 rfl ?_
            refine jr_ialv C ka_M_16 dX11_whyOf_95 (ji_in (i := o) (by omega) (by omega)) (v := σ.1 16 _) rfl ?_
            refine jr_iload_n C dX11_whyOf_96 rfl ?_
            refine jr_ncmp_ne C 140 dX11_whyOf_97 (by decide) rfl rfl (fun b97 => ?_) (fun b97 => ?_)
            · refine jr_iconst C (v := 0) dX11_whyOf_140 (by decide) ?_
              refine jr_istore C dX11_whyOf_141 (by decide) ?_
              exact jr_sub [(0, jf_r E 0), (1, .int f), (2, .int h), (3, .int b), (4, .int s), (5, .int w), (6, .int e), (7, .int _), (8, .int a8), (9, .int a9), (10, .int n), (11, .int o)] rfl (J143 _)
            · refine jr_aload_n C dX11_whyOf_100 rfl ?_
              refine jr_getr C kf_X11_59_0 dX11_whyOf_101 ?_
              refine jr_iload C dX11_whyOf_104 rfl ?_
              refine jr_ialv C ka_M_17 dX11_whyOf_106 (ji_in (i := o) (by omega) (by omega)) (v := σ.1 17 _) rfl ?_
              refine jr_iload C dX11_whyOf_107 rfl ?_
              refine jr_aload_n C dX11_whyOf_109 rfl ?_
              refine jr_getr C kf_X11_16_0 dX11_whyOf_110 ?_
              refine jr_iload_n C dX11_whyOf_113 rfl ?_
              refine jr_ialv C ka_M_3 dX11_whyOf_114 (ji_in (i := h) (by omega) (by omega)) (v := σ.1 3 _) rfl ?_
              refine jr_iadd C dX11_whyOf_115 ?_
              refine jr_ncmp_ge C 140 dX11_whyOf_116 (by decide) rfl rfl (fun b116 => ?_) (fun b116 => ?_)
              · refine jr_iconst C (v := 0) dX11_whyOf_140 (by decide) ?_
                refine jr_istore C dX11_whyOf_141 (by decide) ?_
                exact jr_sub [(0, jf_r E 0), (1, .int f), (2, .int h), (3, .int b), (4, .int s), (5, .int w), (6, .int e), (7, .int _), (8, .int a8), (9, .int a9), (10, .int n), (11, .int o)] rfl (J143 _)
              · refine jr_aload_n C dX11_whyOf_119 rfl ?_
                refine jr_iload C dX11_whyOf_120 rfl ?_
                refine jr_vip C [.int _] _ (ct_X11_endOf E _ _ hI (by omega) (by omega)) ky_X11_endOf kv_X11_endOf kk_M_0 km_X11_192 (by decide) rfl (Nat.le_of_ble_eq_true rfl) dX11_whyOf_122 ?_
                refine jr_aload_n C dX11_whyOf_125 rfl ?_
                refine jr_getr C kf_X11_16_0 dX11_whyOf_126 ?_
                refine jr_iload_n C dX11_whyOf_129 rfl ?_
                refine jr_ialv C ka_M_3 dX11_whyOf_130 (ji_in (i := h) (by omega) (by omega)) (v := σ.1 3 _) rfl ?_
                refine jr_iadd C dX11_whyOf_131 ?_
                refine jr_iload_n C dX11_whyOf_132 rfl ?_
                refine jr_ncmp_le C 140 dX11_whyOf_133 (by decide) rfl rfl (fun b133 => ?_) (fun b133 => ?_)
                · refine jr_iconst C (v := 0) dX11_whyOf_140 (by decide) ?_
                  refine jr_istore C dX11_whyOf_141 (by decide) ?_
                  exact jr_sub [(0, jf_r E 0), (1, .int f), (2, .int h), (3, .int b), (4, .int s), (5, .int w), (6, .int e), (7, .int _), (8, .int a8), (9, .int a9), (10, .int n), (11, .int o)] rfl (J143 _)
                · refine jr_iconst C (v := 1) dX11_whyOf_136 (by decide) ?_
                  refine jr_goto C 141 dX11_whyOf_137 (by decide) ?_
                  refine jr_istore C dX11_whyOf_141 (by decide) ?_
                  exact jr_sub [(0, jf_r E 0), (1, .int f), (2, .int h), (3, .int b), (4, .int s), (5, .int w), (6, .int e), (7, .int _), (8, .int a8), (9, .int a9), (10, .int n), (11, .int o)] rfl (J143 _)
        · refine jr_goto C 349 dX11_whyOf_81 (by decide) ?_
          exact jr_sub [(0, jf_r E 0), (1, .int f), (2, .int h), (3, .int b), (4, .int s), (5, .int w), (6, .int e), (7, .int a7), (8, .int a8), (9, .int a9), (10, .int n), (11, .int o)] rfl (J349 _ _ _ _)
  refine jr_iload_n C dX11_whyOf_0 rfl ?_
  refine jr_aload_n C dX11_whyOf_1 rfl ?_
  refine jr_getr C kf_X11_22_0 dX11_whyOf_2 ?_
  refine jr_iload_n C dX11_whyOf_5 rfl ?_
  refine jr_ialv C ka_M_5 dX11_whyOf_6 (ji_in (i := f) (by omega) (by omega)) (v := σ.1 5 _) rfl ?_
  refine jr_iadd C dX11_whyOf_7 ?_
  refine jr_istore C dX11_whyOf_8 (by decide) ?_
  refine jr_iload C dX11_whyOf_10 rfl ?_
  refine jr_sipush C (v := 14400) dX11_whyOf_12 (by decide) ?_
  refine jr_ncmp_le C (b := 14400) 20 dX11_whyOf_15 (by decide) rfl rfl (fun b15 => ?_) (fun b15 => ?_)
  · refine jr_aload_n C dX11_whyOf_20 rfl ?_
    refine jr_getr C kf_X11_19_0 dX11_whyOf_21 ?_
    refine jr_iload_n C dX11_whyOf_24 rfl ?_
    refine jr_ialv C ka_M_4 dX11_whyOf_25 (ji_in (i := h) (by omega) (by omega)) (v := σ.1 4 _) rfl ?_
    refine jr_aload_n C dX11_whyOf_26 rfl ?_
    refine jr_getr C kf_X11_25_0 dX11_whyOf_27 ?_
    refine jr_iload_n C dX11_whyOf_30 rfl ?_
    refine jr_ialv C ka_M_6 dX11_whyOf_31 (ji_in (i := f) (by omega) (by omega)) (v := σ.1 6 _) rfl ?_
    refine jr_ishr C dX11_whyOf_32 ?_
    refine jr_iconst C (v := 1) dX11_whyOf_33 (by decide) ?_
    refine jr_iand C dX11_whyOf_34 ?_
    refine jr_nif_ne C 40 dX11_whyOf_35 (by decide) (fun b35 => ?_) (fun b35 => ?_)
    · refine jr_iconst C (v := 0) dX11_whyOf_40 (by decide) ?_
      refine jr_istore C dX11_whyOf_41 (by decide) ?_
      refine jr_iconst C (v := 0) dX11_whyOf_43 (by decide) ?_
      refine jr_istore C dX11_whyOf_44 (by decide) ?_
      refine jr_iconst C (v := 0) dX11_whyOf_46 (by decide) ?_
      refine jr_istore C dX11_whyOf_47 (by decide) ?_
      refine jr_iconst C (v := 1) dX11_whyOf_49 (by decide) ?_
      refine jr_istore C dX11_whyOf_50 (by decide) ?_
      refine jr_iconst C (v := 0) dX11_whyOf_52 (by decide) ?_
      refine jr_istore C dX11_whyOf_53 (by decide) ?_
      exact jr_sub [(0, jf_r E 0), (1, .int f), (2, .int h), (3, .int b), (4, .int s), (5, .int w), (6, .int _), (7, .int 0), (8, .int 0), (9, .int 0), (10, .int 1), (11, .int 0)] rfl (loop 61 _ 0 0 0 1 0 (by decide) hE.1 (by show _ - 0 < _; omega))
    · refine jr_iconst C (v := 2) dX11_whyOf_38 (by decide) ?_
      exact ret _ _ _ _ dX11_whyOf_39 rfl (⟨by decide, rfl⟩)
  · refine jr_iconst C (v := 1) dX11_whyOf_18 (by decide) ?_
    exact ret _ _ _ _ dX11_whyOf_19 rfl (⟨by decide, rfl⟩)

