theorem wd_400 : (Jvm.Cond.selects "DelegationClosure" ({ cls := "DelegationClosure", name := "begin", desc := "(I)Z" } : Jvm.MethodName) ({ cls := "DelegationClosure", name := "begin", desc := "(I)Z" } : Jvm.MethodName)) ∈ gW := gW_t 400 rfl (by decide +kernel)
theorem wd_402 : (Jvm.Cond.methodLink "DelegationClosure" (124 : Nat) ({ cls := "DelegationClosure$Chain", name := "start", desc := "(LDelegationClosure$Permission;)V" } : Jvm.MethodName)) ∈ gW := gW_t 402 rfl (by decide +kernel)
theorem wd_403 : (Jvm.Cond.instanceMethod ({ cls := "DelegationClosure$Chain", name := "start", desc := "(LDelegationClosure$Permission;)V" } : Jvm.MethodName)) ∈ gW := gW_t 403 rfl (by decide +kernel)
theorem wd_404 : (Jvm.Cond.selects "DelegationClosure$Chain" ({ cls := "DelegationClosure$Chain", name := "start", desc := "(LDelegationClosure$Permission;)V" } : Jvm.MethodName) ({ cls := "DelegationClosure$Chain", name := "start", desc := "(LDelegationClosure$Permission;)V" } : Jvm.MethodName)) ∈ gW := gW_t 404 rfl (by decide +kernel)
theorem wd_406 : (Jvm.Cond.methodLink "DelegationClosure$Chain" (50 : Nat) ({ cls := "DelegationClosure$Chain", name := "putAhead", desc := "(II)V" } : Jvm.MethodName)) ∈ gW := gW_t 406 rfl (by decide +kernel)
theorem wd_408 : (Jvm.Cond.instanceMethod ({ cls := "DelegationClosure$Chain", name := "putAhead", desc := "(II)V" } : Jvm.MethodName)) ∈ gW := gW_t 408 rfl (by decide +kernel)
theorem nw_410 : (Jvm.Cond.methodLinkNest "DelegationClosure$Chain" (78 : Nat) ({ cls := "DelegationClosure", name := "namesIn", desc := "(I)I" } : Jvm.MethodName) "DelegationClosure") ∈ lw_tbl := List.mem_append_right _ (List.mem_of_getElem? (i := 410) rfl)
theorem wd_411 : (Jvm.Cond.static ({ cls := "DelegationClosure", name := "namesIn", desc := "(I)I" } : Jvm.MethodName)) ∈ gW := gW_t 411 rfl (by decide +kernel)
theorem wd_413 : (Jvm.Cond.methodLink "DelegationClosure$Chain" (97 : Nat) ({ cls := "java/lang/System", name := "arraycopy", desc := "(Ljava/lang/Object;ILjava/lang/Object;II)V" } : Jvm.MethodName)) ∈ gW := gW_t 413 rfl (by decide +kernel)
theorem wd_414 : (Jvm.Cond.static ({ cls := "java/lang/System", name := "arraycopy", desc := "(Ljava/lang/Object;ILjava/lang/Object;II)V" } : Jvm.MethodName)) ∈ gW := gW_t 414 rfl (by decide +kernel)
theorem wd_415 : (Jvm.Cond.native ({ cls := "java/lang/System", name := "arraycopy", desc := "(Ljava/lang/Object;ILjava/lang/Object;II)V" } : Jvm.MethodName)) ∈ gW := gW_t 415 rfl (by decide +kernel)
theorem nw_416 : (Jvm.Cond.methodLinkNest "DelegationClosure$Chain" (103 : Nat) ({ cls := "DelegationClosure", name := "keyOf", desc := "(I)I" } : Jvm.MethodName) "DelegationClosure") ∈ lw_tbl := List.mem_append_right _ (List.mem_of_getElem? (i := 416) rfl)
theorem nw_417 : (Jvm.Cond.methodLinkNest "DelegationClosure$Chain" (106 : Nat) ({ cls := "DelegationClosure", name := "firstNameOf", desc := "(I)I" } : Jvm.MethodName) "DelegationClosure") ∈ lw_tbl := List.mem_append_right _ (List.mem_of_getElem? (i := 417) rfl)
theorem nw_418 : (Jvm.Cond.methodLinkNest "DelegationClosure$Chain" (109 : Nat) ({ cls := "DelegationClosure", name := "secondNameOf", desc := "(I)I" } : Jvm.MethodName) "DelegationClosure") ∈ lw_tbl := List.mem_append_right _ (List.mem_of_getElem? (i := 418) rfl)
theorem wd_419 : (Jvm.Cond.methodLink "DelegationClosure$Chain" (54 : Nat) ({ cls := "DelegationClosure$Tag", name := "copy", desc := "(LDelegationClosure$Tag;)V" } : Jvm.MethodName)) ∈ gW := gW_t 419 rfl (by decide +kernel)
theorem wd_420 : (Jvm.Cond.instanceMethod ({ cls := "DelegationClosure$Tag", name := "copy", desc := "(LDelegationClosure$Tag;)V" } : Jvm.MethodName)) ∈ gW := gW_t 420 rfl (by decide +kernel)
theorem wd_421 : (Jvm.Cond.selects "DelegationClosure$Tag" ({ cls := "DelegationClosure$Tag", name := "copy", desc := "(LDelegationClosure$Tag;)V" } : Jvm.MethodName) ({ cls := "DelegationClosure$Tag", name := "copy", desc := "(LDelegationClosure$Tag;)V" } : Jvm.MethodName)) ∈ gW := gW_t 421 rfl (by decide +kernel)
theorem wd_423 : (Jvm.Cond.methodLink "DelegationClosure$Tag" (33 : Nat) ({ cls := "DelegationClosure$Span", name := "copy", desc := "(LDelegationClosure$Span;)V" } : Jvm.MethodName)) ∈ gW := gW_t 423 rfl (by decide +kernel)
theorem wd_424 : (Jvm.Cond.instanceMethod ({ cls := "DelegationClosure$Span", name := "copy", desc := "(LDelegationClosure$Span;)V" } : Jvm.MethodName)) ∈ gW := gW_t 424 rfl (by decide +kernel)
theorem wd_425 : (Jvm.Cond.selects "DelegationClosure$Span" ({ cls := "DelegationClosure$Span", name := "copy", desc := "(LDelegationClosure$Span;)V" } : Jvm.MethodName) ({ cls := "DelegationClosure$Span", name := "copy", desc := "(LDelegationClosure$Span;)V" } : Jvm.MethodName)) ∈ gW := gW_t 425 rfl (by decide +kernel)
theorem wd_427 : (Jvm.Cond.methodLink "DelegationClosure$Span" (16 : Nat) ({ cls := "DelegationClosure$Span", name := "set", desc := "(II)V" } : Jvm.MethodName)) ∈ gW := gW_t 427 rfl (by decide +kernel)
theorem wd_428 : (Jvm.Cond.methodLink "DelegationClosure$Chain" (59 : Nat) ({ cls := "DelegationClosure$Span", name := "copy", desc := "(LDelegationClosure$Span;)V" } : Jvm.MethodName)) ∈ gW := gW_t 428 rfl (by decide +kernel)
theorem wd_429 : (Jvm.Cond.methodLink "DelegationClosureLaw" (70 : Nat) ({ cls := "DelegationClosure", name := "follow", desc := "(I)Z" } : Jvm.MethodName)) ∈ gW := gW_t 429 rfl (by decide +kernel)
theorem wd_430 : (Jvm.Cond.instanceMethod ({ cls := "DelegationClosure", name := "follow", desc := "(I)Z" } : Jvm.MethodName)) ∈ gW := gW_t 430 rfl (by decide +kernel)
theorem wd_431 : (Jvm.Cond.selects "DelegationClosure" ({ cls := "DelegationClosure", name := "follow", desc := "(I)Z" } : Jvm.MethodName) ({ cls := "DelegationClosure", name := "follow", desc := "(I)Z" } : Jvm.MethodName)) ∈ gW := gW_t 431 rfl (by decide +kernel)
theorem wd_433 : (Jvm.Cond.methodLink "DelegationClosure" (128 : Nat) ({ cls := "DelegationClosure$Chain", name := "replaceName", desc := "(LDelegationClosure$Naming;)Z" } : Jvm.MethodName)) ∈ gW := gW_t 433 rfl (by decide +kernel)
theorem wd_434 : (Jvm.Cond.instanceMethod ({ cls := "DelegationClosure$Chain", name := "replaceName", desc := "(LDelegationClosure$Naming;)Z" } : Jvm.MethodName)) ∈ gW := gW_t 434 rfl (by decide +kernel)
theorem wd_435 : (Jvm.Cond.selects "DelegationClosure$Chain" ({ cls := "DelegationClosure$Chain", name := "replaceName", desc := "(LDelegationClosure$Naming;)Z" } : Jvm.MethodName) ({ cls := "DelegationClosure$Chain", name := "replaceName", desc := "(LDelegationClosure$Naming;)Z" } : Jvm.MethodName)) ∈ gW := gW_t 435 rfl (by decide +kernel)
theorem wd_437 : (Jvm.Cond.methodLink "DelegationClosure$Chain" (63 : Nat) ({ cls := "DelegationClosure$Chain", name := "isThere", desc := "()Z" } : Jvm.MethodName)) ∈ gW := gW_t 437 rfl (by decide +kernel)
theorem wd_438 : (Jvm.Cond.instanceMethod ({ cls := "DelegationClosure$Chain", name := "isThere", desc := "()Z" } : Jvm.MethodName)) ∈ gW := gW_t 438 rfl (by decide +kernel)
theorem wd_439 : (Jvm.Cond.selects "DelegationClosure$Chain" ({ cls := "DelegationClosure$Chain", name := "isThere", desc := "()Z" } : Jvm.MethodName) ({ cls := "DelegationClosure$Chain", name := "isThere", desc := "()Z" } : Jvm.MethodName)) ∈ gW := gW_t 439 rfl (by decide +kernel)
theorem wd_441 : (Jvm.Cond.methodLink "DelegationClosure$Chain" (83 : Nat) ({ cls := "DelegationClosure$Span", name := "narrowTo", desc := "(LDelegationClosure$Span;)V" } : Jvm.MethodName)) ∈ gW := gW_t 441 rfl (by decide +kernel)
theorem wd_442 : (Jvm.Cond.instanceMethod ({ cls := "DelegationClosure$Span", name := "narrowTo", desc := "(LDelegationClosure$Span;)V" } : Jvm.MethodName)) ∈ gW := gW_t 442 rfl (by decide +kernel)
theorem wd_443 : (Jvm.Cond.selects "DelegationClosure$Span" ({ cls := "DelegationClosure$Span", name := "narrowTo", desc := "(LDelegationClosure$Span;)V" } : Jvm.MethodName) ({ cls := "DelegationClosure$Span", name := "narrowTo", desc := "(LDelegationClosure$Span;)V" } : Jvm.MethodName)) ∈ gW := gW_t 443 rfl (by decide +kernel)
theorem wd_445 : (Jvm.Cond.methodLink "DelegationClosure$Span" (20 : Nat) ({ cls := "java/lang/Math", name := "max", desc := "(II)I" } : Jvm.MethodName)) ∈ gW := gW_t 445 rfl (by decide +kernel)
theorem wd_446 : (Jvm.Cond.static ({ cls := "java/lang/Math", name := "max", desc := "(II)I" } : Jvm.MethodName)) ∈ gW := gW_t 446 rfl (by decide +kernel)
theorem wd_448 : (Jvm.Cond.methodLink "DelegationClosure$Span" (26 : Nat) ({ cls := "java/lang/Math", name := "min", desc := "(II)I" } : Jvm.MethodName)) ∈ gW := gW_t 448 rfl (by decide +kernel)
theorem wd_449 : (Jvm.Cond.methodLink "DelegationClosure" (132 : Nat) ({ cls := "DelegationClosure$Chain", name := "passOn", desc := "(LDelegationClosure$Permission;)Z" } : Jvm.MethodName)) ∈ gW := gW_t 449 rfl (by decide +kernel)
theorem wd_450 : (Jvm.Cond.instanceMethod ({ cls := "DelegationClosure$Chain", name := "passOn", desc := "(LDelegationClosure$Permission;)Z" } : Jvm.MethodName)) ∈ gW := gW_t 450 rfl (by decide +kernel)
theorem wd_451 : (Jvm.Cond.selects "DelegationClosure$Chain" ({ cls := "DelegationClosure$Chain", name := "passOn", desc := "(LDelegationClosure$Permission;)Z" } : Jvm.MethodName) ({ cls := "DelegationClosure$Chain", name := "passOn", desc := "(LDelegationClosure$Permission;)Z" } : Jvm.MethodName)) ∈ gW := gW_t 451 rfl (by decide +kernel)
theorem wd_453 : (Jvm.Cond.methodLink "DelegationClosure$Chain" (88 : Nat) ({ cls := "DelegationClosure$Tag", name := "narrowTo", desc := "(LDelegationClosure$Tag;)V" } : Jvm.MethodName)) ∈ gW := gW_t 453 rfl (by decide +kernel)
theorem wd_454 : (Jvm.Cond.instanceMethod ({ cls := "DelegationClosure$Tag", name := "narrowTo", desc := "(LDelegationClosure$Tag;)V" } : Jvm.MethodName)) ∈ gW := gW_t 454 rfl (by decide +kernel)
theorem wd_455 : (Jvm.Cond.selects "DelegationClosure$Tag" ({ cls := "DelegationClosure$Tag", name := "narrowTo", desc := "(LDelegationClosure$Tag;)V" } : Jvm.MethodName) ({ cls := "DelegationClosure$Tag", name := "narrowTo", desc := "(LDelegationClosure$Tag;)V" } : Jvm.MethodName)) ∈ gW := gW_t 455 rfl (by decide +kernel)
theorem wd_457 : (Jvm.Cond.methodLink "DelegationClosure$Tag" (37 : Nat) ({ cls := "DelegationClosure$Span", name := "narrowTo", desc := "(LDelegationClosure$Span;)V" } : Jvm.MethodName)) ∈ gW := gW_t 457 rfl (by decide +kernel)
theorem wd_458 : (Jvm.Cond.methodLink "DelegationClosureLaw" (74 : Nat) ({ cls := "DelegationClosure", name := "head", desc := "()I" } : Jvm.MethodName)) ∈ gW := gW_t 458 rfl (by decide +kernel)
theorem wd_459 : (Jvm.Cond.instanceMethod ({ cls := "DelegationClosure", name := "head", desc := "()I" } : Jvm.MethodName)) ∈ gW := gW_t 459 rfl (by decide +kernel)
theorem wd_460 : (Jvm.Cond.selects "DelegationClosure" ({ cls := "DelegationClosure", name := "head", desc := "()I" } : Jvm.MethodName) ({ cls := "DelegationClosure", name := "head", desc := "()I" } : Jvm.MethodName)) ∈ gW := gW_t 460 rfl (by decide +kernel)
theorem wd_462 : (Jvm.Cond.methodLink "DelegationClosure" (136 : Nat) ({ cls := "DelegationClosure$Chain", name := "isThere", desc := "()Z" } : Jvm.MethodName)) ∈ gW := gW_t 462 rfl (by decide +kernel)
theorem wd_463 : (Jvm.Cond.methodLink "DelegationClosureLaw" (78 : Nat) ({ cls := "DelegationClosure", name := "behind", desc := "(I)I" } : Jvm.MethodName)) ∈ gW := gW_t 463 rfl (by decide +kernel)
theorem wd_464 : (Jvm.Cond.instanceMethod ({ cls := "DelegationClosure", name := "behind", desc := "(I)I" } : Jvm.MethodName)) ∈ gW := gW_t 464 rfl (by decide +kernel)
theorem wd_465 : (Jvm.Cond.selects "DelegationClosure" ({ cls := "DelegationClosure", name := "behind", desc := "(I)I" } : Jvm.MethodName) ({ cls := "DelegationClosure", name := "behind", desc := "(I)I" } : Jvm.MethodName)) ∈ gW := gW_t 465 rfl (by decide +kernel)
theorem wd_467 : (Jvm.Cond.methodLink "DelegationClosureLaw" (83 : Nat) ({ cls := "DelegationClosure", name := "grants", desc := "(III)Z" } : Jvm.MethodName)) ∈ gW := gW_t 467 rfl (by decide +kernel)
theorem wd_468 : (Jvm.Cond.instanceMethod ({ cls := "DelegationClosure", name := "grants", desc := "(III)Z" } : Jvm.MethodName)) ∈ gW := gW_t 468 rfl (by decide +kernel)
theorem wd_469 : (Jvm.Cond.selects "DelegationClosure" ({ cls := "DelegationClosure", name := "grants", desc := "(III)Z" } : Jvm.MethodName) ({ cls := "DelegationClosure", name := "grants", desc := "(III)Z" } : Jvm.MethodName)) ∈ gW := gW_t 469 rfl (by decide +kernel)
theorem wd_471 : (Jvm.Cond.methodLink "DelegationClosure" (147 : Nat) ({ cls := "DelegationClosure$Chain", name := "allows", desc := "(III)Z" } : Jvm.MethodName)) ∈ gW := gW_t 471 rfl (by decide +kernel)
theorem wd_472 : (Jvm.Cond.instanceMethod ({ cls := "DelegationClosure$Chain", name := "allows", desc := "(III)Z" } : Jvm.MethodName)) ∈ gW := gW_t 472 rfl (by decide +kernel)
theorem wd_473 : (Jvm.Cond.selects "DelegationClosure$Chain" ({ cls := "DelegationClosure$Chain", name := "allows", desc := "(III)Z" } : Jvm.MethodName) ({ cls := "DelegationClosure$Chain", name := "allows", desc := "(III)Z" } : Jvm.MethodName)) ∈ gW := gW_t 473 rfl (by decide +kernel)
theorem wd_475 : (Jvm.Cond.methodLink "DelegationClosure$Chain" (90 : Nat) ({ cls := "DelegationClosure$Tag", name := "contains", desc := "(II)Z" } : Jvm.MethodName)) ∈ gW := gW_t 475 rfl (by decide +kernel)
theorem wd_476 : (Jvm.Cond.methodLink "DelegationClosure$Chain" (94 : Nat) ({ cls := "DelegationClosure$Span", name := "contains", desc := "(I)Z" } : Jvm.MethodName)) ∈ gW := gW_t 476 rfl (by decide +kernel)
theorem wd_477 : (Jvm.Cond.methodLink "DelegationClosureLaw" (88 : Nat) ({ cls := "DelegationClosure", name := "used", desc := "()I" } : Jvm.MethodName)) ∈ gW := gW_t 477 rfl (by decide +kernel)
theorem wd_478 : (Jvm.Cond.instanceMethod ({ cls := "DelegationClosure", name := "used", desc := "()I" } : Jvm.MethodName)) ∈ gW := gW_t 478 rfl (by decide +kernel)
theorem wd_479 : (Jvm.Cond.selects "DelegationClosure" ({ cls := "DelegationClosure", name := "used", desc := "()I" } : Jvm.MethodName) ({ cls := "DelegationClosure", name := "used", desc := "()I" } : Jvm.MethodName)) ∈ gW := gW_t 479 rfl (by decide +kernel)
set_option maxRecDepth 100000 in
theorem wd_481 : (Jvm.Cond.methodLink "DelegationClosureLaw" (92 : Nat) ({ cls := "DelegationClosure", name := "delegates", desc := "()Z" } : Jvm.MethodName)) ∈ gW := gW_t 481 rfl (by decide +kernel)
set_option maxRecDepth 100000 in
theorem wd_482 : (Jvm.Cond.instanceMethod ({ cls := "DelegationClosure", name := "delegates", desc := "()Z" } : Jvm.MethodName)) ∈ gW := gW_t 482 rfl (by decide +kernel)
set_option maxRecDepth 100000 in
theorem wd_483 : (Jvm.Cond.selects "DelegationClosure" ({ cls := "DelegationClosure", name := "delegates", desc := "()Z" } : Jvm.MethodName) ({ cls := "DelegationClosure", name := "delegates", desc := "()Z" } : Jvm.MethodName)) ∈ gW := gW_t 483 rfl (by decide +kernel)
set_option maxRecDepth 100000 in
theorem wd_485 : (Jvm.Cond.classLink "DelegationClosureLaw" (10 : Nat) "DelegationClosureModel") ∈ gW := gW_t 485 rfl (by decide +kernel)
set_option maxRecDepth 100000 in
theorem wd_486 : (Jvm.Cond.instantiable "DelegationClosureModel" (27 : Nat)) ∈ gW := gW_t 486 rfl (by decide +kernel)
set_option maxRecDepth 100000 in
theorem wd_487 : (Jvm.Cond.methodLink "DelegationClosureLaw" (12 : Nat) ({ cls := "DelegationClosureModel", name := "<init>", desc := "()V" } : Jvm.MethodName)) ∈ gW := gW_t 487 rfl (by decide +kernel)
set_option maxRecDepth 100000 in
theorem wd_488 : (Jvm.Cond.instanceMethod ({ cls := "DelegationClosureModel", name := "<init>", desc := "()V" } : Jvm.MethodName)) ∈ gW := gW_t 488 rfl (by decide +kernel)
set_option maxRecDepth 100000 in
theorem wd_490 : (Jvm.Cond.methodLink "DelegationClosureModel" (1 : Nat) ({ cls := "java/lang/Object", name := "<init>", desc := "()V" } : Jvm.MethodName)) ∈ gW := gW_t 490 rfl (by decide +kernel)
set_option maxRecDepth 100000 in
theorem wd_491 : (Jvm.Cond.fieldLink "DelegationClosureModel" (63 : Nat) "DelegationClosureModel" "made" "I") ∈ gW := gW_t 491 rfl (by decide +kernel)
set_option maxRecDepth 100000 in
theorem wd_492 : (Jvm.Cond.fieldLink "DelegationClosureModel" (7 : Nat) "DelegationClosureModel" "gone" "[Z") ∈ gW := gW_t 492 rfl (by decide +kernel)
set_option maxRecDepth 100000 in
theorem wd_493 : (Jvm.Cond.fieldLink "DelegationClosureModel" (13 : Nat) "DelegationClosureModel" "names" "[Z") ∈ gW := gW_t 493 rfl (by decide +kernel)
set_option maxRecDepth 100000 in
theorem wd_494 : (Jvm.Cond.fieldLink "DelegationClosureModel" (16 : Nat) "DelegationClosureModel" "issuer" "[I") ∈ gW := gW_t 494 rfl (by decide +kernel)
set_option maxRecDepth 100000 in
theorem wd_495 : (Jvm.Cond.fieldLink "DelegationClosureModel" (20 : Nat) "DelegationClosureModel" "named" "[I") ∈ gW := gW_t 495 rfl (by decide +kernel)
set_option maxRecDepth 100000 in
theorem wd_496 : (Jvm.Cond.fieldLink "DelegationClosureModel" (23 : Nat) "DelegationClosureModel" "from" "[I") ∈ gW := gW_t 496 rfl (by decide +kernel)
set_option maxRecDepth 100000 in
theorem wd_497 : (Jvm.Cond.fieldLink "DelegationClosureModel" (26 : Nat) "DelegationClosureModel" "to" "[I") ∈ gW := gW_t 497 rfl (by decide +kernel)
set_option maxRecDepth 100000 in
theorem wd_498 : (Jvm.Cond.fieldLink "DelegationClosureModel" (29 : Nat) "DelegationClosureModel" "subjects" "[I") ∈ gW := gW_t 498 rfl (by decide +kernel)
set_option maxRecDepth 100000 in
theorem wd_499 : (Jvm.Cond.fieldLink "DelegationClosureModel" (32 : Nat) "DelegationClosureModel" "many" "[I") ∈ gW := gW_t 499 rfl (by decide +kernel)
set_option maxRecDepth 100000 in
theorem wd_500 : (Jvm.Cond.fieldLink "DelegationClosureModel" (35 : Nat) "DelegationClosureModel" "needed" "[I") ∈ gW := gW_t 500 rfl (by decide +kernel)
set_option maxRecDepth 100000 in
theorem wd_501 : (Jvm.Cond.fieldLink "DelegationClosureModel" (38 : Nat) "DelegationClosureModel" "operations" "[I") ∈ gW := gW_t 501 rfl (by decide +kernel)
set_option maxRecDepth 100000 in
theorem wd_502 : (Jvm.Cond.fieldLink "DelegationClosureModel" (41 : Nat) "DelegationClosureModel" "low" "[I") ∈ gW := gW_t 502 rfl (by decide +kernel)
set_option maxRecDepth 100000 in
theorem wd_503 : (Jvm.Cond.fieldLink "DelegationClosureModel" (44 : Nat) "DelegationClosureModel" "high" "[I") ∈ gW := gW_t 503 rfl (by decide +kernel)
set_option maxRecDepth 100000 in
theorem wd_504 : (Jvm.Cond.fieldLink "DelegationClosureModel" (47 : Nat) "DelegationClosureModel" "passes" "[Z") ∈ gW := gW_t 504 rfl (by decide +kernel)
set_option maxRecDepth 100000 in
theorem wd_505 : (Jvm.Cond.fieldLink "DelegationClosureModel" (50 : Nat) "DelegationClosureModel" "means" "[I") ∈ gW := gW_t 505 rfl (by decide +kernel)
set_option maxRecDepth 100000 in
theorem wd_506 : (Jvm.Cond.fieldLink "DelegationClosureModel" (53 : Nat) "DelegationClosureModel" "leads" "[I") ∈ gW := gW_t 506 rfl (by decide +kernel)
set_option maxRecDepth 100000 in
theorem wd_507 : (Jvm.Cond.fieldLink "DelegationClosureModel" (130 : Nat) "DelegationClosureModel" "chain" "Z") ∈ gW := gW_t 507 rfl (by decide +kernel)
set_option maxRecDepth 100000 in
theorem wd_508 : (Jvm.Cond.fieldLink "DelegationClosureModel" (164 : Nat) "DelegationClosureModel" "chainKey" "I") ∈ gW := gW_t 508 rfl (by decide +kernel)
set_option maxRecDepth 100000 in
theorem wd_509 : (Jvm.Cond.fieldLink "DelegationClosureModel" (134 : Nat) "DelegationClosureModel" "chainNames" "I") ∈ gW := gW_t 509 rfl (by decide +kernel)
set_option maxRecDepth 100000 in
theorem wd_510 : (Jvm.Cond.fieldLink "DelegationClosureModel" (56 : Nat) "DelegationClosureModel" "chainName" "[I") ∈ gW := gW_t 510 rfl (by decide +kernel)
set_option maxRecDepth 100000 in
theorem wd_511 : (Jvm.Cond.fieldLink "DelegationClosureModel" (140 : Nat) "DelegationClosureModel" "chainOperations" "I") ∈ gW := gW_t 511 rfl (by decide +kernel)
set_option maxRecDepth 100000 in
theorem wd_512 : (Jvm.Cond.fieldLink "DelegationClosureModel" (143 : Nat) "DelegationClosureModel" "chainLow" "I") ∈ gW := gW_t 512 rfl (by decide +kernel)
set_option maxRecDepth 100000 in
theorem wd_513 : (Jvm.Cond.fieldLink "DelegationClosureModel" (146 : Nat) "DelegationClosureModel" "chainHigh" "I") ∈ gW := gW_t 513 rfl (by decide +kernel)
set_option maxRecDepth 100000 in
theorem wd_514 : (Jvm.Cond.fieldLink "DelegationClosureModel" (149 : Nat) "DelegationClosureModel" "chainFrom" "I") ∈ gW := gW_t 514 rfl (by decide +kernel)
set_option maxRecDepth 100000 in
theorem wd_515 : (Jvm.Cond.fieldLink "DelegationClosureModel" (152 : Nat) "DelegationClosureModel" "chainTo" "I") ∈ gW := gW_t 515 rfl (by decide +kernel)
set_option maxRecDepth 100000 in
theorem wd_516 : (Jvm.Cond.fieldLink "DelegationClosureModel" (155 : Nat) "DelegationClosureModel" "chainUsed" "I") ∈ gW := gW_t 516 rfl (by decide +kernel)
set_option maxRecDepth 100000 in
theorem wd_517 : (Jvm.Cond.fieldLink "DelegationClosureModel" (158 : Nat) "DelegationClosureModel" "chainPasses" "Z") ∈ gW := gW_t 517 rfl (by decide +kernel)
set_option maxRecDepth 100000 in
theorem wd_518 : (Jvm.Cond.lays "DelegationClosureModel" "DelegationClosureModel" "made" "I") ∈ gW := gW_t 518 rfl (by decide +kernel)
set_option maxRecDepth 100000 in
theorem wd_520 : (Jvm.Cond.lays "DelegationClosureModel" "DelegationClosureModel" "gone" "[Z") ∈ gW := gW_t 520 rfl (by decide +kernel)
set_option maxRecDepth 100000 in
theorem wd_522 : (Jvm.Cond.lays "DelegationClosureModel" "DelegationClosureModel" "names" "[Z") ∈ gW := gW_t 522 rfl (by decide +kernel)
set_option maxRecDepth 100000 in
theorem wd_524 : (Jvm.Cond.lays "DelegationClosureModel" "DelegationClosureModel" "issuer" "[I") ∈ gW := gW_t 524 rfl (by decide +kernel)
set_option maxRecDepth 100000 in
theorem wd_526 : (Jvm.Cond.lays "DelegationClosureModel" "DelegationClosureModel" "named" "[I") ∈ gW := gW_t 526 rfl (by decide +kernel)
set_option maxRecDepth 100000 in
theorem wd_528 : (Jvm.Cond.lays "DelegationClosureModel" "DelegationClosureModel" "from" "[I") ∈ gW := gW_t 528 rfl (by decide +kernel)
set_option maxRecDepth 100000 in
theorem wd_530 : (Jvm.Cond.lays "DelegationClosureModel" "DelegationClosureModel" "to" "[I") ∈ gW := gW_t 530 rfl (by decide +kernel)
set_option maxRecDepth 100000 in
theorem wd_532 : (Jvm.Cond.lays "DelegationClosureModel" "DelegationClosureModel" "subjects" "[I") ∈ gW := gW_t 532 rfl (by decide +kernel)
set_option maxRecDepth 100000 in
theorem wd_534 : (Jvm.Cond.lays "DelegationClosureModel" "DelegationClosureModel" "many" "[I") ∈ gW := gW_t 534 rfl (by decide +kernel)
set_option maxRecDepth 100000 in
theorem wd_536 : (Jvm.Cond.lays "DelegationClosureModel" "DelegationClosureModel" "needed" "[I") ∈ gW := gW_t 536 rfl (by decide +kernel)
set_option maxRecDepth 100000 in
theorem wd_538 : (Jvm.Cond.lays "DelegationClosureModel" "DelegationClosureModel" "operations" "[I") ∈ gW := gW_t 538 rfl (by decide +kernel)
set_option maxRecDepth 100000 in
theorem wd_540 : (Jvm.Cond.lays "DelegationClosureModel" "DelegationClosureModel" "low" "[I") ∈ gW := gW_t 540 rfl (by decide +kernel)
set_option maxRecDepth 100000 in
theorem wd_542 : (Jvm.Cond.lays "DelegationClosureModel" "DelegationClosureModel" "high" "[I") ∈ gW := gW_t 542 rfl (by decide +kernel)
set_option maxRecDepth 100000 in
theorem wd_544 : (Jvm.Cond.lays "DelegationClosureModel" "DelegationClosureModel" "passes" "[Z") ∈ gW := gW_t 544 rfl (by decide +kernel)
set_option maxRecDepth 100000 in
theorem wd_546 : (Jvm.Cond.lays "DelegationClosureModel" "DelegationClosureModel" "means" "[I") ∈ gW := gW_t 546 rfl (by decide +kernel)
set_option maxRecDepth 100000 in
theorem wd_548 : (Jvm.Cond.lays "DelegationClosureModel" "DelegationClosureModel" "leads" "[I") ∈ gW := gW_t 548 rfl (by decide +kernel)
set_option maxRecDepth 100000 in
theorem wd_550 : (Jvm.Cond.lays "DelegationClosureModel" "DelegationClosureModel" "chain" "Z") ∈ gW := gW_t 550 rfl (by decide +kernel)
set_option maxRecDepth 100000 in
theorem wd_552 : (Jvm.Cond.lays "DelegationClosureModel" "DelegationClosureModel" "chainKey" "I") ∈ gW := gW_t 552 rfl (by decide +kernel)
set_option maxRecDepth 100000 in
theorem wd_554 : (Jvm.Cond.lays "DelegationClosureModel" "DelegationClosureModel" "chainNames" "I") ∈ gW := gW_t 554 rfl (by decide +kernel)
set_option maxRecDepth 100000 in
theorem wd_556 : (Jvm.Cond.lays "DelegationClosureModel" "DelegationClosureModel" "chainName" "[I") ∈ gW := gW_t 556 rfl (by decide +kernel)
set_option maxRecDepth 100000 in
theorem wd_558 : (Jvm.Cond.lays "DelegationClosureModel" "DelegationClosureModel" "chainOperations" "I") ∈ gW := gW_t 558 rfl (by decide +kernel)
set_option maxRecDepth 100000 in
theorem wd_560 : (Jvm.Cond.lays "DelegationClosureModel" "DelegationClosureModel" "chainLow" "I") ∈ gW := gW_t 560 rfl (by decide +kernel)
set_option maxRecDepth 100000 in
theorem wd_562 : (Jvm.Cond.lays "DelegationClosureModel" "DelegationClosureModel" "chainHigh" "I") ∈ gW := gW_t 562 rfl (by decide +kernel)
set_option maxRecDepth 100000 in
theorem wd_564 : (Jvm.Cond.lays "DelegationClosureModel" "DelegationClosureModel" "chainFrom" "I") ∈ gW := gW_t 564 rfl (by decide +kernel)
set_option maxRecDepth 100000 in
theorem wd_566 : (Jvm.Cond.lays "DelegationClosureModel" "DelegationClosureModel" "chainTo" "I") ∈ gW := gW_t 566 rfl (by decide +kernel)
set_option maxRecDepth 100000 in
theorem wd_568 : (Jvm.Cond.lays "DelegationClosureModel" "DelegationClosureModel" "chainUsed" "I") ∈ gW := gW_t 568 rfl (by decide +kernel)
set_option maxRecDepth 100000 in
theorem wd_570 : (Jvm.Cond.lays "DelegationClosureModel" "DelegationClosureModel" "chainPasses" "Z") ∈ gW := gW_t 570 rfl (by decide +kernel)
set_option maxRecDepth 100000 in
theorem wd_573 : (Jvm.Cond.methodLink "DelegationClosureLaw" (17 : Nat) ({ cls := "DelegationClosureModel", name := "name", desc := "(IIIII)I" } : Jvm.MethodName)) ∈ gW := gW_t 573 rfl (by decide +kernel)
set_option maxRecDepth 100000 in
theorem wd_574 : (Jvm.Cond.instanceMethod ({ cls := "DelegationClosureModel", name := "name", desc := "(IIIII)I" } : Jvm.MethodName)) ∈ gW := gW_t 574 rfl (by decide +kernel)
set_option maxRecDepth 100000 in
theorem wd_575 : (Jvm.Cond.selects "DelegationClosureModel" ({ cls := "DelegationClosureModel", name := "name", desc := "(IIIII)I" } : Jvm.MethodName) ({ cls := "DelegationClosureModel", name := "name", desc := "(IIIII)I" } : Jvm.MethodName)) ∈ gW := gW_t 575 rfl (by decide +kernel)
set_option maxRecDepth 100000 in
theorem wd_577 : (Jvm.Cond.methodLink "DelegationClosureModel" (69 : Nat) ({ cls := "DelegationClosureModel", name := "isSubject", desc := "(I)Z" } : Jvm.MethodName)) ∈ gW := gW_t 577 rfl (by decide +kernel)
set_option maxRecDepth 100000 in
theorem wd_578 : (Jvm.Cond.static ({ cls := "DelegationClosureModel", name := "isSubject", desc := "(I)Z" } : Jvm.MethodName)) ∈ gW := gW_t 578 rfl (by decide +kernel)
set_option maxRecDepth 100000 in
theorem wd_580 : (Jvm.Cond.methodLink "DelegationClosureModel" (59 : Nat) ({ cls := "DelegationClosureModel", name := "nameOf", desc := "(IZ)I" } : Jvm.MethodName)) ∈ gW := gW_t 580 rfl (by decide +kernel)
set_option maxRecDepth 100000 in
theorem wd_581 : (Jvm.Cond.static ({ cls := "DelegationClosureModel", name := "nameOf", desc := "(IZ)I" } : Jvm.MethodName)) ∈ gW := gW_t 581 rfl (by decide +kernel)
set_option maxRecDepth 100000 in
theorem wd_583 : (Jvm.Cond.methodLink "DelegationClosureModel" (73 : Nat) ({ cls := "DelegationClosureModel", name := "make", desc := "(ZIIII)I" } : Jvm.MethodName)) ∈ gW := gW_t 583 rfl (by decide +kernel)
set_option maxRecDepth 100000 in
theorem wd_585 : (Jvm.Cond.instanceMethod ({ cls := "DelegationClosureModel", name := "make", desc := "(ZIIII)I" } : Jvm.MethodName)) ∈ gW := gW_t 585 rfl (by decide +kernel)
set_option maxRecDepth 100000 in
theorem wd_587 : (Jvm.Cond.constant "DelegationClosureModel" (67 : Nat) (-2147483648 : Int32)) ∈ gW := gW_t 587 rfl (by decide +kernel)
set_option maxRecDepth 100000 in
theorem wd_588 : (Jvm.Cond.constant "DelegationClosureModel" (68 : Nat) (2147483647 : Int32)) ∈ gW := gW_t 588 rfl (by decide +kernel)
set_option maxRecDepth 100000 in
theorem wd_589 : (Jvm.Cond.methodLink "DelegationClosureLaw" (22 : Nat) ({ cls := "DelegationClosureModel", name := "permit", desc := "(IIZII)I" } : Jvm.MethodName)) ∈ gW := gW_t 589 rfl (by decide +kernel)
set_option maxRecDepth 100000 in
theorem wd_590 : (Jvm.Cond.instanceMethod ({ cls := "DelegationClosureModel", name := "permit", desc := "(IIZII)I" } : Jvm.MethodName)) ∈ gW := gW_t 590 rfl (by decide +kernel)
set_option maxRecDepth 100000 in
theorem wd_591 : (Jvm.Cond.selects "DelegationClosureModel" ({ cls := "DelegationClosureModel", name := "permit", desc := "(IIZII)I" } : Jvm.MethodName) ({ cls := "DelegationClosureModel", name := "permit", desc := "(IIZII)I" } : Jvm.MethodName)) ∈ gW := gW_t 591 rfl (by decide +kernel)
set_option maxRecDepth 100000 in
theorem wd_593 : (Jvm.Cond.methodLink "DelegationClosureLaw" (27 : Nat) ({ cls := "DelegationClosureModel", name := "tag", desc := "(IIII)Z" } : Jvm.MethodName)) ∈ gW := gW_t 593 rfl (by decide +kernel)
set_option maxRecDepth 100000 in
theorem wd_594 : (Jvm.Cond.instanceMethod ({ cls := "DelegationClosureModel", name := "tag", desc := "(IIII)Z" } : Jvm.MethodName)) ∈ gW := gW_t 594 rfl (by decide +kernel)
set_option maxRecDepth 100000 in
theorem wd_595 : (Jvm.Cond.selects "DelegationClosureModel" ({ cls := "DelegationClosureModel", name := "tag", desc := "(IIII)Z" } : Jvm.MethodName) ({ cls := "DelegationClosureModel", name := "tag", desc := "(IIII)Z" } : Jvm.MethodName)) ∈ gW := gW_t 595 rfl (by decide +kernel)
set_option maxRecDepth 100000 in
theorem wd_597 : (Jvm.Cond.methodLink "DelegationClosureModel" (80 : Nat) ({ cls := "DelegationClosureModel", name := "isPermission", desc := "(I)Z" } : Jvm.MethodName)) ∈ gW := gW_t 597 rfl (by decide +kernel)
set_option maxRecDepth 100000 in
theorem wd_599 : (Jvm.Cond.instanceMethod ({ cls := "DelegationClosureModel", name := "isPermission", desc := "(I)Z" } : Jvm.MethodName)) ∈ gW := gW_t 599 rfl (by decide +kernel)
set_option maxRecDepth 100000 in
theorem wd_601 : (Jvm.Cond.methodLink "DelegationClosureModel" (77 : Nat) ({ cls := "DelegationClosureModel", name := "isThere", desc := "(I)Z" } : Jvm.MethodName)) ∈ gW := gW_t 601 rfl (by decide +kernel)
set_option maxRecDepth 100000 in
theorem wd_603 : (Jvm.Cond.instanceMethod ({ cls := "DelegationClosureModel", name := "isThere", desc := "(I)Z" } : Jvm.MethodName)) ∈ gW := gW_t 603 rfl (by decide +kernel)
set_option maxRecDepth 100000 in
theorem wd_605 : (Jvm.Cond.methodLink "DelegationClosureLaw" (32 : Nat) ({ cls := "DelegationClosureModel", name := "also", desc := "(II)I" } : Jvm.MethodName)) ∈ gW := gW_t 605 rfl (by decide +kernel)
set_option maxRecDepth 100000 in
theorem wd_606 : (Jvm.Cond.instanceMethod ({ cls := "DelegationClosureModel", name := "also", desc := "(II)I" } : Jvm.MethodName)) ∈ gW := gW_t 606 rfl (by decide +kernel)
set_option maxRecDepth 100000 in
theorem wd_607 : (Jvm.Cond.selects "DelegationClosureModel" ({ cls := "DelegationClosureModel", name := "also", desc := "(II)I" } : Jvm.MethodName) ({ cls := "DelegationClosureModel", name := "also", desc := "(II)I" } : Jvm.MethodName)) ∈ gW := gW_t 607 rfl (by decide +kernel)
set_option maxRecDepth 100000 in
theorem wd_609 : (Jvm.Cond.methodLink "DelegationClosureLaw" (37 : Nat) ({ cls := "DelegationClosureModel", name := "quorum", desc := "(II)Z" } : Jvm.MethodName)) ∈ gW := gW_t 609 rfl (by decide +kernel)
set_option maxRecDepth 100000 in
theorem wd_610 : (Jvm.Cond.instanceMethod ({ cls := "DelegationClosureModel", name := "quorum", desc := "(II)Z" } : Jvm.MethodName)) ∈ gW := gW_t 610 rfl (by decide +kernel)
set_option maxRecDepth 100000 in
theorem wd_611 : (Jvm.Cond.selects "DelegationClosureModel" ({ cls := "DelegationClosureModel", name := "quorum", desc := "(II)Z" } : Jvm.MethodName) ({ cls := "DelegationClosureModel", name := "quorum", desc := "(II)Z" } : Jvm.MethodName)) ∈ gW := gW_t 611 rfl (by decide +kernel)
set_option maxRecDepth 100000 in
theorem wd_613 : (Jvm.Cond.methodLink "DelegationClosureLaw" (42 : Nat) ({ cls := "DelegationClosureModel", name := "revoke", desc := "(I)Z" } : Jvm.MethodName)) ∈ gW := gW_t 613 rfl (by decide +kernel)
set_option maxRecDepth 100000 in
theorem wd_614 : (Jvm.Cond.instanceMethod ({ cls := "DelegationClosureModel", name := "revoke", desc := "(I)Z" } : Jvm.MethodName)) ∈ gW := gW_t 614 rfl (by decide +kernel)
set_option maxRecDepth 100000 in
theorem wd_615 : (Jvm.Cond.selects "DelegationClosureModel" ({ cls := "DelegationClosureModel", name := "revoke", desc := "(I)Z" } : Jvm.MethodName) ({ cls := "DelegationClosureModel", name := "revoke", desc := "(I)Z" } : Jvm.MethodName)) ∈ gW := gW_t 615 rfl (by decide +kernel)
set_option maxRecDepth 100000 in
theorem wd_617 : (Jvm.Cond.methodLink "DelegationClosureLaw" (47 : Nat) ({ cls := "DelegationClosureModel", name := "certificates", desc := "()I" } : Jvm.MethodName)) ∈ gW := gW_t 617 rfl (by decide +kernel)
set_option maxRecDepth 100000 in
theorem wd_618 : (Jvm.Cond.instanceMethod ({ cls := "DelegationClosureModel", name := "certificates", desc := "()I" } : Jvm.MethodName)) ∈ gW := gW_t 618 rfl (by decide +kernel)
set_option maxRecDepth 100000 in
theorem wd_619 : (Jvm.Cond.selects "DelegationClosureModel" ({ cls := "DelegationClosureModel", name := "certificates", desc := "()I" } : Jvm.MethodName) ({ cls := "DelegationClosureModel", name := "certificates", desc := "()I" } : Jvm.MethodName)) ∈ gW := gW_t 619 rfl (by decide +kernel)
set_option maxRecDepth 100000 in
theorem wd_621 : (Jvm.Cond.methodLink "DelegationClosureLaw" (51 : Nat) ({ cls := "DelegationClosureModel", name := "meant", desc := "(II)I" } : Jvm.MethodName)) ∈ gW := gW_t 621 rfl (by decide +kernel)
set_option maxRecDepth 100000 in
theorem wd_622 : (Jvm.Cond.instanceMethod ({ cls := "DelegationClosureModel", name := "meant", desc := "(II)I" } : Jvm.MethodName)) ∈ gW := gW_t 622 rfl (by decide +kernel)
set_option maxRecDepth 100000 in
theorem wd_623 : (Jvm.Cond.selects "DelegationClosureModel" ({ cls := "DelegationClosureModel", name := "meant", desc := "(II)I" } : Jvm.MethodName) ({ cls := "DelegationClosureModel", name := "meant", desc := "(II)I" } : Jvm.MethodName)) ∈ gW := gW_t 623 rfl (by decide +kernel)
set_option maxRecDepth 100000 in
theorem wd_625 : (Jvm.Cond.methodLink "DelegationClosureModel" (101 : Nat) ({ cls := "DelegationClosureModel", name := "findMeanings", desc := "(I)V" } : Jvm.MethodName)) ∈ gW := gW_t 625 rfl (by decide +kernel)
set_option maxRecDepth 100000 in
theorem wd_627 : (Jvm.Cond.instanceMethod ({ cls := "DelegationClosureModel", name := "findMeanings", desc := "(I)V" } : Jvm.MethodName)) ∈ gW := gW_t 627 rfl (by decide +kernel)
set_option maxRecDepth 100000 in
theorem wd_629 : (Jvm.Cond.methodLink "DelegationClosureModel" (98 : Nat) ({ cls := "DelegationClosureModel", name := "useNames", desc := "(I)Z" } : Jvm.MethodName)) ∈ gW := gW_t 629 rfl (by decide +kernel)
set_option maxRecDepth 100000 in
theorem wd_631 : (Jvm.Cond.instanceMethod ({ cls := "DelegationClosureModel", name := "useNames", desc := "(I)Z" } : Jvm.MethodName)) ∈ gW := gW_t 631 rfl (by decide +kernel)
set_option maxRecDepth 100000 in
theorem wd_633 : (Jvm.Cond.methodLink "DelegationClosureModel" (91 : Nat) ({ cls := "DelegationClosureModel", name := "isValid", desc := "(II)Z" } : Jvm.MethodName)) ∈ gW := gW_t 633 rfl (by decide +kernel)
set_option maxRecDepth 100000 in
theorem wd_635 : (Jvm.Cond.instanceMethod ({ cls := "DelegationClosureModel", name := "isValid", desc := "(II)Z" } : Jvm.MethodName)) ∈ gW := gW_t 635 rfl (by decide +kernel)
set_option maxRecDepth 100000 in
theorem wd_637 : (Jvm.Cond.methodLink "DelegationClosureModel" (95 : Nat) ({ cls := "DelegationClosureModel", name := "costOf", desc := "(II)I" } : Jvm.MethodName)) ∈ gW := gW_t 637 rfl (by decide +kernel)
set_option maxRecDepth 100000 in
theorem wd_639 : (Jvm.Cond.instanceMethod ({ cls := "DelegationClosureModel", name := "costOf", desc := "(II)I" } : Jvm.MethodName)) ∈ gW := gW_t 639 rfl (by decide +kernel)
set_option maxRecDepth 100000 in
theorem wd_641 : (Jvm.Cond.methodLink "DelegationClosureModel" (83 : Nat) ({ cls := "DelegationClosureModel", name := "keyOf", desc := "(I)I" } : Jvm.MethodName)) ∈ gW := gW_t 641 rfl (by decide +kernel)
set_option maxRecDepth 100000 in
theorem wd_642 : (Jvm.Cond.static ({ cls := "DelegationClosureModel", name := "keyOf", desc := "(I)I" } : Jvm.MethodName)) ∈ gW := gW_t 642 rfl (by decide +kernel)
set_option maxRecDepth 100000 in
theorem wd_644 : (Jvm.Cond.methodLink "DelegationClosureModel" (87 : Nat) ({ cls := "DelegationClosureModel", name := "sum", desc := "(II)I" } : Jvm.MethodName)) ∈ gW := gW_t 644 rfl (by decide +kernel)
set_option maxRecDepth 100000 in
theorem wd_645 : (Jvm.Cond.static ({ cls := "DelegationClosureModel", name := "sum", desc := "(II)I" } : Jvm.MethodName)) ∈ gW := gW_t 645 rfl (by decide +kernel)
set_option maxRecDepth 100000 in
theorem wd_647 : (Jvm.Cond.methodLink "DelegationClosureLaw" (56 : Nat) ({ cls := "DelegationClosureModel", name := "cost", desc := "(III)I" } : Jvm.MethodName)) ∈ gW := gW_t 647 rfl (by decide +kernel)
set_option maxRecDepth 100000 in
theorem wd_648 : (Jvm.Cond.instanceMethod ({ cls := "DelegationClosureModel", name := "cost", desc := "(III)I" } : Jvm.MethodName)) ∈ gW := gW_t 648 rfl (by decide +kernel)
set_option maxRecDepth 100000 in
theorem wd_649 : (Jvm.Cond.selects "DelegationClosureModel" ({ cls := "DelegationClosureModel", name := "cost", desc := "(III)I" } : Jvm.MethodName) ({ cls := "DelegationClosureModel", name := "cost", desc := "(III)I" } : Jvm.MethodName)) ∈ gW := gW_t 649 rfl (by decide +kernel)
set_option maxRecDepth 100000 in
theorem wd_651 : (Jvm.Cond.methodLink "DelegationClosureLaw" (61 : Nat) ({ cls := "DelegationClosureModel", name := "may", desc := "(IIII)I" } : Jvm.MethodName)) ∈ gW := gW_t 651 rfl (by decide +kernel)
set_option maxRecDepth 100000 in
theorem wd_652 : (Jvm.Cond.instanceMethod ({ cls := "DelegationClosureModel", name := "may", desc := "(IIII)I" } : Jvm.MethodName)) ∈ gW := gW_t 652 rfl (by decide +kernel)
set_option maxRecDepth 100000 in
theorem wd_653 : (Jvm.Cond.selects "DelegationClosureModel" ({ cls := "DelegationClosureModel", name := "may", desc := "(IIII)I" } : Jvm.MethodName) ({ cls := "DelegationClosureModel", name := "may", desc := "(IIII)I" } : Jvm.MethodName)) ∈ gW := gW_t 653 rfl (by decide +kernel)
set_option maxRecDepth 100000 in
theorem wd_655 : (Jvm.Cond.methodLink "DelegationClosureModel" (123 : Nat) ({ cls := "DelegationClosureModel", name := "findLeading", desc := "(IIII)V" } : Jvm.MethodName)) ∈ gW := gW_t 655 rfl (by decide +kernel)
set_option maxRecDepth 100000 in
theorem wd_657 : (Jvm.Cond.instanceMethod ({ cls := "DelegationClosureModel", name := "findLeading", desc := "(IIII)V" } : Jvm.MethodName)) ∈ gW := gW_t 657 rfl (by decide +kernel)
set_option maxRecDepth 100000 in
theorem wd_659 : (Jvm.Cond.methodLink "DelegationClosureModel" (116 : Nat) ({ cls := "DelegationClosureModel", name := "counts", desc := "(IIII)Z" } : Jvm.MethodName)) ∈ gW := gW_t 659 rfl (by decide +kernel)
set_option maxRecDepth 100000 in
theorem wd_661 : (Jvm.Cond.instanceMethod ({ cls := "DelegationClosureModel", name := "counts", desc := "(IIII)Z" } : Jvm.MethodName)) ∈ gW := gW_t 661 rfl (by decide +kernel)
set_option maxRecDepth 100000 in
theorem wd_663 : (Jvm.Cond.methodLink "DelegationClosureModel" (120 : Nat) ({ cls := "DelegationClosureModel", name := "byCertificate", desc := "(II)I" } : Jvm.MethodName)) ∈ gW := gW_t 663 rfl (by decide +kernel)
set_option maxRecDepth 100000 in
theorem wd_665 : (Jvm.Cond.instanceMethod ({ cls := "DelegationClosureModel", name := "byCertificate", desc := "(II)I" } : Jvm.MethodName)) ∈ gW := gW_t 665 rfl (by decide +kernel)
set_option maxRecDepth 100000 in
theorem wd_667 : (Jvm.Cond.methodLink "DelegationClosureModel" (108 : Nat) ({ cls := "DelegationClosureModel", name := "bySubject", desc := "(III)I" } : Jvm.MethodName)) ∈ gW := gW_t 667 rfl (by decide +kernel)
set_option maxRecDepth 100000 in
theorem wd_669 : (Jvm.Cond.instanceMethod ({ cls := "DelegationClosureModel", name := "bySubject", desc := "(III)I" } : Jvm.MethodName)) ∈ gW := gW_t 669 rfl (by decide +kernel)
set_option maxRecDepth 100000 in
theorem wd_671 : (Jvm.Cond.methodLink "DelegationClosureModel" (105 : Nat) ({ cls := "DelegationClosureModel", name := "leadOf", desc := "(I)I" } : Jvm.MethodName)) ∈ gW := gW_t 671 rfl (by decide +kernel)
set_option maxRecDepth 100000 in
theorem wd_673 : (Jvm.Cond.instanceMethod ({ cls := "DelegationClosureModel", name := "leadOf", desc := "(I)I" } : Jvm.MethodName)) ∈ gW := gW_t 673 rfl (by decide +kernel)
set_option maxRecDepth 100000 in
theorem wd_675 : (Jvm.Cond.methodLink "DelegationClosureModel" (112 : Nat) ({ cls := "DelegationClosureModel", name := "leastOf", desc := "(IIII)I" } : Jvm.MethodName)) ∈ gW := gW_t 675 rfl (by decide +kernel)
set_option maxRecDepth 100000 in
theorem wd_676 : (Jvm.Cond.static ({ cls := "DelegationClosureModel", name := "leastOf", desc := "(IIII)I" } : Jvm.MethodName)) ∈ gW := gW_t 676 rfl (by decide +kernel)
set_option maxRecDepth 100000 in
theorem wd_678 : (Jvm.Cond.methodLink "DelegationClosureLaw" (65 : Nat) ({ cls := "DelegationClosureModel", name := "holders", desc := "(III)I" } : Jvm.MethodName)) ∈ gW := gW_t 678 rfl (by decide +kernel)
set_option maxRecDepth 100000 in
theorem wd_679 : (Jvm.Cond.instanceMethod ({ cls := "DelegationClosureModel", name := "holders", desc := "(III)I" } : Jvm.MethodName)) ∈ gW := gW_t 679 rfl (by decide +kernel)
set_option maxRecDepth 100000 in
theorem wd_680 : (Jvm.Cond.selects "DelegationClosureModel" ({ cls := "DelegationClosureModel", name := "holders", desc := "(III)I" } : Jvm.MethodName) ({ cls := "DelegationClosureModel", name := "holders", desc := "(III)I" } : Jvm.MethodName)) ∈ gW := gW_t 680 rfl (by decide +kernel)
set_option maxRecDepth 100000 in
theorem wd_682 : (Jvm.Cond.methodLink "DelegationClosureModel" (127 : Nat) ({ cls := "DelegationClosureModel", name := "may", desc := "(IIII)I" } : Jvm.MethodName)) ∈ gW := gW_t 682 rfl (by decide +kernel)
set_option maxRecDepth 100000 in
theorem wd_683 : (Jvm.Cond.methodLink "DelegationClosureLaw" (69 : Nat) ({ cls := "DelegationClosureModel", name := "begin", desc := "(I)Z" } : Jvm.MethodName)) ∈ gW := gW_t 683 rfl (by decide +kernel)
set_option maxRecDepth 100000 in
theorem wd_684 : (Jvm.Cond.instanceMethod ({ cls := "DelegationClosureModel", name := "begin", desc := "(I)Z" } : Jvm.MethodName)) ∈ gW := gW_t 684 rfl (by decide +kernel)
set_option maxRecDepth 100000 in
theorem wd_685 : (Jvm.Cond.selects "DelegationClosureModel" ({ cls := "DelegationClosureModel", name := "begin", desc := "(I)Z" } : Jvm.MethodName) ({ cls := "DelegationClosureModel", name := "begin", desc := "(I)Z" } : Jvm.MethodName)) ∈ gW := gW_t 685 rfl (by decide +kernel)
set_option maxRecDepth 100000 in
theorem wd_687 : (Jvm.Cond.methodLink "DelegationClosureModel" (137 : Nat) ({ cls := "DelegationClosureModel", name := "place", desc := "(I)V" } : Jvm.MethodName)) ∈ gW := gW_t 687 rfl (by decide +kernel)
set_option maxRecDepth 100000 in
theorem wd_689 : (Jvm.Cond.instanceMethod ({ cls := "DelegationClosureModel", name := "place", desc := "(I)V" } : Jvm.MethodName)) ∈ gW := gW_t 689 rfl (by decide +kernel)
set_option maxRecDepth 100000 in
theorem wd_691 : (Jvm.Cond.methodLink "DelegationClosureModel" (161 : Nat) ({ cls := "DelegationClosureModel", name := "namesOf", desc := "(I)I" } : Jvm.MethodName)) ∈ gW := gW_t 691 rfl (by decide +kernel)
set_option maxRecDepth 100000 in
theorem wd_692 : (Jvm.Cond.static ({ cls := "DelegationClosureModel", name := "namesOf", desc := "(I)I" } : Jvm.MethodName)) ∈ gW := gW_t 692 rfl (by decide +kernel)
set_option maxRecDepth 100000 in
theorem wd_694 : (Jvm.Cond.methodLink "DelegationClosureLaw" (73 : Nat) ({ cls := "DelegationClosureModel", name := "follow", desc := "(I)Z" } : Jvm.MethodName)) ∈ gW := gW_t 694 rfl (by decide +kernel)
set_option maxRecDepth 100000 in
theorem wd_695 : (Jvm.Cond.instanceMethod ({ cls := "DelegationClosureModel", name := "follow", desc := "(I)Z" } : Jvm.MethodName)) ∈ gW := gW_t 695 rfl (by decide +kernel)
set_option maxRecDepth 100000 in
theorem wd_696 : (Jvm.Cond.selects "DelegationClosureModel" ({ cls := "DelegationClosureModel", name := "follow", desc := "(I)Z" } : Jvm.MethodName) ({ cls := "DelegationClosureModel", name := "follow", desc := "(I)Z" } : Jvm.MethodName)) ∈ gW := gW_t 696 rfl (by decide +kernel)
set_option maxRecDepth 100000 in
theorem wd_698 : (Jvm.Cond.methodLink "DelegationClosureModel" (167 : Nat) ({ cls := "DelegationClosureModel", name := "fits", desc := "(I)Z" } : Jvm.MethodName)) ∈ gW := gW_t 698 rfl (by decide +kernel)
set_option maxRecDepth 100000 in
theorem wd_700 : (Jvm.Cond.instanceMethod ({ cls := "DelegationClosureModel", name := "fits", desc := "(I)Z" } : Jvm.MethodName)) ∈ gW := gW_t 700 rfl (by decide +kernel)
set_option maxRecDepth 100000 in
theorem wd_702 : (Jvm.Cond.methodLink "DelegationClosureModel" (170 : Nat) ({ cls := "DelegationClosureModel", name := "dropName", desc := "()V" } : Jvm.MethodName)) ∈ gW := gW_t 702 rfl (by decide +kernel)
set_option maxRecDepth 100000 in
theorem wd_704 : (Jvm.Cond.instanceMethod ({ cls := "DelegationClosureModel", name := "dropName", desc := "()V" } : Jvm.MethodName)) ∈ gW := gW_t 704 rfl (by decide +kernel)
set_option maxRecDepth 100000 in
theorem wd_706 : (Jvm.Cond.methodLink "DelegationClosureLaw" (77 : Nat) ({ cls := "DelegationClosureModel", name := "head", desc := "()I" } : Jvm.MethodName)) ∈ gW := gW_t 706 rfl (by decide +kernel)
set_option maxRecDepth 100000 in
theorem wd_707 : (Jvm.Cond.instanceMethod ({ cls := "DelegationClosureModel", name := "head", desc := "()I" } : Jvm.MethodName)) ∈ gW := gW_t 707 rfl (by decide +kernel)
set_option maxRecDepth 100000 in
theorem wd_708 : (Jvm.Cond.selects "DelegationClosureModel" ({ cls := "DelegationClosureModel", name := "head", desc := "()I" } : Jvm.MethodName) ({ cls := "DelegationClosureModel", name := "head", desc := "()I" } : Jvm.MethodName)) ∈ gW := gW_t 708 rfl (by decide +kernel)
set_option maxRecDepth 100000 in
theorem wd_710 : (Jvm.Cond.methodLink "DelegationClosureLaw" (82 : Nat) ({ cls := "DelegationClosureModel", name := "behind", desc := "(I)I" } : Jvm.MethodName)) ∈ gW := gW_t 710 rfl (by decide +kernel)
set_option maxRecDepth 100000 in
theorem wd_711 : (Jvm.Cond.instanceMethod ({ cls := "DelegationClosureModel", name := "behind", desc := "(I)I" } : Jvm.MethodName)) ∈ gW := gW_t 711 rfl (by decide +kernel)
set_option maxRecDepth 100000 in
theorem wd_712 : (Jvm.Cond.selects "DelegationClosureModel" ({ cls := "DelegationClosureModel", name := "behind", desc := "(I)I" } : Jvm.MethodName) ({ cls := "DelegationClosureModel", name := "behind", desc := "(I)I" } : Jvm.MethodName)) ∈ gW := gW_t 712 rfl (by decide +kernel)
set_option maxRecDepth 100000 in
theorem wd_714 : (Jvm.Cond.methodLink "DelegationClosureLaw" (87 : Nat) ({ cls := "DelegationClosureModel", name := "grants", desc := "(III)Z" } : Jvm.MethodName)) ∈ gW := gW_t 714 rfl (by decide +kernel)
set_option maxRecDepth 100000 in
theorem wd_715 : (Jvm.Cond.instanceMethod ({ cls := "DelegationClosureModel", name := "grants", desc := "(III)Z" } : Jvm.MethodName)) ∈ gW := gW_t 715 rfl (by decide +kernel)
set_option maxRecDepth 100000 in
theorem wd_716 : (Jvm.Cond.selects "DelegationClosureModel" ({ cls := "DelegationClosureModel", name := "grants", desc := "(III)Z" } : Jvm.MethodName) ({ cls := "DelegationClosureModel", name := "grants", desc := "(III)Z" } : Jvm.MethodName)) ∈ gW := gW_t 716 rfl (by decide +kernel)
set_option maxRecDepth 100000 in
theorem wd_718 : (Jvm.Cond.methodLink "DelegationClosureLaw" (91 : Nat) ({ cls := "DelegationClosureModel", name := "used", desc := "()I" } : Jvm.MethodName)) ∈ gW := gW_t 718 rfl (by decide +kernel)
set_option maxRecDepth 100000 in
theorem wd_719 : (Jvm.Cond.instanceMethod ({ cls := "DelegationClosureModel", name := "used", desc := "()I" } : Jvm.MethodName)) ∈ gW := gW_t 719 rfl (by decide +kernel)
set_option maxRecDepth 100000 in
theorem wd_720 : (Jvm.Cond.selects "DelegationClosureModel" ({ cls := "DelegationClosureModel", name := "used", desc := "()I" } : Jvm.MethodName) ({ cls := "DelegationClosureModel", name := "used", desc := "()I" } : Jvm.MethodName)) ∈ gW := gW_t 720 rfl (by decide +kernel)
set_option maxRecDepth 100000 in
theorem wd_722 : (Jvm.Cond.methodLink "DelegationClosureLaw" (96 : Nat) ({ cls := "DelegationClosureModel", name := "delegates", desc := "()Z" } : Jvm.MethodName)) ∈ gW := gW_t 722 rfl (by decide +kernel)
set_option maxRecDepth 100000 in
theorem wd_723 : (Jvm.Cond.instanceMethod ({ cls := "DelegationClosureModel", name := "delegates", desc := "()Z" } : Jvm.MethodName)) ∈ gW := gW_t 723 rfl (by decide +kernel)
set_option maxRecDepth 100000 in
theorem wd_724 : (Jvm.Cond.selects "DelegationClosureModel" ({ cls := "DelegationClosureModel", name := "delegates", desc := "()Z" } : Jvm.MethodName) ({ cls := "DelegationClosureModel", name := "delegates", desc := "()Z" } : Jvm.MethodName)) ∈ gW := gW_t 724 rfl (by decide +kernel)
set_option maxRecDepth 100000 in
theorem nw_726 : (Jvm.Cond.castable "DelegationClosure$Permission" "DelegationClosure$Permission") ∈ lw_tbl := List.mem_append_right _ (List.mem_of_getElem? (i := 726) rfl)
set_option maxRecDepth 100000 in
theorem nw_727 : (Jvm.Cond.castable "DelegationClosure$Naming" "DelegationClosure$Naming") ∈ lw_tbl := List.mem_append_right _ (List.mem_of_getElem? (i := 727) rfl)
set_option maxRecDepth 100000 in
theorem nw_728 : (Jvm.Cond.castable "DelegationClosure$Naming" "DelegationClosure$Certificate") ∈ lw_tbl := List.mem_append_right _ (List.mem_of_getElem? (i := 728) rfl)
set_option maxRecDepth 100000 in
theorem nw_729 : (Jvm.Cond.castable "DelegationClosure$Permission" "DelegationClosure$Certificate") ∈ lw_tbl := List.mem_append_right _ (List.mem_of_getElem? (i := 729) rfl)
