set_option maxRecDepth 20000 in
theorem tw_322 : Cond.fieldLink "NestedDeeds$Walker" 9 "NestedDeeds$Walker" "deedAt" "[I" ∈ tb := tb_mem (List.mem_of_getElem? (i := 322) (by decide +kernel)) rfl
set_option maxRecDepth 20000 in
theorem tw_323 : Cond.fieldLink "NestedDeeds$Walker" 15 "NestedDeeds$Walker" "turnAt" "[I" ∈ tb := tb_mem (List.mem_of_getElem? (i := 323) (by decide +kernel)) rfl
set_option maxRecDepth 20000 in
theorem tw_324 : Cond.fieldLink "NestedDeeds$Walker" 18 "NestedDeeds$Walker" "width" "[I" ∈ tb := tb_mem (List.mem_of_getElem? (i := 324) (by decide +kernel)) rfl
set_option maxRecDepth 20000 in
theorem tw_325 : Cond.fieldLink "NestedDeeds" 187 "NestedDeeds$Walker" "width" "[I" ∈ tb := tb_mem (List.mem_of_getElem? (i := 325) (by decide +kernel)) rfl
set_option maxRecDepth 20000 in
theorem tw_326 : Cond.fieldLink "NestedDeeds$Walker" 21 "NestedDeeds$Walker" "way" "I" ∈ tb := tb_mem (List.mem_of_getElem? (i := 326) (by decide +kernel)) rfl
set_option maxRecDepth 20000 in
theorem tw_327 : Cond.fieldLink "NestedDeeds" 128 "NestedDeeds$Walker" "way" "I" ∈ tb := tb_mem (List.mem_of_getElem? (i := 327) (by decide +kernel)) rfl
set_option maxRecDepth 20000 in
theorem tw_328 : Cond.fieldLink "NestedDeeds$Walker" 25 "NestedDeeds$Walker" "meter" "I" ∈ tb := tb_mem (List.mem_of_getElem? (i := 328) (by decide +kernel)) rfl
set_option maxRecDepth 20000 in
theorem tw_329 : Cond.fieldLink "NestedDeeds" 132 "NestedDeeds$Walker" "meter" "I" ∈ tb := tb_mem (List.mem_of_getElem? (i := 329) (by decide +kernel)) rfl
set_option maxRecDepth 20000 in
theorem tw_330 : Cond.fieldLink "NestedDeeds$Walker" 36 "NestedDeeds$Walker" "outcome" "I" ∈ tb := tb_mem (List.mem_of_getElem? (i := 330) (by decide +kernel)) rfl
set_option maxRecDepth 20000 in
theorem tw_331 : Cond.fieldLink "NestedDeeds" 220 "NestedDeeds$Walker" "outcome" "I" ∈ tb := tb_mem (List.mem_of_getElem? (i := 331) (by decide +kernel)) rfl
set_option maxRecDepth 20000 in
theorem tw_332 : Cond.fieldLink "NestedDeeds$Walker" 55 "NestedDeeds$Walker" "visited" "I" ∈ tb := tb_mem (List.mem_of_getElem? (i := 332) (by decide +kernel)) rfl
set_option maxRecDepth 20000 in
theorem tw_333 : Cond.fieldLink "NestedDeeds" 150 "NestedDeeds$Walker" "visited" "I" ∈ tb := tb_mem (List.mem_of_getElem? (i := 333) (by decide +kernel)) rfl
set_option maxRecDepth 20000 in
theorem tw_334 : Cond.fieldLink "NestedDeeds$Walker" 58 "NestedDeeds$Walker" "deepest" "I" ∈ tb := tb_mem (List.mem_of_getElem? (i := 334) (by decide +kernel)) rfl
set_option maxRecDepth 20000 in
theorem tw_335 : Cond.fieldLink "NestedDeeds" 153 "NestedDeeds$Walker" "deepest" "I" ∈ tb := tb_mem (List.mem_of_getElem? (i := 335) (by decide +kernel)) rfl
set_option maxRecDepth 20000 in
theorem tw_336 : Cond.fieldLink "NestedDeeds$Walker" 85 "NestedDeeds$Walker" "calls" "I" ∈ tb := tb_mem (List.mem_of_getElem? (i := 336) (by decide +kernel)) rfl
set_option maxRecDepth 20000 in
theorem tw_337 : Cond.fieldLink "NestedDeeds" 229 "NestedDeeds$Walker" "calls" "I" ∈ tb := tb_mem (List.mem_of_getElem? (i := 337) (by decide +kernel)) rfl
set_option maxRecDepth 20000 in
theorem tw_338 : Cond.fieldLink "NestedDeeds$Walker" 32 "NestedDeeds$Walker" "task" "LNestedDeeds$Task;" ∈ tb := tb_mem (List.mem_of_getElem? (i := 338) (by decide +kernel)) rfl
set_option maxRecDepth 20000 in
theorem tw_339 : Cond.fieldLink "NestedDeeds$Walker" 61 "NestedDeeds$Walker" "bottom" "I" ∈ tb := tb_mem (List.mem_of_getElem? (i := 339) (by decide +kernel)) rfl
set_option maxRecDepth 20000 in
theorem tw_340 : Cond.fieldLink "NestedDeeds$Walker" 113 "NestedDeeds$Walker" "level" "I" ∈ tb := tb_mem (List.mem_of_getElem? (i := 340) (by decide +kernel)) rfl
set_option maxRecDepth 20000 in
theorem tw_341 : Cond.fieldLink "NestedDeeds$Walker" 119 "NestedDeeds$Walker" "coming" "I" ∈ tb := tb_mem (List.mem_of_getElem? (i := 341) (by decide +kernel)) rfl
set_option maxRecDepth 20000 in
theorem tw_371 : Cond.fieldLink "NestedDeeds" 12 "NestedDeeds" "deeds" "LNestedDeeds$Deeds;" ∈ tb := tb_mem (List.mem_of_getElem? (i := 371) (by decide +kernel)) rfl
set_option maxRecDepth 20000 in
theorem tw_372 : Cond.fieldLink "NestedDeeds" 19 "NestedDeeds" "paper" "LNestedDeeds$Paper;" ∈ tb := tb_mem (List.mem_of_getElem? (i := 372) (by decide +kernel)) rfl
set_option maxRecDepth 20000 in
theorem tw_373 : Cond.fieldLink "NestedDeeds" 23 "NestedDeeds" "draft" "LNestedDeeds$Paper;" ∈ tb := tb_mem (List.mem_of_getElem? (i := 373) (by decide +kernel)) rfl
set_option maxRecDepth 20000 in
theorem tw_374 : Cond.fieldLink "NestedDeeds" 31 "NestedDeeds" "reader" "LNestedDeeds$Reader;" ∈ tb := tb_mem (List.mem_of_getElem? (i := 374) (by decide +kernel)) rfl
set_option maxRecDepth 20000 in
theorem tw_375 : Cond.fieldLink "NestedDeeds" 97 "NestedDeeds" "walker" "LNestedDeeds$Walker;" ∈ tb := tb_mem (List.mem_of_getElem? (i := 375) (by decide +kernel)) rfl
set_option maxRecDepth 20000 in
theorem tw_376 : Cond.fieldLink "NestedDeeds" 35 "NestedDeeds" "reckoned" "[J" ∈ tb := tb_mem (List.mem_of_getElem? (i := 376) (by decide +kernel)) rfl
set_option maxRecDepth 20000 in
theorem tw_377 : Cond.fieldLink "NestedDeeds" 44 "NestedDeeds" "visiting" "LNestedDeeds$Task;" ∈ tb := tb_mem (List.mem_of_getElem? (i := 377) (by decide +kernel)) rfl
set_option maxRecDepth 20000 in
theorem tw_378 : Cond.fieldLink "NestedDeeds" 53 "NestedDeeds" "weighing" "LNestedDeeds$Weighing;" ∈ tb := tb_mem (List.mem_of_getElem? (i := 378) (by decide +kernel)) rfl
set_option maxRecDepth 20000 in
theorem tw_379 : Cond.fieldLink "NestedDeeds" 60 "NestedDeeds" "marking" "LNestedDeeds$Marking;" ∈ tb := tb_mem (List.mem_of_getElem? (i := 379) (by decide +kernel)) rfl
set_option maxRecDepth 20000 in
theorem tw_380 : Cond.fieldLink "NestedDeeds" 67 "NestedDeeds" "comparing" "LNestedDeeds$Comparing;" ∈ tb := tb_mem (List.mem_of_getElem? (i := 380) (by decide +kernel)) rfl
set_option maxRecDepth 20000 in
theorem tw_381 : Cond.fieldLink "NestedDeeds" 74 "NestedDeeds" "writing" "LNestedDeeds$Writing;" ∈ tb := tb_mem (List.mem_of_getElem? (i := 381) (by decide +kernel)) rfl
set_option maxRecDepth 20000 in
theorem tw_382 : Cond.fieldLink "NestedDeeds" 81 "NestedDeeds" "finding" "LNestedDeeds$Finding;" ∈ tb := tb_mem (List.mem_of_getElem? (i := 382) (by decide +kernel)) rfl
set_option maxRecDepth 20000 in
theorem tw_383 : Cond.fieldLink "NestedDeeds" 88 "NestedDeeds" "copying" "LNestedDeeds$Copying;" ∈ tb := tb_mem (List.mem_of_getElem? (i := 383) (by decide +kernel)) rfl
set_option maxRecDepth 20000 in
theorem tw_411 : Cond.methodLink "NestedDeedsLaw" 13 ⟨"NestedDeeds", "deed", "(II)I"⟩ ∈ tb := tb_mem (List.mem_of_getElem? (i := 411) (by decide +kernel)) rfl
set_option maxRecDepth 20000 in
theorem tw_412 : Cond.instanceMethod ⟨"NestedDeeds", "deed", "(II)I"⟩ ∈ tb := tb_mem (List.mem_of_getElem? (i := 412) (by decide +kernel)) rfl
set_option maxRecDepth 20000 in
theorem tw_413 : Cond.selects "NestedDeeds" ⟨"NestedDeeds", "deed", "(II)I"⟩ ⟨"NestedDeeds", "deed", "(II)I"⟩ ∈ tb := tb_mem (List.mem_of_getElem? (i := 413) (by decide +kernel)) rfl
set_option maxRecDepth 20000 in
theorem tw_414 : Cond.code ⟨"NestedDeeds", "deed", "(II)I"⟩ prog_1_method_2_code 3 (some .int) ∈ tb := tb_mem (List.mem_of_getElem? (i := 414) (by decide +kernel)) rfl
set_option maxRecDepth 20000 in
theorem tw_415 : Cond.methodLink "NestedDeeds" 101 ⟨"NestedDeeds", "isKind", "(I)Z"⟩ ∈ tb := tb_mem (List.mem_of_getElem? (i := 415) (by decide +kernel)) rfl
set_option maxRecDepth 20000 in
theorem tw_416 : Cond.static ⟨"NestedDeeds", "isKind", "(I)Z"⟩ ∈ tb := tb_mem (List.mem_of_getElem? (i := 416) (by decide +kernel)) rfl
set_option maxRecDepth 20000 in
theorem tw_417 : Cond.code ⟨"NestedDeeds", "isKind", "(I)Z"⟩ prog_1_method_28_code 1 (some .boolean) ∈ tb := tb_mem (List.mem_of_getElem? (i := 417) (by decide +kernel)) rfl
set_option maxRecDepth 20000 in
theorem tw_418 : Cond.methodLink "NestedDeeds" 105 ⟨"NestedDeeds$Deeds", "hasRoom", "(II)Z"⟩ ∈ tb := tb_mem (List.mem_of_getElem? (i := 418) (by decide +kernel)) rfl
set_option maxRecDepth 20000 in
theorem tw_419 : Cond.instanceMethod ⟨"NestedDeeds$Deeds", "hasRoom", "(II)Z"⟩ ∈ tb := tb_mem (List.mem_of_getElem? (i := 419) (by decide +kernel)) rfl
set_option maxRecDepth 20000 in
theorem tw_420 : Cond.selects "NestedDeeds$Deeds" ⟨"NestedDeeds$Deeds", "hasRoom", "(II)Z"⟩ ⟨"NestedDeeds$Deeds", "hasRoom", "(II)Z"⟩ ∈ tb := tb_mem (List.mem_of_getElem? (i := 420) (by decide +kernel)) rfl
set_option maxRecDepth 20000 in
theorem tw_421 : Cond.code ⟨"NestedDeeds$Deeds", "hasRoom", "(II)Z"⟩ prog_4_method_3_code 3 (some .boolean) ∈ tb := tb_mem (List.mem_of_getElem? (i := 421) (by decide +kernel)) rfl
set_option maxRecDepth 20000 in
theorem tw_422 : Cond.methodLink "NestedDeeds$Deeds" 31 ⟨"NestedDeeds$Deeds", "allParts", "()I"⟩ ∈ tb := tb_mem (List.mem_of_getElem? (i := 422) (by decide +kernel)) rfl
set_option maxRecDepth 20000 in
theorem tw_423 : Cond.instanceMethod ⟨"NestedDeeds$Deeds", "allParts", "()I"⟩ ∈ tb := tb_mem (List.mem_of_getElem? (i := 423) (by decide +kernel)) rfl
set_option maxRecDepth 20000 in
theorem tw_424 : Cond.selects "NestedDeeds$Deeds" ⟨"NestedDeeds$Deeds", "allParts", "()I"⟩ ⟨"NestedDeeds$Deeds", "allParts", "()I"⟩ ∈ tb := tb_mem (List.mem_of_getElem? (i := 424) (by decide +kernel)) rfl
set_option maxRecDepth 20000 in
theorem tw_425 : Cond.code ⟨"NestedDeeds$Deeds", "allParts", "()I"⟩ prog_4_method_4_code 1 (some .int) ∈ tb := tb_mem (List.mem_of_getElem? (i := 425) (by decide +kernel)) rfl
set_option maxRecDepth 20000 in
theorem tw_426 : Cond.methodLink "NestedDeeds" 109 ⟨"NestedDeeds$Deeds", "add", "(II)I"⟩ ∈ tb := tb_mem (List.mem_of_getElem? (i := 426) (by decide +kernel)) rfl
set_option maxRecDepth 20000 in
theorem tw_427 : Cond.instanceMethod ⟨"NestedDeeds$Deeds", "add", "(II)I"⟩ ∈ tb := tb_mem (List.mem_of_getElem? (i := 427) (by decide +kernel)) rfl
set_option maxRecDepth 20000 in
theorem tw_428 : Cond.selects "NestedDeeds$Deeds" ⟨"NestedDeeds$Deeds", "add", "(II)I"⟩ ⟨"NestedDeeds$Deeds", "add", "(II)I"⟩ ∈ tb := tb_mem (List.mem_of_getElem? (i := 428) (by decide +kernel)) rfl
set_option maxRecDepth 20000 in
theorem tw_429 : Cond.code ⟨"NestedDeeds$Deeds", "add", "(II)I"⟩ prog_4_method_7_code 4 (some .int) ∈ tb := tb_mem (List.mem_of_getElem? (i := 429) (by decide +kernel)) rfl
set_option maxRecDepth 20000 in
theorem tw_430 : Cond.methodLink "NestedDeedsLaw" 18 ⟨"NestedDeeds", "enclose", "(II)I"⟩ ∈ tb := tb_mem (List.mem_of_getElem? (i := 430) (by decide +kernel)) rfl
set_option maxRecDepth 20000 in
theorem tw_431 : Cond.instanceMethod ⟨"NestedDeeds", "enclose", "(II)I"⟩ ∈ tb := tb_mem (List.mem_of_getElem? (i := 431) (by decide +kernel)) rfl
set_option maxRecDepth 20000 in
theorem tw_432 : Cond.selects "NestedDeeds" ⟨"NestedDeeds", "enclose", "(II)I"⟩ ⟨"NestedDeeds", "enclose", "(II)I"⟩ ∈ tb := tb_mem (List.mem_of_getElem? (i := 432) (by decide +kernel)) rfl
set_option maxRecDepth 20000 in
theorem tw_433 : Cond.code ⟨"NestedDeeds", "enclose", "(II)I"⟩ prog_1_method_3_code 3 (some .int) ∈ tb := tb_mem (List.mem_of_getElem? (i := 433) (by decide +kernel)) rfl
set_option maxRecDepth 20000 in
theorem tw_434 : Cond.methodLink "NestedDeeds" 113 ⟨"NestedDeeds$Deeds", "has", "(I)Z"⟩ ∈ tb := tb_mem (List.mem_of_getElem? (i := 434) (by decide +kernel)) rfl
set_option maxRecDepth 20000 in
theorem tw_435 : Cond.instanceMethod ⟨"NestedDeeds$Deeds", "has", "(I)Z"⟩ ∈ tb := tb_mem (List.mem_of_getElem? (i := 435) (by decide +kernel)) rfl
set_option maxRecDepth 20000 in
theorem tw_436 : Cond.selects "NestedDeeds$Deeds" ⟨"NestedDeeds$Deeds", "has", "(I)Z"⟩ ⟨"NestedDeeds$Deeds", "has", "(I)Z"⟩ ∈ tb := tb_mem (List.mem_of_getElem? (i := 436) (by decide +kernel)) rfl
set_option maxRecDepth 20000 in
theorem tw_437 : Cond.code ⟨"NestedDeeds$Deeds", "has", "(I)Z"⟩ prog_4_method_2_code 2 (some .boolean) ∈ tb := tb_mem (List.mem_of_getElem? (i := 437) (by decide +kernel)) rfl
set_option maxRecDepth 20000 in
theorem tw_438 : Cond.methodLink "NestedDeeds" 116 ⟨"NestedDeeds$Deeds", "addPart", "(II)V"⟩ ∈ tb := tb_mem (List.mem_of_getElem? (i := 438) (by decide +kernel)) rfl
set_option maxRecDepth 20000 in
theorem tw_439 : Cond.instanceMethod ⟨"NestedDeeds$Deeds", "addPart", "(II)V"⟩ ∈ tb := tb_mem (List.mem_of_getElem? (i := 439) (by decide +kernel)) rfl
set_option maxRecDepth 20000 in
theorem tw_440 : Cond.selects "NestedDeeds$Deeds" ⟨"NestedDeeds$Deeds", "addPart", "(II)V"⟩ ⟨"NestedDeeds$Deeds", "addPart", "(II)V"⟩ ∈ tb := tb_mem (List.mem_of_getElem? (i := 440) (by decide +kernel)) rfl
set_option maxRecDepth 20000 in
theorem tw_441 : Cond.code ⟨"NestedDeeds$Deeds", "addPart", "(II)V"⟩ prog_4_method_8_code 5 none ∈ tb := tb_mem (List.mem_of_getElem? (i := 441) (by decide +kernel)) rfl
set_option maxRecDepth 20000 in
theorem tw_442 : Cond.methodLink "NestedDeeds$Deeds" 35 ⟨"java/lang/System", "arraycopy", "(Ljava/lang/Object;ILjava/lang/Object;II)V"⟩ ∈ tb := tb_mem (List.mem_of_getElem? (i := 442) (by decide +kernel)) rfl
set_option maxRecDepth 20000 in
theorem tw_443 : Cond.static ⟨"java/lang/System", "arraycopy", "(Ljava/lang/Object;ILjava/lang/Object;II)V"⟩ ∈ tb := tb_mem (List.mem_of_getElem? (i := 443) (by decide +kernel)) rfl
set_option maxRecDepth 20000 in
theorem tw_444 : Cond.native ⟨"java/lang/System", "arraycopy", "(Ljava/lang/Object;ILjava/lang/Object;II)V"⟩ ∈ tb := tb_mem (List.mem_of_getElem? (i := 444) (by decide +kernel)) rfl
set_option maxRecDepth 20000 in
theorem tw_445 : Cond.methodLink "NestedDeeds" 120 ⟨"NestedDeeds$Deeds", "partsOf", "(I)I"⟩ ∈ tb := tb_mem (List.mem_of_getElem? (i := 445) (by decide +kernel)) rfl
set_option maxRecDepth 20000 in
theorem tw_446 : Cond.instanceMethod ⟨"NestedDeeds$Deeds", "partsOf", "(I)I"⟩ ∈ tb := tb_mem (List.mem_of_getElem? (i := 446) (by decide +kernel)) rfl
set_option maxRecDepth 20000 in
theorem tw_447 : Cond.selects "NestedDeeds$Deeds" ⟨"NestedDeeds$Deeds", "partsOf", "(I)I"⟩ ⟨"NestedDeeds$Deeds", "partsOf", "(I)I"⟩ ∈ tb := tb_mem (List.mem_of_getElem? (i := 447) (by decide +kernel)) rfl
set_option maxRecDepth 20000 in
theorem tw_448 : Cond.code ⟨"NestedDeeds$Deeds", "partsOf", "(I)I"⟩ prog_4_method_5_code 2 (some .int) ∈ tb := tb_mem (List.mem_of_getElem? (i := 448) (by decide +kernel)) rfl
set_option maxRecDepth 20000 in
theorem tw_449 : Cond.methodLink "NestedDeedsLaw" 22 ⟨"NestedDeeds", "chain", "(IIIII)I"⟩ ∈ tb := tb_mem (List.mem_of_getElem? (i := 449) (by decide +kernel)) rfl
set_option maxRecDepth 20000 in
theorem tw_450 : Cond.instanceMethod ⟨"NestedDeeds", "chain", "(IIIII)I"⟩ ∈ tb := tb_mem (List.mem_of_getElem? (i := 450) (by decide +kernel)) rfl
set_option maxRecDepth 20000 in
theorem tw_451 : Cond.selects "NestedDeeds" ⟨"NestedDeeds", "chain", "(IIIII)I"⟩ ⟨"NestedDeeds", "chain", "(IIIII)I"⟩ ∈ tb := tb_mem (List.mem_of_getElem? (i := 451) (by decide +kernel)) rfl
set_option maxRecDepth 20000 in
theorem tw_452 : Cond.code ⟨"NestedDeeds", "chain", "(IIIII)I"⟩ prog_1_method_4_code 10 (some .int) ∈ tb := tb_mem (List.mem_of_getElem? (i := 452) (by decide +kernel)) rfl
set_option maxRecDepth 20000 in
theorem tw_453 : Cond.methodLink "NestedDeeds" 124 ⟨"NestedDeeds", "link", "(IIII)I"⟩ ∈ tb := tb_mem (List.mem_of_getElem? (i := 453) (by decide +kernel)) rfl
set_option maxRecDepth 20000 in
theorem tw_455 : Cond.instanceMethod ⟨"NestedDeeds", "link", "(IIII)I"⟩ ∈ tb := tb_mem (List.mem_of_getElem? (i := 455) (by decide +kernel)) rfl
set_option maxRecDepth 20000 in
theorem tw_456 : Cond.code ⟨"NestedDeeds", "link", "(IIII)I"⟩ prog_1_method_5_code 7 (some .int) ∈ tb := tb_mem (List.mem_of_getElem? (i := 456) (by decide +kernel)) rfl
set_option maxRecDepth 20000 in
theorem tw_457 : Cond.methodLink "NestedDeedsLaw" 27 ⟨"NestedDeeds", "way", "(I)I"⟩ ∈ tb := tb_mem (List.mem_of_getElem? (i := 457) (by decide +kernel)) rfl
set_option maxRecDepth 20000 in
theorem tw_458 : Cond.instanceMethod ⟨"NestedDeeds", "way", "(I)I"⟩ ∈ tb := tb_mem (List.mem_of_getElem? (i := 458) (by decide +kernel)) rfl
set_option maxRecDepth 20000 in
theorem tw_459 : Cond.selects "NestedDeeds" ⟨"NestedDeeds", "way", "(I)I"⟩ ⟨"NestedDeeds", "way", "(I)I"⟩ ∈ tb := tb_mem (List.mem_of_getElem? (i := 459) (by decide +kernel)) rfl
set_option maxRecDepth 20000 in
theorem tw_460 : Cond.code ⟨"NestedDeeds", "way", "(I)I"⟩ prog_1_method_6_code 3 (some .int) ∈ tb := tb_mem (List.mem_of_getElem? (i := 460) (by decide +kernel)) rfl
set_option maxRecDepth 20000 in
theorem tw_461 : Cond.methodLink "NestedDeedsLaw" 32 ⟨"NestedDeeds", "meter", "(I)I"⟩ ∈ tb := tb_mem (List.mem_of_getElem? (i := 461) (by decide +kernel)) rfl
set_option maxRecDepth 20000 in
theorem tw_462 : Cond.instanceMethod ⟨"NestedDeeds", "meter", "(I)I"⟩ ∈ tb := tb_mem (List.mem_of_getElem? (i := 462) (by decide +kernel)) rfl
set_option maxRecDepth 20000 in
theorem tw_463 : Cond.selects "NestedDeeds" ⟨"NestedDeeds", "meter", "(I)I"⟩ ⟨"NestedDeeds", "meter", "(I)I"⟩ ∈ tb := tb_mem (List.mem_of_getElem? (i := 463) (by decide +kernel)) rfl
set_option maxRecDepth 20000 in
theorem tw_464 : Cond.code ⟨"NestedDeeds", "meter", "(I)I"⟩ prog_1_method_7_code 3 (some .int) ∈ tb := tb_mem (List.mem_of_getElem? (i := 464) (by decide +kernel)) rfl
set_option maxRecDepth 20000 in
theorem tw_465 : Cond.methodLink "NestedDeedsLaw" 36 ⟨"NestedDeeds", "of", "(II)I"⟩ ∈ tb := tb_mem (List.mem_of_getElem? (i := 465) (by decide +kernel)) rfl
set_option maxRecDepth 20000 in
theorem tw_466 : Cond.instanceMethod ⟨"NestedDeeds", "of", "(II)I"⟩ ∈ tb := tb_mem (List.mem_of_getElem? (i := 466) (by decide +kernel)) rfl
set_option maxRecDepth 20000 in
theorem tw_467 : Cond.selects "NestedDeeds" ⟨"NestedDeeds", "of", "(II)I"⟩ ⟨"NestedDeeds", "of", "(II)I"⟩ ∈ tb := tb_mem (List.mem_of_getElem? (i := 467) (by decide +kernel)) rfl
set_option maxRecDepth 20000 in
theorem tw_468 : Cond.code ⟨"NestedDeeds", "of", "(II)I"⟩ prog_1_method_8_code 3 (some .int) ∈ tb := tb_mem (List.mem_of_getElem? (i := 468) (by decide +kernel)) rfl
set_option maxRecDepth 20000 in
theorem tw_469 : Cond.constant "NestedDeeds" 135 (-2147483648 : Int32) ∈ tb := tb_mem (List.mem_of_getElem? (i := 469) (by decide +kernel)) rfl
set_option maxRecDepth 20000 in
theorem tw_470 : Cond.methodLink "NestedDeedsLaw" 40 ⟨"NestedDeeds", "part", "(II)I"⟩ ∈ tb := tb_mem (List.mem_of_getElem? (i := 470) (by decide +kernel)) rfl
set_option maxRecDepth 20000 in
theorem tw_471 : Cond.instanceMethod ⟨"NestedDeeds", "part", "(II)I"⟩ ∈ tb := tb_mem (List.mem_of_getElem? (i := 471) (by decide +kernel)) rfl
set_option maxRecDepth 20000 in
theorem tw_472 : Cond.selects "NestedDeeds" ⟨"NestedDeeds", "part", "(II)I"⟩ ⟨"NestedDeeds", "part", "(II)I"⟩ ∈ tb := tb_mem (List.mem_of_getElem? (i := 472) (by decide +kernel)) rfl
set_option maxRecDepth 20000 in
theorem tw_473 : Cond.code ⟨"NestedDeeds", "part", "(II)I"⟩ prog_1_method_9_code 3 (some .int) ∈ tb := tb_mem (List.mem_of_getElem? (i := 473) (by decide +kernel)) rfl
set_option maxRecDepth 20000 in
theorem tw_474 : Cond.methodLink "NestedDeeds" 143 ⟨"NestedDeeds$Deeds", "partAt", "(II)I"⟩ ∈ tb := tb_mem (List.mem_of_getElem? (i := 474) (by decide +kernel)) rfl
set_option maxRecDepth 20000 in
theorem tw_475 : Cond.instanceMethod ⟨"NestedDeeds$Deeds", "partAt", "(II)I"⟩ ∈ tb := tb_mem (List.mem_of_getElem? (i := 475) (by decide +kernel)) rfl
set_option maxRecDepth 20000 in
theorem tw_476 : Cond.selects "NestedDeeds$Deeds" ⟨"NestedDeeds$Deeds", "partAt", "(II)I"⟩ ⟨"NestedDeeds$Deeds", "partAt", "(II)I"⟩ ∈ tb := tb_mem (List.mem_of_getElem? (i := 476) (by decide +kernel)) rfl
set_option maxRecDepth 20000 in
theorem tw_477 : Cond.code ⟨"NestedDeeds$Deeds", "partAt", "(II)I"⟩ prog_4_method_6_code 3 (some .int) ∈ tb := tb_mem (List.mem_of_getElem? (i := 477) (by decide +kernel)) rfl
set_option maxRecDepth 20000 in
theorem tw_478 : Cond.methodLink "NestedDeedsLaw" 44 ⟨"NestedDeeds", "size", "(I)I"⟩ ∈ tb := tb_mem (List.mem_of_getElem? (i := 478) (by decide +kernel)) rfl
set_option maxRecDepth 20000 in
theorem tw_479 : Cond.instanceMethod ⟨"NestedDeeds", "size", "(I)I"⟩ ∈ tb := tb_mem (List.mem_of_getElem? (i := 479) (by decide +kernel)) rfl
set_option maxRecDepth 20000 in
theorem tw_480 : Cond.selects "NestedDeeds" ⟨"NestedDeeds", "size", "(I)I"⟩ ⟨"NestedDeeds", "size", "(I)I"⟩ ∈ tb := tb_mem (List.mem_of_getElem? (i := 480) (by decide +kernel)) rfl
set_option maxRecDepth 20000 in
theorem tw_481 : Cond.code ⟨"NestedDeeds", "size", "(I)I"⟩ prog_1_method_10_code 3 (some .int) ∈ tb := tb_mem (List.mem_of_getElem? (i := 481) (by decide +kernel)) rfl
set_option maxRecDepth 20000 in
theorem tw_482 : Cond.methodLink "NestedDeeds" 146 ⟨"NestedDeeds$Walker", "go", "(LNestedDeeds$Task;I)I"⟩ ∈ tb := tb_mem (List.mem_of_getElem? (i := 482) (by decide +kernel)) rfl
set_option maxRecDepth 20000 in
theorem tw_483 : Cond.instanceMethod ⟨"NestedDeeds$Walker", "go", "(LNestedDeeds$Task;I)I"⟩ ∈ tb := tb_mem (List.mem_of_getElem? (i := 483) (by decide +kernel)) rfl
set_option maxRecDepth 20000 in
theorem tw_484 : Cond.selects "NestedDeeds$Walker" ⟨"NestedDeeds$Walker", "go", "(LNestedDeeds$Task;I)I"⟩ ⟨"NestedDeeds$Walker", "go", "(LNestedDeeds$Task;I)I"⟩ ∈ tb := tb_mem (List.mem_of_getElem? (i := 484) (by decide +kernel)) rfl
set_option maxRecDepth 20000 in
theorem tw_485 : Cond.code ⟨"NestedDeeds$Walker", "go", "(LNestedDeeds$Task;I)I"⟩ prog_10_method_3_code 4 (some .int) ∈ tb := tb_mem (List.mem_of_getElem? (i := 485) (by decide +kernel)) rfl
set_option maxRecDepth 20000 in
theorem tw_486 : Cond.methodLink "NestedDeeds$Walker" 39 ⟨"NestedDeeds$Deeds", "has", "(I)Z"⟩ ∈ tb := tb_mem (List.mem_of_getElem? (i := 486) (by decide +kernel)) rfl
set_option maxRecDepth 20000 in
theorem tw_487 : Cond.methodLink "NestedDeeds$Walker" 45 ⟨"NestedDeeds$Walker", "refuse", "()I"⟩ ∈ tb := tb_mem (List.mem_of_getElem? (i := 487) (by decide +kernel)) rfl
set_option maxRecDepth 20000 in
theorem tw_488 : Cond.instanceMethod ⟨"NestedDeeds$Walker", "refuse", "()I"⟩ ∈ tb := tb_mem (List.mem_of_getElem? (i := 488) (by decide +kernel)) rfl
set_option maxRecDepth 20000 in
theorem tw_489 : Cond.selects "NestedDeeds$Walker" ⟨"NestedDeeds$Walker", "refuse", "()I"⟩ ⟨"NestedDeeds$Walker", "refuse", "()I"⟩ ∈ tb := tb_mem (List.mem_of_getElem? (i := 489) (by decide +kernel)) rfl
set_option maxRecDepth 20000 in
theorem tw_490 : Cond.code ⟨"NestedDeeds$Walker", "refuse", "()I"⟩ prog_10_method_2_code 1 (some .int) ∈ tb := tb_mem (List.mem_of_getElem? (i := 490) (by decide +kernel)) rfl
set_option maxRecDepth 20000 in
theorem tw_491 : Cond.methodLink "NestedDeeds$Walker" 64 ⟨"NestedDeeds$Walker", "visit", "(II)Z"⟩ ∈ tb := tb_mem (List.mem_of_getElem? (i := 491) (by decide +kernel)) rfl
set_option maxRecDepth 20000 in
theorem tw_493 : Cond.instanceMethod ⟨"NestedDeeds$Walker", "visit", "(II)Z"⟩ ∈ tb := tb_mem (List.mem_of_getElem? (i := 493) (by decide +kernel)) rfl
set_option maxRecDepth 20000 in
theorem tw_494 : Cond.code ⟨"NestedDeeds$Walker", "visit", "(II)Z"⟩ prog_10_method_5_code 3 (some .boolean) ∈ tb := tb_mem (List.mem_of_getElem? (i := 494) (by decide +kernel)) rfl
set_option maxRecDepth 20000 in
theorem tw_495 : Cond.methodLink "NestedDeeds$Walker" 88 ⟨"NestedDeeds$Walker", "halt", "(I)Z"⟩ ∈ tb := tb_mem (List.mem_of_getElem? (i := 495) (by decide +kernel)) rfl
set_option maxRecDepth 20000 in
theorem tw_497 : Cond.instanceMethod ⟨"NestedDeeds$Walker", "halt", "(I)Z"⟩ ∈ tb := tb_mem (List.mem_of_getElem? (i := 497) (by decide +kernel)) rfl
set_option maxRecDepth 20000 in
theorem tw_498 : Cond.code ⟨"NestedDeeds$Walker", "halt", "(I)Z"⟩ prog_10_method_6_code 2 (some .boolean) ∈ tb := tb_mem (List.mem_of_getElem? (i := 498) (by decide +kernel)) rfl
set_option maxRecDepth 20000 in
theorem tw_499 : Cond.methodLink "NestedDeeds$Walker" 91 ⟨"NestedDeeds$Task", "enter", "(II)V"⟩ ∈ tb := tb_mem (List.mem_of_getElem? (i := 499) (by decide +kernel)) rfl
set_option maxRecDepth 20000 in
theorem tw_500 : Cond.instanceMethod ⟨"NestedDeeds$Task", "enter", "(II)V"⟩ ∈ tb := tb_mem (List.mem_of_getElem? (i := 500) (by decide +kernel)) rfl
set_option maxRecDepth 20000 in
theorem tw_501 : Cond.selects "NestedDeeds$Task" ⟨"NestedDeeds$Task", "enter", "(II)V"⟩ ⟨"NestedDeeds$Task", "enter", "(II)V"⟩ ∈ tb := tb_mem (List.mem_of_getElem? (i := 501) (by decide +kernel)) rfl
set_option maxRecDepth 20000 in
theorem tw_502 : Cond.sameMethod "NestedDeeds$Task" "NestedDeeds$Task" "enter" "(II)V" ∈ tb := tb_mem (List.mem_of_getElem? (i := 502) (by decide +kernel)) rfl
set_option maxRecDepth 20000 in
theorem tw_503 : Cond.selects "NestedDeeds$Comparing" ⟨"NestedDeeds$Task", "enter", "(II)V"⟩ ⟨"NestedDeeds$Comparing", "enter", "(II)V"⟩ ∈ tb := tb_mem (List.mem_of_getElem? (i := 503) (by decide +kernel)) rfl
set_option maxRecDepth 20000 in
theorem tw_504 : Cond.instanceMethod ⟨"NestedDeeds$Comparing", "enter", "(II)V"⟩ ∈ tb := tb_mem (List.mem_of_getElem? (i := 504) (by decide +kernel)) rfl
set_option maxRecDepth 20000 in
theorem tw_505 : Cond.code ⟨"NestedDeeds$Comparing", "enter", "(II)V"⟩ prog_2_method_3_code 4 none ∈ tb := tb_mem (List.mem_of_getElem? (i := 505) (by decide +kernel)) rfl
set_option maxRecDepth 20000 in
theorem tw_506 : Cond.methodLink "NestedDeeds$Comparing" 27 ⟨"NestedDeeds$Deeds", "partsOf", "(I)I"⟩ ∈ tb := tb_mem (List.mem_of_getElem? (i := 506) (by decide +kernel)) rfl
set_option maxRecDepth 20000 in
theorem tw_507 : Cond.selects "NestedDeeds$Copying" ⟨"NestedDeeds$Task", "enter", "(II)V"⟩ ⟨"NestedDeeds$Copying", "enter", "(II)V"⟩ ∈ tb := tb_mem (List.mem_of_getElem? (i := 507) (by decide +kernel)) rfl
set_option maxRecDepth 20000 in
theorem tw_508 : Cond.instanceMethod ⟨"NestedDeeds$Copying", "enter", "(II)V"⟩ ∈ tb := tb_mem (List.mem_of_getElem? (i := 508) (by decide +kernel)) rfl
set_option maxRecDepth 20000 in
theorem tw_509 : Cond.code ⟨"NestedDeeds$Copying", "enter", "(II)V"⟩ prog_3_method_5_code 4 none ∈ tb := tb_mem (List.mem_of_getElem? (i := 509) (by decide +kernel)) rfl
set_option maxRecDepth 20000 in
theorem tw_510 : Cond.methodLink "NestedDeeds$Copying" 86 ⟨"NestedDeeds$Copying", "sortParts", "(II)V"⟩ ∈ tb := tb_mem (List.mem_of_getElem? (i := 510) (by decide +kernel)) rfl
set_option maxRecDepth 20000 in
theorem tw_512 : Cond.instanceMethod ⟨"NestedDeeds$Copying", "sortParts", "(II)V"⟩ ∈ tb := tb_mem (List.mem_of_getElem? (i := 512) (by decide +kernel)) rfl
set_option maxRecDepth 20000 in
theorem tw_513 : Cond.code ⟨"NestedDeeds$Copying", "sortParts", "(II)V"⟩ prog_3_method_6_code 6 none ∈ tb := tb_mem (List.mem_of_getElem? (i := 513) (by decide +kernel)) rfl
set_option maxRecDepth 20000 in
theorem tw_514 : Cond.selects "NestedDeeds$Finding" ⟨"NestedDeeds$Task", "enter", "(II)V"⟩ ⟨"NestedDeeds$Finding", "enter", "(II)V"⟩ ∈ tb := tb_mem (List.mem_of_getElem? (i := 514) (by decide +kernel)) rfl
set_option maxRecDepth 20000 in
theorem tw_515 : Cond.instanceMethod ⟨"NestedDeeds$Finding", "enter", "(II)V"⟩ ∈ tb := tb_mem (List.mem_of_getElem? (i := 515) (by decide +kernel)) rfl
set_option maxRecDepth 20000 in
theorem tw_516 : Cond.code ⟨"NestedDeeds$Finding", "enter", "(II)V"⟩ prog_5_method_3_code 3 none ∈ tb := tb_mem (List.mem_of_getElem? (i := 516) (by decide +kernel)) rfl
set_option maxRecDepth 20000 in
theorem tw_517 : Cond.selects "NestedDeeds$Marking" ⟨"NestedDeeds$Task", "enter", "(II)V"⟩ ⟨"NestedDeeds$Marking", "enter", "(II)V"⟩ ∈ tb := tb_mem (List.mem_of_getElem? (i := 517) (by decide +kernel)) rfl
set_option maxRecDepth 20000 in
theorem tw_518 : Cond.instanceMethod ⟨"NestedDeeds$Marking", "enter", "(II)V"⟩ ∈ tb := tb_mem (List.mem_of_getElem? (i := 518) (by decide +kernel)) rfl
set_option maxRecDepth 20000 in
theorem tw_519 : Cond.code ⟨"NestedDeeds$Marking", "enter", "(II)V"⟩ prog_6_method_5_code 3 none ∈ tb := tb_mem (List.mem_of_getElem? (i := 519) (by decide +kernel)) rfl
set_option maxRecDepth 20000 in
theorem tw_520 : Cond.methodLink "NestedDeeds$Marking" 32 ⟨"NestedDeeds$Marking", "begun", "(II)J"⟩ ∈ tb := tb_mem (List.mem_of_getElem? (i := 520) (by decide +kernel)) rfl
set_option maxRecDepth 20000 in
theorem tw_521 : Cond.static ⟨"NestedDeeds$Marking", "begun", "(II)J"⟩ ∈ tb := tb_mem (List.mem_of_getElem? (i := 521) (by decide +kernel)) rfl
set_option maxRecDepth 20000 in
theorem tw_522 : Cond.code ⟨"NestedDeeds$Marking", "begun", "(II)J"⟩ prog_6_method_2_code 2 (some .long) ∈ tb := tb_mem (List.mem_of_getElem? (i := 522) (by decide +kernel)) rfl
set_option maxRecDepth 20000 in
theorem tw_523 : Cond.constantLong "NestedDeeds$Marking" 13 (217 : Int64) ∈ tb := tb_mem (List.mem_of_getElem? (i := 523) (by decide +kernel)) rfl
set_option maxRecDepth 20000 in
theorem tw_524 : Cond.constantLong "NestedDeeds$Marking" 15 (31 : Int64) ∈ tb := tb_mem (List.mem_of_getElem? (i := 524) (by decide +kernel)) rfl
set_option maxRecDepth 20000 in
theorem tw_525 : Cond.selects "NestedDeeds$Weighing" ⟨"NestedDeeds$Task", "enter", "(II)V"⟩ ⟨"NestedDeeds$Weighing", "enter", "(II)V"⟩ ∈ tb := tb_mem (List.mem_of_getElem? (i := 525) (by decide +kernel)) rfl
set_option maxRecDepth 20000 in
theorem tw_526 : Cond.instanceMethod ⟨"NestedDeeds$Weighing", "enter", "(II)V"⟩ ∈ tb := tb_mem (List.mem_of_getElem? (i := 526) (by decide +kernel)) rfl
set_option maxRecDepth 20000 in
theorem tw_527 : Cond.code ⟨"NestedDeeds$Weighing", "enter", "(II)V"⟩ prog_11_method_2_code 4 none ∈ tb := tb_mem (List.mem_of_getElem? (i := 527) (by decide +kernel)) rfl
set_option maxRecDepth 20000 in
theorem tw_528 : Cond.methodLink "NestedDeeds$Weighing" 31 ⟨"NestedDeeds$Deeds", "partsOf", "(I)I"⟩ ∈ tb := tb_mem (List.mem_of_getElem? (i := 528) (by decide +kernel)) rfl
set_option maxRecDepth 20000 in
theorem tw_529 : Cond.selects "NestedDeeds$Writing" ⟨"NestedDeeds$Task", "enter", "(II)V"⟩ ⟨"NestedDeeds$Writing", "enter", "(II)V"⟩ ∈ tb := tb_mem (List.mem_of_getElem? (i := 529) (by decide +kernel)) rfl
set_option maxRecDepth 20000 in
theorem tw_530 : Cond.instanceMethod ⟨"NestedDeeds$Writing", "enter", "(II)V"⟩ ∈ tb := tb_mem (List.mem_of_getElem? (i := 530) (by decide +kernel)) rfl
set_option maxRecDepth 20000 in
theorem tw_531 : Cond.code ⟨"NestedDeeds$Writing", "enter", "(II)V"⟩ prog_12_method_2_code 3 none ∈ tb := tb_mem (List.mem_of_getElem? (i := 531) (by decide +kernel)) rfl
set_option maxRecDepth 20000 in
theorem tw_532 : Cond.methodLink "NestedDeeds$Writing" 25 ⟨"NestedDeeds$Paper", "add", "(I)V"⟩ ∈ tb := tb_mem (List.mem_of_getElem? (i := 532) (by decide +kernel)) rfl
set_option maxRecDepth 20000 in
theorem tw_533 : Cond.instanceMethod ⟨"NestedDeeds$Paper", "add", "(I)V"⟩ ∈ tb := tb_mem (List.mem_of_getElem? (i := 533) (by decide +kernel)) rfl
set_option maxRecDepth 20000 in
theorem tw_534 : Cond.selects "NestedDeeds$Paper" ⟨"NestedDeeds$Paper", "add", "(I)V"⟩ ⟨"NestedDeeds$Paper", "add", "(I)V"⟩ ∈ tb := tb_mem (List.mem_of_getElem? (i := 534) (by decide +kernel)) rfl
set_option maxRecDepth 20000 in
theorem tw_535 : Cond.code ⟨"NestedDeeds$Paper", "add", "(I)V"⟩ prog_7_method_4_code 2 none ∈ tb := tb_mem (List.mem_of_getElem? (i := 535) (by decide +kernel)) rfl
set_option maxRecDepth 20000 in
theorem tw_536 : Cond.methodLink "NestedDeeds$Writing" 34 ⟨"NestedDeeds$Paper", "addFigures", "(I)V"⟩ ∈ tb := tb_mem (List.mem_of_getElem? (i := 536) (by decide +kernel)) rfl
set_option maxRecDepth 20000 in
theorem tw_537 : Cond.instanceMethod ⟨"NestedDeeds$Paper", "addFigures", "(I)V"⟩ ∈ tb := tb_mem (List.mem_of_getElem? (i := 537) (by decide +kernel)) rfl
set_option maxRecDepth 20000 in
theorem tw_538 : Cond.selects "NestedDeeds$Paper" ⟨"NestedDeeds$Paper", "addFigures", "(I)V"⟩ ⟨"NestedDeeds$Paper", "addFigures", "(I)V"⟩ ∈ tb := tb_mem (List.mem_of_getElem? (i := 538) (by decide +kernel)) rfl
set_option maxRecDepth 20000 in
theorem tw_539 : Cond.code ⟨"NestedDeeds$Paper", "addFigures", "(I)V"⟩ prog_7_method_5_code 7 none ∈ tb := tb_mem (List.mem_of_getElem? (i := 539) (by decide +kernel)) rfl
set_option maxRecDepth 20000 in
theorem tw_540 : Cond.methodLink "NestedDeeds$Paper" 23 ⟨"java/lang/Math", "abs", "(J)J"⟩ ∈ tb := tb_mem (List.mem_of_getElem? (i := 540) (by decide +kernel)) rfl
set_option maxRecDepth 20000 in
theorem tw_541 : Cond.static ⟨"java/lang/Math", "abs", "(J)J"⟩ ∈ tb := tb_mem (List.mem_of_getElem? (i := 541) (by decide +kernel)) rfl
set_option maxRecDepth 20000 in
theorem tw_542 : Cond.code ⟨"java/lang/Math", "abs", "(J)J"⟩ prog_16_method_61_code 2 (some .long) ∈ tb := tb_mem (List.mem_of_getElem? (i := 542) (by decide +kernel)) rfl
set_option maxRecDepth 20000 in
theorem tw_543 : Cond.methodLink "NestedDeeds$Paper" 29 ⟨"NestedDeeds$Paper", "add", "(I)V"⟩ ∈ tb := tb_mem (List.mem_of_getElem? (i := 543) (by decide +kernel)) rfl
set_option maxRecDepth 20000 in
theorem tw_544 : Cond.constantLong "NestedDeeds$Paper" 33 (9 : Int64) ∈ tb := tb_mem (List.mem_of_getElem? (i := 544) (by decide +kernel)) rfl
set_option maxRecDepth 20000 in
theorem tw_545 : Cond.constantLong "NestedDeeds$Paper" 35 (10 : Int64) ∈ tb := tb_mem (List.mem_of_getElem? (i := 545) (by decide +kernel)) rfl
set_option maxRecDepth 20000 in
theorem tw_546 : Cond.constantLong "NestedDeeds$Paper" 37 (48 : Int64) ∈ tb := tb_mem (List.mem_of_getElem? (i := 546) (by decide +kernel)) rfl
set_option maxRecDepth 20000 in
theorem tw_547 : Cond.methodLink "NestedDeeds$Writing" 37 ⟨"NestedDeeds$Deeds", "partsOf", "(I)I"⟩ ∈ tb := tb_mem (List.mem_of_getElem? (i := 547) (by decide +kernel)) rfl
set_option maxRecDepth 20000 in
theorem tw_548 : Cond.code ⟨"NestedDeeds$Task", "enter", "(II)V"⟩ prog_9_method_2_code 3 none ∈ tb := tb_mem (List.mem_of_getElem? (i := 548) (by decide +kernel)) rfl
set_option maxRecDepth 20000 in
theorem tw_549 : Cond.methodLink "NestedDeeds$Walker" 68 ⟨"NestedDeeds$Walker", "byStack", "(I)V"⟩ ∈ tb := tb_mem (List.mem_of_getElem? (i := 549) (by decide +kernel)) rfl
set_option maxRecDepth 20000 in
theorem tw_551 : Cond.instanceMethod ⟨"NestedDeeds$Walker", "byStack", "(I)V"⟩ ∈ tb := tb_mem (List.mem_of_getElem? (i := 551) (by decide +kernel)) rfl
set_option maxRecDepth 20000 in
theorem tw_552 : Cond.code ⟨"NestedDeeds$Walker", "byStack", "(I)V"⟩ prog_10_method_9_code 5 none ∈ tb := tb_mem (List.mem_of_getElem? (i := 552) (by decide +kernel)) rfl
set_option maxRecDepth 20000 in
theorem tw_553 : Cond.constant "NestedDeeds$Walker" 112 (200000 : Int32) ∈ tb := tb_mem (List.mem_of_getElem? (i := 553) (by decide +kernel)) rfl
set_option maxRecDepth 20000 in
theorem tw_554 : Cond.methodLink "NestedDeeds$Walker" 102 ⟨"NestedDeeds$Walker", "nextPart", "(I)I"⟩ ∈ tb := tb_mem (List.mem_of_getElem? (i := 554) (by decide +kernel)) rfl
set_option maxRecDepth 20000 in
theorem tw_556 : Cond.instanceMethod ⟨"NestedDeeds$Walker", "nextPart", "(I)I"⟩ ∈ tb := tb_mem (List.mem_of_getElem? (i := 556) (by decide +kernel)) rfl
set_option maxRecDepth 20000 in
theorem tw_557 : Cond.code ⟨"NestedDeeds$Walker", "nextPart", "(I)I"⟩ prog_10_method_7_code 4 (some .int) ∈ tb := tb_mem (List.mem_of_getElem? (i := 557) (by decide +kernel)) rfl
set_option maxRecDepth 20000 in
theorem tw_558 : Cond.methodLink "NestedDeeds$Walker" 94 ⟨"NestedDeeds$Deeds", "partsOf", "(I)I"⟩ ∈ tb := tb_mem (List.mem_of_getElem? (i := 558) (by decide +kernel)) rfl
set_option maxRecDepth 20000 in
theorem tw_559 : Cond.methodLink "NestedDeeds$Walker" 98 ⟨"NestedDeeds$Task", "choose", "(III)I"⟩ ∈ tb := tb_mem (List.mem_of_getElem? (i := 559) (by decide +kernel)) rfl
set_option maxRecDepth 20000 in
theorem tw_560 : Cond.instanceMethod ⟨"NestedDeeds$Task", "choose", "(III)I"⟩ ∈ tb := tb_mem (List.mem_of_getElem? (i := 560) (by decide +kernel)) rfl
set_option maxRecDepth 20000 in
theorem tw_561 : Cond.selects "NestedDeeds$Task" ⟨"NestedDeeds$Task", "choose", "(III)I"⟩ ⟨"NestedDeeds$Task", "choose", "(III)I"⟩ ∈ tb := tb_mem (List.mem_of_getElem? (i := 561) (by decide +kernel)) rfl
set_option maxRecDepth 20000 in
theorem tw_562 : Cond.sameMethod "NestedDeeds$Task" "NestedDeeds$Task" "choose" "(III)I" ∈ tb := tb_mem (List.mem_of_getElem? (i := 562) (by decide +kernel)) rfl
set_option maxRecDepth 20000 in
theorem tw_563 : Cond.selects "NestedDeeds$Comparing" ⟨"NestedDeeds$Task", "choose", "(III)I"⟩ ⟨"NestedDeeds$Comparing", "choose", "(III)I"⟩ ∈ tb := tb_mem (List.mem_of_getElem? (i := 563) (by decide +kernel)) rfl
set_option maxRecDepth 20000 in
theorem tw_564 : Cond.instanceMethod ⟨"NestedDeeds$Comparing", "choose", "(III)I"⟩ ∈ tb := tb_mem (List.mem_of_getElem? (i := 564) (by decide +kernel)) rfl
set_option maxRecDepth 20000 in
theorem tw_565 : Cond.code ⟨"NestedDeeds$Comparing", "choose", "(III)I"⟩ prog_2_method_4_code 5 (some .int) ∈ tb := tb_mem (List.mem_of_getElem? (i := 565) (by decide +kernel)) rfl
set_option maxRecDepth 20000 in
theorem tw_566 : Cond.methodLink "NestedDeeds$Comparing" 35 ⟨"NestedDeeds$Deeds", "partAt", "(II)I"⟩ ∈ tb := tb_mem (List.mem_of_getElem? (i := 566) (by decide +kernel)) rfl
set_option maxRecDepth 20000 in
theorem tw_567 : Cond.selects "NestedDeeds$Copying" ⟨"NestedDeeds$Task", "choose", "(III)I"⟩ ⟨"NestedDeeds$Copying", "choose", "(III)I"⟩ ∈ tb := tb_mem (List.mem_of_getElem? (i := 567) (by decide +kernel)) rfl
set_option maxRecDepth 20000 in
theorem tw_568 : Cond.instanceMethod ⟨"NestedDeeds$Copying", "choose", "(III)I"⟩ ∈ tb := tb_mem (List.mem_of_getElem? (i := 568) (by decide +kernel)) rfl
set_option maxRecDepth 20000 in
theorem tw_569 : Cond.code ⟨"NestedDeeds$Copying", "choose", "(III)I"⟩ prog_3_method_7_code 4 (some .int) ∈ tb := tb_mem (List.mem_of_getElem? (i := 569) (by decide +kernel)) rfl
set_option maxRecDepth 20000 in
theorem tw_570 : Cond.methodLink "NestedDeeds$Copying" 90 ⟨"NestedDeeds$Deeds", "partAt", "(II)I"⟩ ∈ tb := tb_mem (List.mem_of_getElem? (i := 570) (by decide +kernel)) rfl
set_option maxRecDepth 20000 in
theorem tw_571 : Cond.selects "NestedDeeds$Finding" ⟨"NestedDeeds$Task", "choose", "(III)I"⟩ ⟨"NestedDeeds$Task", "choose", "(III)I"⟩ ∈ tb := tb_mem (List.mem_of_getElem? (i := 571) (by decide +kernel)) rfl
set_option maxRecDepth 20000 in
theorem tw_572 : Cond.selects "NestedDeeds$Marking" ⟨"NestedDeeds$Task", "choose", "(III)I"⟩ ⟨"NestedDeeds$Task", "choose", "(III)I"⟩ ∈ tb := tb_mem (List.mem_of_getElem? (i := 572) (by decide +kernel)) rfl
set_option maxRecDepth 20000 in
theorem tw_573 : Cond.selects "NestedDeeds$Weighing" ⟨"NestedDeeds$Task", "choose", "(III)I"⟩ ⟨"NestedDeeds$Weighing", "choose", "(III)I"⟩ ∈ tb := tb_mem (List.mem_of_getElem? (i := 573) (by decide +kernel)) rfl
set_option maxRecDepth 20000 in
theorem tw_574 : Cond.instanceMethod ⟨"NestedDeeds$Weighing", "choose", "(III)I"⟩ ∈ tb := tb_mem (List.mem_of_getElem? (i := 574) (by decide +kernel)) rfl
set_option maxRecDepth 20000 in
theorem tw_575 : Cond.code ⟨"NestedDeeds$Weighing", "choose", "(III)I"⟩ prog_11_method_3_code 4 (some .int) ∈ tb := tb_mem (List.mem_of_getElem? (i := 575) (by decide +kernel)) rfl
set_option maxRecDepth 20000 in
theorem tw_576 : Cond.methodLink "NestedDeeds$Weighing" 35 ⟨"NestedDeeds$Weighing", "placeOfChoice", "(III)I"⟩ ∈ tb := tb_mem (List.mem_of_getElem? (i := 576) (by decide +kernel)) rfl
set_option maxRecDepth 20000 in
theorem tw_578 : Cond.instanceMethod ⟨"NestedDeeds$Weighing", "placeOfChoice", "(III)I"⟩ ∈ tb := tb_mem (List.mem_of_getElem? (i := 578) (by decide +kernel)) rfl
set_option maxRecDepth 20000 in
theorem tw_579 : Cond.code ⟨"NestedDeeds$Weighing", "placeOfChoice", "(III)I"⟩ prog_11_method_4_code 6 (some .int) ∈ tb := tb_mem (List.mem_of_getElem? (i := 579) (by decide +kernel)) rfl
set_option maxRecDepth 20000 in
theorem tw_580 : Cond.methodLink "NestedDeeds$Weighing" 43 ⟨"java/lang/Math", "floorMod", "(JJ)J"⟩ ∈ tb := tb_mem (List.mem_of_getElem? (i := 580) (by decide +kernel)) rfl
set_option maxRecDepth 20000 in
theorem tw_581 : Cond.static ⟨"java/lang/Math", "floorMod", "(JJ)J"⟩ ∈ tb := tb_mem (List.mem_of_getElem? (i := 581) (by decide +kernel)) rfl
set_option maxRecDepth 20000 in
theorem tw_582 : Cond.code ⟨"java/lang/Math", "floorMod", "(JJ)J"⟩ prog_16_method_52_code 6 (some .long) ∈ tb := tb_mem (List.mem_of_getElem? (i := 582) (by decide +kernel)) rfl
set_option maxRecDepth 20000 in
theorem tw_583 : Cond.methodLink "NestedDeeds$Weighing" 39 ⟨"NestedDeeds$Deeds", "partAt", "(II)I"⟩ ∈ tb := tb_mem (List.mem_of_getElem? (i := 583) (by decide +kernel)) rfl
set_option maxRecDepth 20000 in
theorem tw_584 : Cond.selects "NestedDeeds$Writing" ⟨"NestedDeeds$Task", "choose", "(III)I"⟩ ⟨"NestedDeeds$Writing", "choose", "(III)I"⟩ ∈ tb := tb_mem (List.mem_of_getElem? (i := 584) (by decide +kernel)) rfl
set_option maxRecDepth 20000 in
theorem tw_585 : Cond.instanceMethod ⟨"NestedDeeds$Writing", "choose", "(III)I"⟩ ∈ tb := tb_mem (List.mem_of_getElem? (i := 585) (by decide +kernel)) rfl
set_option maxRecDepth 20000 in
theorem tw_586 : Cond.code ⟨"NestedDeeds$Writing", "choose", "(III)I"⟩ prog_12_method_3_code 4 (some .int) ∈ tb := tb_mem (List.mem_of_getElem? (i := 586) (by decide +kernel)) rfl
set_option maxRecDepth 20000 in
theorem tw_587 : Cond.methodLink "NestedDeeds$Writing" 48 ⟨"NestedDeeds$Deeds", "partAt", "(II)I"⟩ ∈ tb := tb_mem (List.mem_of_getElem? (i := 587) (by decide +kernel)) rfl
set_option maxRecDepth 20000 in
theorem tw_588 : Cond.code ⟨"NestedDeeds$Task", "choose", "(III)I"⟩ prog_9_method_3_code 4 (some .int) ∈ tb := tb_mem (List.mem_of_getElem? (i := 588) (by decide +kernel)) rfl
set_option maxRecDepth 20000 in
theorem tw_589 : Cond.methodLink "NestedDeeds$Task" 13 ⟨"NestedDeeds$Deeds", "partAt", "(II)I"⟩ ∈ tb := tb_mem (List.mem_of_getElem? (i := 589) (by decide +kernel)) rfl
set_option maxRecDepth 20000 in
theorem tw_590 : Cond.methodLink "NestedDeeds$Walker" 109 ⟨"NestedDeeds$Task", "leave", "(II)V"⟩ ∈ tb := tb_mem (List.mem_of_getElem? (i := 590) (by decide +kernel)) rfl
set_option maxRecDepth 20000 in
theorem tw_591 : Cond.instanceMethod ⟨"NestedDeeds$Task", "leave", "(II)V"⟩ ∈ tb := tb_mem (List.mem_of_getElem? (i := 591) (by decide +kernel)) rfl
set_option maxRecDepth 20000 in
theorem tw_592 : Cond.selects "NestedDeeds$Task" ⟨"NestedDeeds$Task", "leave", "(II)V"⟩ ⟨"NestedDeeds$Task", "leave", "(II)V"⟩ ∈ tb := tb_mem (List.mem_of_getElem? (i := 592) (by decide +kernel)) rfl
set_option maxRecDepth 20000 in
theorem tw_593 : Cond.sameMethod "NestedDeeds$Task" "NestedDeeds$Task" "leave" "(II)V" ∈ tb := tb_mem (List.mem_of_getElem? (i := 593) (by decide +kernel)) rfl
set_option maxRecDepth 20000 in
theorem tw_594 : Cond.selects "NestedDeeds$Comparing" ⟨"NestedDeeds$Task", "leave", "(II)V"⟩ ⟨"NestedDeeds$Task", "leave", "(II)V"⟩ ∈ tb := tb_mem (List.mem_of_getElem? (i := 594) (by decide +kernel)) rfl
set_option maxRecDepth 20000 in
theorem tw_595 : Cond.selects "NestedDeeds$Copying" ⟨"NestedDeeds$Task", "leave", "(II)V"⟩ ⟨"NestedDeeds$Copying", "leave", "(II)V"⟩ ∈ tb := tb_mem (List.mem_of_getElem? (i := 595) (by decide +kernel)) rfl
set_option maxRecDepth 20000 in
theorem tw_596 : Cond.instanceMethod ⟨"NestedDeeds$Copying", "leave", "(II)V"⟩ ∈ tb := tb_mem (List.mem_of_getElem? (i := 596) (by decide +kernel)) rfl
set_option maxRecDepth 20000 in
theorem tw_597 : Cond.code ⟨"NestedDeeds$Copying", "leave", "(II)V"⟩ prog_3_method_9_code 3 none ∈ tb := tb_mem (List.mem_of_getElem? (i := 597) (by decide +kernel)) rfl
set_option maxRecDepth 20000 in
theorem tw_598 : Cond.methodLink "NestedDeeds$Copying" 94 ⟨"NestedDeeds$Deeds", "bind", "(III)V"⟩ ∈ tb := tb_mem (List.mem_of_getElem? (i := 598) (by decide +kernel)) rfl
set_option maxRecDepth 20000 in
theorem tw_599 : Cond.instanceMethod ⟨"NestedDeeds$Deeds", "bind", "(III)V"⟩ ∈ tb := tb_mem (List.mem_of_getElem? (i := 599) (by decide +kernel)) rfl
set_option maxRecDepth 20000 in
theorem tw_600 : Cond.selects "NestedDeeds$Deeds" ⟨"NestedDeeds$Deeds", "bind", "(III)V"⟩ ⟨"NestedDeeds$Deeds", "bind", "(III)V"⟩ ∈ tb := tb_mem (List.mem_of_getElem? (i := 600) (by decide +kernel)) rfl
set_option maxRecDepth 20000 in
theorem tw_601 : Cond.code ⟨"NestedDeeds$Deeds", "bind", "(III)V"⟩ prog_4_method_9_code 6 none ∈ tb := tb_mem (List.mem_of_getElem? (i := 601) (by decide +kernel)) rfl
set_option maxRecDepth 20000 in
theorem tw_602 : Cond.methodLink "NestedDeeds$Deeds" 41 ⟨"NestedDeeds$Deeds", "add", "(II)I"⟩ ∈ tb := tb_mem (List.mem_of_getElem? (i := 602) (by decide +kernel)) rfl
set_option maxRecDepth 20000 in
theorem tw_603 : Cond.selects "NestedDeeds$Finding" ⟨"NestedDeeds$Task", "leave", "(II)V"⟩ ⟨"NestedDeeds$Task", "leave", "(II)V"⟩ ∈ tb := tb_mem (List.mem_of_getElem? (i := 603) (by decide +kernel)) rfl
set_option maxRecDepth 20000 in
theorem tw_604 : Cond.selects "NestedDeeds$Marking" ⟨"NestedDeeds$Task", "leave", "(II)V"⟩ ⟨"NestedDeeds$Marking", "leave", "(II)V"⟩ ∈ tb := tb_mem (List.mem_of_getElem? (i := 604) (by decide +kernel)) rfl
set_option maxRecDepth 20000 in
theorem tw_605 : Cond.instanceMethod ⟨"NestedDeeds$Marking", "leave", "(II)V"⟩ ∈ tb := tb_mem (List.mem_of_getElem? (i := 605) (by decide +kernel)) rfl
set_option maxRecDepth 20000 in
theorem tw_606 : Cond.code ⟨"NestedDeeds$Marking", "leave", "(II)V"⟩ prog_6_method_7_code 3 none ∈ tb := tb_mem (List.mem_of_getElem? (i := 606) (by decide +kernel)) rfl
