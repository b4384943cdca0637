abbrev MX0_init : XM := (yX0_init, cX0_init, 1, none, 1, 1, 8)
theorem lbX0_init : xlB MX0_init 0 := ⟨(xt_in (List.mem_of_getElem? (i := 166) (by decide +kernel)) rfl), (xt_in (List.mem_of_getElem? (i := 53) (by decide +kernel)) rfl), ⟨by decide +kernel, by decide +kernel, by decide +kernel⟩, by decide +kernel⟩
abbrev MX0_lookAt : XM := (yX0_lookAt, cX0_lookAt, 6, none, 2, 0, 0)
theorem lbX0_lookAt : xlB MX0_lookAt 3 := ⟨(xt_in (List.mem_of_getElem? (i := 567) (by decide +kernel)) rfl), (xt_in (List.mem_of_getElem? (i := 53) (by decide +kernel)) rfl), ⟨by decide +kernel, by decide +kernel, by decide +kernel⟩, by decide +kernel⟩
abbrev MX0_append : XM := (yX0_append, cX0_append, 2, none, 0, 0, 0)
theorem lbX0_append : xlB MX0_append 1 := ⟨(xt_in (List.mem_of_getElem? (i := 574) (by decide +kernel)) rfl), (xt_in (List.mem_of_getElem? (i := 53) (by decide +kernel)) rfl), ⟨by decide +kernel, by decide +kernel, by decide +kernel⟩, by decide +kernel⟩
abbrev MX0_isPassedWith : XM := (yX0_isPassedWith, cX0_isPassedWith, 4, some .boolean, 1, 0, 0)
theorem lbX0_isPassedWith : xlB MX0_isPassedWith 1 := ⟨(xt_in (List.mem_of_getElem? (i := 578) (by decide +kernel)) rfl), (xt_in (List.mem_of_getElem? (i := 53) (by decide +kernel)) rfl), ⟨by decide +kernel, by decide +kernel, by decide +kernel⟩, by decide +kernel⟩
abbrev MX1_init : XM := (yX1_init, cX1_init, 1, none, 1, 1, 42)
theorem lbX1_init : xlB MX1_init 0 := ⟨(xt_in (List.mem_of_getElem? (i := 180) (by decide +kernel)) rfl), (xt_in (List.mem_of_getElem? (i := 54) (by decide +kernel)) rfl), ⟨by decide +kernel, by decide +kernel, by decide +kernel⟩, by decide +kernel⟩
abbrev MX1_dataWord : XM := (yX1_dataWord, cX1_dataWord, 6, some .int, 4, 0, 0)
theorem lbX1_dataWord : xlB MX1_dataWord 4 := ⟨(xt_in (List.mem_of_getElem? (i := 523) (by decide +kernel)) rfl), (xt_in (List.mem_of_getElem? (i := 54) (by decide +kernel)) rfl), ⟨by decide +kernel, by decide +kernel, by decide +kernel⟩, by decide +kernel⟩
abbrev MX1_setUp : XM := (yX1_setUp, cX1_setUp, 8, none, 3, 0, 0)
theorem lbX1_setUp : xlB MX1_setUp 3 := ⟨(xt_in (List.mem_of_getElem? (i := 527) (by decide +kernel)) rfl), (xt_in (List.mem_of_getElem? (i := 54) (by decide +kernel)) rfl), ⟨by decide +kernel, by decide +kernel, by decide +kernel⟩, by decide +kernel⟩
abbrev MX1_factor : XM := (yX1_factor, cX1_factor, 3, some .int, 1, 0, 0)
theorem lbX1_factor : xlB MX1_factor 3 := ⟨(xt_in (List.mem_of_getElem? (i := 532) (by decide +kernel)) rfl), (xt_in (List.mem_of_getElem? (i := 54) (by decide +kernel)) rfl), ⟨by decide +kernel, by decide +kernel, by decide +kernel⟩, by decide +kernel⟩
abbrev MX1_eliminate : XM := (yX1_eliminate, cX1_eliminate, 4, none, 1, 0, 0)
theorem lbX1_eliminate : xlB MX1_eliminate 1 := ⟨(xt_in (List.mem_of_getElem? (i := 538) (by decide +kernel)) rfl), (xt_in (List.mem_of_getElem? (i := 54) (by decide +kernel)) rfl), ⟨by decide +kernel, by decide +kernel, by decide +kernel⟩, by decide +kernel⟩
abbrev MX1_swapRows : XM := (yX1_swapRows, cX1_swapRows, 5, none, 0, 0, 0)
theorem lbX1_swapRows : xlB MX1_swapRows 2 := ⟨(xt_in (List.mem_of_getElem? (i := 542) (by decide +kernel)) rfl), (xt_in (List.mem_of_getElem? (i := 54) (by decide +kernel)) rfl), ⟨by decide +kernel, by decide +kernel, by decide +kernel⟩, by decide +kernel⟩
abbrev MX1_scaleRow : XM := (yX1_scaleRow, cX1_scaleRow, 5, none, 0, 0, 0)
theorem lbX1_scaleRow : xlB MX1_scaleRow 2 := ⟨(xt_in (List.mem_of_getElem? (i := 546) (by decide +kernel)) rfl), (xt_in (List.mem_of_getElem? (i := 54) (by decide +kernel)) rfl), ⟨by decide +kernel, by decide +kernel, by decide +kernel⟩, by decide +kernel⟩
abbrev MX1_subtractRow : XM := (yX1_subtractRow, cX1_subtractRow, 6, none, 0, 0, 0)
theorem lbX1_subtractRow : xlB MX1_subtractRow 3 := ⟨(xt_in (List.mem_of_getElem? (i := 550) (by decide +kernel)) rfl), (xt_in (List.mem_of_getElem? (i := 54) (by decide +kernel)) rfl), ⟨by decide +kernel, by decide +kernel, by decide +kernel⟩, by decide +kernel⟩
abbrev MX2_init : XM := (yX2_init, cX2_init, 1, none, 1, 6, 264)
theorem lbX2_init : xlB MX2_init 0 := ⟨(xt_in (List.mem_of_getElem? (i := 103) (by decide +kernel)) rfl), (xt_in (List.mem_of_getElem? (i := 50) (by decide +kernel)) rfl), ⟨by decide +kernel, by decide +kernel, by decide +kernel⟩, by decide +kernel⟩
abbrev MX2_copyFrom : XM := (yX2_copyFrom, cX2_copyFrom, 2, none, 2, 0, 0)
theorem lbX2_copyFrom : xlB MX2_copyFrom 1 := ⟨(xt_in (List.mem_of_getElem? (i := 248) (by decide +kernel)) rfl), (xt_in (List.mem_of_getElem? (i := 50) (by decide +kernel)) rfl), ⟨by decide +kernel, by decide +kernel, by decide +kernel⟩, by decide +kernel⟩
abbrev MX2_exists : XM := (yX2_exists, cX2_exists, 2, some .boolean, 0, 0, 0)
theorem lbX2_exists : xlB MX2_exists 1 := ⟨(xt_in (List.mem_of_getElem? (i := 275) (by decide +kernel)) rfl), (xt_in (List.mem_of_getElem? (i := 50) (by decide +kernel)) rfl), ⟨by decide +kernel, by decide +kernel, by decide +kernel⟩, by decide +kernel⟩
abbrev MX2_dataOf : XM := (yX2_dataOf, cX2_dataOf, 2, some .int, 0, 0, 0)
theorem lbX2_dataOf : xlB MX2_dataOf 1 := ⟨(xt_in (List.mem_of_getElem? (i := 443) (by decide +kernel)) rfl), (xt_in (List.mem_of_getElem? (i := 50) (by decide +kernel)) rfl), ⟨by decide +kernel, by decide +kernel, by decide +kernel⟩, by decide +kernel⟩
abbrev MX2_fragmentNumber : XM := (yX2_fragmentNumber, cX2_fragmentNumber, 2, some .int, 0, 0, 0)
theorem lbX2_fragmentNumber : xlB MX2_fragmentNumber 1 := ⟨(xt_in (List.mem_of_getElem? (i := 356) (by decide +kernel)) rfl), (xt_in (List.mem_of_getElem? (i := 50) (by decide +kernel)) rfl), ⟨by decide +kernel, by decide +kernel, by decide +kernel⟩, by decide +kernel⟩
abbrev MX2_hasFragment : XM := (yX2_hasFragment, cX2_hasFragment, 3, some .boolean, 1, 0, 0)
theorem lbX2_hasFragment : xlB MX2_hasFragment 2 := ⟨(xt_in (List.mem_of_getElem? (i := 480) (by decide +kernel)) rfl), (xt_in (List.mem_of_getElem? (i := 50) (by decide +kernel)) rfl), ⟨by decide +kernel, by decide +kernel, by decide +kernel⟩, by decide +kernel⟩
abbrev MX2_hasData : XM := (yX2_hasData, cX2_hasData, 3, some .boolean, 1, 0, 0)
theorem lbX2_hasData : xlB MX2_hasData 2 := ⟨(xt_in (List.mem_of_getElem? (i := 498) (by decide +kernel)) rfl), (xt_in (List.mem_of_getElem? (i := 50) (by decide +kernel)) rfl), ⟨by decide +kernel, by decide +kernel, by decide +kernel⟩, by decide +kernel⟩
abbrev MX2_ownerOf : XM := (yX2_ownerOf, cX2_ownerOf, 2, some .int, 0, 0, 0)
theorem lbX2_ownerOf : xlB MX2_ownerOf 1 := ⟨(xt_in (List.mem_of_getElem? (i := 279) (by decide +kernel)) rfl), (xt_in (List.mem_of_getElem? (i := 50) (by decide +kernel)) rfl), ⟨by decide +kernel, by decide +kernel, by decide +kernel⟩, by decide +kernel⟩
abbrev MX2_isInRows : XM := (yX2_isInRows, cX2_isInRows, 2, some .boolean, 0, 0, 0)
theorem lbX2_isInRows : xlB MX2_isInRows 2 := ⟨(xt_in (List.mem_of_getElem? (i := 311) (by decide +kernel)) rfl), (xt_in (List.mem_of_getElem? (i := 50) (by decide +kernel)) rfl), ⟨by decide +kernel, by decide +kernel, by decide +kernel⟩, by decide +kernel⟩
abbrev MX2_placeOf : XM := (yX2_placeOf, cX2_placeOf, 3, some .int, 1, 0, 0)
theorem lbX2_placeOf : xlB MX2_placeOf 2 := ⟨(xt_in (List.mem_of_getElem? (i := 319) (by decide +kernel)) rfl), (xt_in (List.mem_of_getElem? (i := 50) (by decide +kernel)) rfl), ⟨by decide +kernel, by decide +kernel, by decide +kernel⟩, by decide +kernel⟩
abbrev MX2_correctValue : XM := (yX2_correctValue, cX2_correctValue, 3, some .int, 1, 0, 0)
theorem lbX2_correctValue : xlB MX2_correctValue 2 := ⟨(xt_in (List.mem_of_getElem? (i := 489) (by decide +kernel)) rfl), (xt_in (List.mem_of_getElem? (i := 50) (by decide +kernel)) rfl), ⟨by decide +kernel, by decide +kernel, by decide +kernel⟩, by decide +kernel⟩
abbrev MX2_errorOf : XM := (yX2_errorOf, cX2_errorOf, 3, some .int, 1, 0, 0)
theorem lbX2_errorOf : xlB MX2_errorOf 2 := ⟨(xt_in (List.mem_of_getElem? (i := 308) (by decide +kernel)) rfl), (xt_in (List.mem_of_getElem? (i := 50) (by decide +kernel)) rfl), ⟨by decide +kernel, by decide +kernel, by decide +kernel⟩, by decide +kernel⟩
abbrev MX2_storedValue : XM := (yX2_storedValue, cX2_storedValue, 3, some .int, 2, 0, 0)
theorem lbX2_storedValue : xlB MX2_storedValue 2 := ⟨(xt_in (List.mem_of_getElem? (i := 485) (by decide +kernel)) rfl), (xt_in (List.mem_of_getElem? (i := 50) (by decide +kernel)) rfl), ⟨by decide +kernel, by decide +kernel, by decide +kernel⟩, by decide +kernel⟩
abbrev MX2_isStored : XM := (yX2_isStored, cX2_isStored, 3, some .boolean, 2, 0, 0)
theorem lbX2_isStored : xlB MX2_isStored 2 := ⟨(xt_in (List.mem_of_getElem? (i := 452) (by decide +kernel)) rfl), (xt_in (List.mem_of_getElem? (i := 50) (by decide +kernel)) rfl), ⟨by decide +kernel, by decide +kernel, by decide +kernel⟩, by decide +kernel⟩
abbrev MX2_isSpoiled : XM := (yX2_isSpoiled, cX2_isSpoiled, 3, some .boolean, 3, 0, 0)
theorem lbX2_isSpoiled : xlB MX2_isSpoiled 2 := ⟨(xt_in (List.mem_of_getElem? (i := 682) (by decide +kernel)) rfl), (xt_in (List.mem_of_getElem? (i := 50) (by decide +kernel)) rfl), ⟨by decide +kernel, by decide +kernel, by decide +kernel⟩, by decide +kernel⟩
abbrev MX2_fragmentOn : XM := (yX2_fragmentOn, cX2_fragmentOn, 5, some .int, 0, 0, 0)
theorem lbX2_fragmentOn : xlB MX2_fragmentOn 2 := ⟨(xt_in (List.mem_of_getElem? (i := 287) (by decide +kernel)) rfl), (xt_in (List.mem_of_getElem? (i := 50) (by decide +kernel)) rfl), ⟨by decide +kernel, by decide +kernel, by decide +kernel⟩, by decide +kernel⟩
abbrev MX2_number : XM := (yX2_number, cX2_number, 3, some .int, 1, 0, 0)
theorem lbX2_number : xlB MX2_number 0 := ⟨(xt_in (List.mem_of_getElem? (i := 435) (by decide +kernel)) rfl), (xt_in (List.mem_of_getElem? (i := 50) (by decide +kernel)) rfl), ⟨by decide +kernel, by decide +kernel, by decide +kernel⟩, by decide +kernel⟩
abbrev MX2_lowestUnused : XM := (yX2_lowestUnused, cX2_lowestUnused, 2, some .int, 1, 0, 0)
theorem lbX2_lowestUnused : xlB MX2_lowestUnused 0 := ⟨(xt_in (List.mem_of_getElem? (i := 410) (by decide +kernel)) rfl), (xt_in (List.mem_of_getElem? (i := 50) (by decide +kernel)) rfl), ⟨by decide +kernel, by decide +kernel, by decide +kernel⟩, by decide +kernel⟩
abbrev MX2_ownedBy : XM := (yX2_ownedBy, cX2_ownedBy, 4, some .int, 1, 0, 0)
theorem lbX2_ownedBy : xlB MX2_ownedBy 1 := ⟨(xt_in (List.mem_of_getElem? (i := 271) (by decide +kernel)) rfl), (xt_in (List.mem_of_getElem? (i := 50) (by decide +kernel)) rfl), ⟨by decide +kernel, by decide +kernel, by decide +kernel⟩, by decide +kernel⟩
abbrev MX2_storedNumber : XM := (yX2_storedNumber, cX2_storedNumber, 5, some .int, 3, 0, 0)
theorem lbX2_storedNumber : xlB MX2_storedNumber 1 := ⟨(xt_in (List.mem_of_getElem? (i := 447) (by decide +kernel)) rfl), (xt_in (List.mem_of_getElem? (i := 50) (by decide +kernel)) rfl), ⟨by decide +kernel, by decide +kernel, by decide +kernel⟩, by decide +kernel⟩
abbrev MX2_spoiledNumber : XM := (yX2_spoiledNumber, cX2_spoiledNumber, 5, some .int, 4, 0, 0)
theorem lbX2_spoiledNumber : xlB MX2_spoiledNumber 1 := ⟨(xt_in (List.mem_of_getElem? (i := 678) (by decide +kernel)) rfl), (xt_in (List.mem_of_getElem? (i := 50) (by decide +kernel)) rfl), ⟨by decide +kernel, by decide +kernel, by decide +kernel⟩, by decide +kernel⟩
abbrev MX2_allStored : XM := (yX2_allStored, cX2_allStored, 3, some .int, 4, 0, 0)
theorem lbX2_allStored : xlB MX2_allStored 0 := ⟨(xt_in (List.mem_of_getElem? (i := 669) (by decide +kernel)) rfl), (xt_in (List.mem_of_getElem? (i := 50) (by decide +kernel)) rfl), ⟨by decide +kernel, by decide +kernel, by decide +kernel⟩, by decide +kernel⟩
abbrev MX2_allSpoiled : XM := (yX2_allSpoiled, cX2_allSpoiled, 3, some .int, 5, 0, 0)
theorem lbX2_allSpoiled : xlB MX2_allSpoiled 0 := ⟨(xt_in (List.mem_of_getElem? (i := 674) (by decide +kernel)) rfl), (xt_in (List.mem_of_getElem? (i := 50) (by decide +kernel)) rfl), ⟨by decide +kernel, by decide +kernel, by decide +kernel⟩, by decide +kernel⟩
abbrev MX2_isDecodingSet : XM := (yX2_isDecodingSet, cX2_isDecodingSet, 3, some .boolean, 1, 0, 0)
theorem lbX2_isDecodingSet : xlB MX2_isDecodingSet 2 := ⟨(xt_in (List.mem_of_getElem? (i := 509) (by decide +kernel)) rfl), (xt_in (List.mem_of_getElem? (i := 50) (by decide +kernel)) rfl), ⟨by decide +kernel, by decide +kernel, by decide +kernel⟩, by decide +kernel⟩
abbrev MX2_isStoredSet : XM := (yX2_isStoredSet, cX2_isStoredSet, 5, some .boolean, 3, 0, 0)
theorem lbX2_isStoredSet : xlB MX2_isStoredSet 2 := ⟨(xt_in (List.mem_of_getElem? (i := 519) (by decide +kernel)) rfl), (xt_in (List.mem_of_getElem? (i := 50) (by decide +kernel)) rfl), ⟨by decide +kernel, by decide +kernel, by decide +kernel⟩, by decide +kernel⟩
abbrev MX2_add : XM := (yX2_add, cX2_add, 9, none, 2, 0, 0)
theorem lbX2_add : xlB MX2_add 5 := ⟨(xt_in (List.mem_of_getElem? (i := 418) (by decide +kernel)) rfl), (xt_in (List.mem_of_getElem? (i := 50) (by decide +kernel)) rfl), ⟨by decide +kernel, by decide +kernel, by decide +kernel⟩, by decide +kernel⟩
abbrev MX2_parityWord : XM := (yX2_parityWord, cX2_parityWord, 5, some .int, 1, 0, 0)
theorem lbX2_parityWord : xlB MX2_parityWord 3 := ⟨(xt_in (List.mem_of_getElem? (i := 422) (by decide +kernel)) rfl), (xt_in (List.mem_of_getElem? (i := 50) (by decide +kernel)) rfl), ⟨by decide +kernel, by decide +kernel, by decide +kernel⟩, by decide +kernel⟩
abbrev MX2_remove : XM := (yX2_remove, cX2_remove, 2, none, 1, 0, 0)
theorem lbX2_remove : xlB MX2_remove 1 := ⟨(xt_in (List.mem_of_getElem? (i := 360) (by decide +kernel)) rfl), (xt_in (List.mem_of_getElem? (i := 50) (by decide +kernel)) rfl), ⟨by decide +kernel, by decide +kernel, by decide +kernel⟩, by decide +kernel⟩
abbrev MX2_setFragment : XM := (yX2_setFragment, cX2_setFragment, 5, none, 1, 0, 0)
theorem lbX2_setFragment : xlB MX2_setFragment 4 := ⟨(xt_in (List.mem_of_getElem? (i := 327) (by decide +kernel)) rfl), (xt_in (List.mem_of_getElem? (i := 50) (by decide +kernel)) rfl), ⟨by decide +kernel, by decide +kernel, by decide +kernel⟩, by decide +kernel⟩
abbrev MX2_addError : XM := (yX2_addError, cX2_addError, 5, none, 1, 0, 0)
theorem lbX2_addError : xlB MX2_addError 3 := ⟨(xt_in (List.mem_of_getElem? (i := 558) (by decide +kernel)) rfl), (xt_in (List.mem_of_getElem? (i := 50) (by decide +kernel)) rfl), ⟨by decide +kernel, by decide +kernel, by decide +kernel⟩, by decide +kernel⟩
abbrev MX3_init : XM := (yX3_init, cX3_init, 2, none, 3, 76, 2390)
theorem lbX3_init : xlB MX3_init 0 := ⟨(xt_in (List.mem_of_getElem? (i := 149) (by decide +kernel)) rfl), (xt_in (List.mem_of_getElem? (i := 52) (by decide +kernel)) rfl), ⟨by decide +kernel, by decide +kernel, by decide +kernel⟩, by decide +kernel⟩
abbrev MX3_record : XM := (yX3_record, cX3_record, 2, none, 4, 0, 0)
theorem lbX3_record : xlB MX3_record 1 := ⟨(xt_in (List.mem_of_getElem? (i := 223) (by decide +kernel)) rfl), (xt_in (List.mem_of_getElem? (i := 52) (by decide +kernel)) rfl), ⟨by decide +kernel, by decide +kernel, by decide +kernel⟩, by decide +kernel⟩
abbrev MX3_dropOldest : XM := (yX3_dropOldest, cX3_dropOldest, 3, none, 0, 0, 0)
theorem lbX3_dropOldest : xlB MX3_dropOldest 0 := ⟨(xt_in (List.mem_of_getElem? (i := 227) (by decide +kernel)) rfl), (xt_in (List.mem_of_getElem? (i := 52) (by decide +kernel)) rfl), ⟨by decide +kernel, by decide +kernel, by decide +kernel⟩, by decide +kernel⟩
abbrev MX3_restoreLatest : XM := (yX3_restoreLatest, cX3_restoreLatest, 2, none, 4, 0, 0)
theorem lbX3_restoreLatest : xlB MX3_restoreLatest 1 := ⟨(xt_in (List.mem_of_getElem? (i := 620) (by decide +kernel)) rfl), (xt_in (List.mem_of_getElem? (i := 52) (by decide +kernel)) rfl), ⟨by decide +kernel, by decide +kernel, by decide +kernel⟩, by decide +kernel⟩
abbrev MX4_init : XM := (yX4_init, cX4_init, 1, none, 1, 5, 192)
theorem lbX4_init : xlB MX4_init 0 := ⟨(xt_in (List.mem_of_getElem? (i := 77) (by decide +kernel)) rfl), (xt_in (List.mem_of_getElem? (i := 49) (by decide +kernel)) rfl), ⟨by decide +kernel, by decide +kernel, by decide +kernel⟩, by decide +kernel⟩
abbrev MX4_copyFrom : XM := (yX4_copyFrom, cX4_copyFrom, 2, none, 2, 0, 0)
theorem lbX4_copyFrom : xlB MX4_copyFrom 1 := ⟨(xt_in (List.mem_of_getElem? (i := 235) (by decide +kernel)) rfl), (xt_in (List.mem_of_getElem? (i := 49) (by decide +kernel)) rfl), ⟨by decide +kernel, by decide +kernel, by decide +kernel⟩, by decide +kernel⟩
abbrev MX4_exists : XM := (yX4_exists, cX4_exists, 2, some .boolean, 0, 0, 0)
theorem lbX4_exists : xlB MX4_exists 1 := ⟨(xt_in (List.mem_of_getElem? (i := 219) (by decide +kernel)) rfl), (xt_in (List.mem_of_getElem? (i := 49) (by decide +kernel)) rfl), ⟨by decide +kernel, by decide +kernel, by decide +kernel⟩, by decide +kernel⟩
abbrev MX4_areTwo : XM := (yX4_areTwo, cX4_areTwo, 3, some .boolean, 1, 0, 0)
theorem lbX4_areTwo : xlB MX4_areTwo 2 := ⟨(xt_in (List.mem_of_getElem? (i := 372) (by decide +kernel)) rfl), (xt_in (List.mem_of_getElem? (i := 49) (by decide +kernel)) rfl), ⟨by decide +kernel, by decide +kernel, by decide +kernel⟩, by decide +kernel⟩
abbrev MX4_isOnline : XM := (yX4_isOnline, cX4_isOnline, 2, some .boolean, 0, 0, 0)
theorem lbX4_isOnline : xlB MX4_isOnline 1 := ⟨(xt_in (List.mem_of_getElem? (i := 267) (by decide +kernel)) rfl), (xt_in (List.mem_of_getElem? (i := 49) (by decide +kernel)) rfl), ⟨by decide +kernel, by decide +kernel, by decide +kernel⟩, by decide +kernel⟩
abbrev MX4_freeSpace : XM := (yX4_freeSpace, cX4_freeSpace, 2, some .int, 0, 0, 0)
theorem lbX4_freeSpace : xlB MX4_freeSpace 1 := ⟨(xt_in (List.mem_of_getElem? (i := 299) (by decide +kernel)) rfl), (xt_in (List.mem_of_getElem? (i := 49) (by decide +kernel)) rfl), ⟨by decide +kernel, by decide +kernel, by decide +kernel⟩, by decide +kernel⟩
abbrev MX4_number : XM := (yX4_number, cX4_number, 3, some .int, 1, 0, 0)
theorem lbX4_number : xlB MX4_number 0 := ⟨(xt_in (List.mem_of_getElem? (i := 628) (by decide +kernel)) rfl), (xt_in (List.mem_of_getElem? (i := 49) (by decide +kernel)) rfl), ⟨by decide +kernel, by decide +kernel, by decide +kernel⟩, by decide +kernel⟩
abbrev MX4_lowestUnused : XM := (yX4_lowestUnused, cX4_lowestUnused, 2, some .int, 1, 0, 0)
theorem lbX4_lowestUnused : xlB MX4_lowestUnused 0 := ⟨(xt_in (List.mem_of_getElem? (i := 215) (by decide +kernel)) rfl), (xt_in (List.mem_of_getElem? (i := 49) (by decide +kernel)) rfl), ⟨by decide +kernel, by decide +kernel, by decide +kernel⟩, by decide +kernel⟩
abbrev MX4_onlineFreeSpace : XM := (yX4_onlineFreeSpace, cX4_onlineFreeSpace, 3, some .int, 1, 0, 0)
theorem lbX4_onlineFreeSpace : xlB MX4_onlineFreeSpace 0 := ⟨(xt_in (List.mem_of_getElem? (i := 686) (by decide +kernel)) rfl), (xt_in (List.mem_of_getElem? (i := 49) (by decide +kernel)) rfl), ⟨by decide +kernel, by decide +kernel, by decide +kernel⟩, by decide +kernel⟩
abbrev MX4_add : XM := (yX4_add, cX4_add, 3, none, 0, 0, 0)
theorem lbX4_add : xlB MX4_add 2 := ⟨(xt_in (List.mem_of_getElem? (i := 254) (by decide +kernel)) rfl), (xt_in (List.mem_of_getElem? (i := 49) (by decide +kernel)) rfl), ⟨by decide +kernel, by decide +kernel, by decide +kernel⟩, by decide +kernel⟩
abbrev MX4_remove : XM := (yX4_remove, cX4_remove, 3, none, 1, 0, 0)
theorem lbX4_remove : xlB MX4_remove 1 := ⟨(xt_in (List.mem_of_getElem? (i := 340) (by decide +kernel)) rfl), (xt_in (List.mem_of_getElem? (i := 49) (by decide +kernel)) rfl), ⟨by decide +kernel, by decide +kernel, by decide +kernel⟩, by decide +kernel⟩
abbrev MX4_addLoad : XM := (yX4_addLoad, cX4_addLoad, 3, none, 1, 0, 0)
theorem lbX4_addLoad : xlB MX4_addLoad 2 := ⟨(xt_in (List.mem_of_getElem? (i := 323) (by decide +kernel)) rfl), (xt_in (List.mem_of_getElem? (i := 49) (by decide +kernel)) rfl), ⟨by decide +kernel, by decide +kernel, by decide +kernel⟩, by decide +kernel⟩
abbrev MX4_raiseTrust : XM := (yX4_raiseTrust, cX4_raiseTrust, 2, none, 1, 0, 0)
theorem lbX4_raiseTrust : xlB MX4_raiseTrust 1 := ⟨(xt_in (List.mem_of_getElem? (i := 587) (by decide +kernel)) rfl), (xt_in (List.mem_of_getElem? (i := 49) (by decide +kernel)) rfl), ⟨by decide +kernel, by decide +kernel, by decide +kernel⟩, by decide +kernel⟩
abbrev MX4_halveTrust : XM := (yX4_halveTrust, cX4_halveTrust, 2, none, 1, 0, 0)
theorem lbX4_halveTrust : xlB MX4_halveTrust 1 := ⟨(xt_in (List.mem_of_getElem? (i := 583) (by decide +kernel)) rfl), (xt_in (List.mem_of_getElem? (i := 49) (by decide +kernel)) rfl), ⟨by decide +kernel, by decide +kernel, by decide +kernel⟩, by decide +kernel⟩
abbrev MX4_isBetterPlace : XM := (yX4_isBetterPlace, cX4_isBetterPlace, 3, some .boolean, 1, 0, 0)
theorem lbX4_isBetterPlace : xlB MX4_isBetterPlace 2 := ⟨(xt_in (List.mem_of_getElem? (i := 303) (by decide +kernel)) rfl), (xt_in (List.mem_of_getElem? (i := 49) (by decide +kernel)) rfl), ⟨by decide +kernel, by decide +kernel, by decide +kernel⟩, by decide +kernel⟩
abbrev MX4_owe : XM := (yX4_owe, cX4_owe, 4, none, 1, 0, 0)
theorem lbX4_owe : xlB MX4_owe 3 := ⟨(xt_in (List.mem_of_getElem? (i := 336) (by decide +kernel)) rfl), (xt_in (List.mem_of_getElem? (i := 49) (by decide +kernel)) rfl), ⟨by decide +kernel, by decide +kernel, by decide +kernel⟩, by decide +kernel⟩
abbrev MX4_owedBy : XM := (yX4_owedBy, cX4_owedBy, 3, some .int, 2, 0, 0)
theorem lbX4_owedBy : xlB MX4_owedBy 2 := ⟨(xt_in (List.mem_of_getElem? (i := 376) (by decide +kernel)) rfl), (xt_in (List.mem_of_getElem? (i := 49) (by decide +kernel)) rfl), ⟨by decide +kernel, by decide +kernel, by decide +kernel⟩, by decide +kernel⟩
abbrev MX4_sumOwedBy : XM := (yX4_sumOwedBy, cX4_sumOwedBy, 4, some .int, 3, 0, 0)
theorem lbX4_sumOwedBy : xlB MX4_sumOwedBy 1 := ⟨(xt_in (List.mem_of_getElem? (i := 388) (by decide +kernel)) rfl), (xt_in (List.mem_of_getElem? (i := 49) (by decide +kernel)) rfl), ⟨by decide +kernel, by decide +kernel, by decide +kernel⟩, by decide +kernel⟩
abbrev MX4_sumOfDebts : XM := (yX4_sumOfDebts, cX4_sumOfDebts, 3, some .int, 1, 0, 0)
theorem lbX4_sumOfDebts : xlB MX4_sumOfDebts 0 := ⟨(xt_in (List.mem_of_getElem? (i := 691) (by decide +kernel)) rfl), (xt_in (List.mem_of_getElem? (i := 49) (by decide +kernel)) rfl), ⟨by decide +kernel, by decide +kernel, by decide +kernel⟩, by decide +kernel⟩
abbrev MX5_init : XM := (yX5_init, cX5_init, 1, none, 2, 14, 473)
theorem lbX5_init : xlB MX5_init 0 := ⟨(xt_in (List.mem_of_getElem? (i := 71) (by decide +kernel)) rfl), (xt_in (List.mem_of_getElem? (i := 48) (by decide +kernel)) rfl), ⟨by decide +kernel, by decide +kernel, by decide +kernel⟩, by decide +kernel⟩
abbrev MX5_copyFrom : XM := (yX5_copyFrom, cX5_copyFrom, 2, none, 3, 0, 0)
theorem lbX5_copyFrom : xlB MX5_copyFrom 1 := ⟨(xt_in (List.mem_of_getElem? (i := 231) (by decide +kernel)) rfl), (xt_in (List.mem_of_getElem? (i := 48) (by decide +kernel)) rfl), ⟨by decide +kernel, by decide +kernel, by decide +kernel⟩, by decide +kernel⟩
abbrev MX5_addWaiting : XM := (yX5_addWaiting, cX5_addWaiting, 2, some .int, 0, 0, 0)
theorem lbX5_addWaiting : xlB MX5_addWaiting 1 := ⟨(xt_in (List.mem_of_getElem? (i := 401) (by decide +kernel)) rfl), (xt_in (List.mem_of_getElem? (i := 48) (by decide +kernel)) rfl), ⟨by decide +kernel, by decide +kernel, by decide +kernel⟩, by decide +kernel⟩
abbrev MX5_isGood : XM := (yX5_isGood, cX5_isGood, 3, some .boolean, 2, 0, 0)
theorem lbX5_isGood : xlB MX5_isGood 2 := ⟨(xt_in (List.mem_of_getElem? (i := 461) (by decide +kernel)) rfl), (xt_in (List.mem_of_getElem? (i := 48) (by decide +kernel)) rfl), ⟨by decide +kernel, by decide +kernel, by decide +kernel⟩, by decide +kernel⟩
abbrev MX5_goodNumber : XM := (yX5_goodNumber, cX5_goodNumber, 5, some .int, 3, 0, 0)
theorem lbX5_goodNumber : xlB MX5_goodNumber 1 := ⟨(xt_in (List.mem_of_getElem? (i := 457) (by decide +kernel)) rfl), (xt_in (List.mem_of_getElem? (i := 48) (by decide +kernel)) rfl), ⟨by decide +kernel, by decide +kernel, by decide +kernel⟩, by decide +kernel⟩
abbrev MX5_reserveOf : XM := (yX5_reserveOf, cX5_reserveOf, 2, some .int, 4, 0, 0)
theorem lbX5_reserveOf : xlB MX5_reserveOf 1 := ⟨(xt_in (List.mem_of_getElem? (i := 472) (by decide +kernel)) rfl), (xt_in (List.mem_of_getElem? (i := 48) (by decide +kernel)) rfl), ⟨by decide +kernel, by decide +kernel, by decide +kernel⟩, by decide +kernel⟩
abbrev MX5_isSafe : XM := (yX5_isSafe, cX5_isSafe, 2, some .boolean, 4, 0, 0)
theorem lbX5_isSafe : xlB MX5_isSafe 1 := ⟨(xt_in (List.mem_of_getElem? (i := 465) (by decide +kernel)) rfl), (xt_in (List.mem_of_getElem? (i := 48) (by decide +kernel)) rfl), ⟨by decide +kernel, by decide +kernel, by decide +kernel⟩, by decide +kernel⟩
abbrev MX5_safeNumber : XM := (yX5_safeNumber, cX5_safeNumber, 3, some .int, 5, 0, 0)
theorem lbX5_safeNumber : xlB MX5_safeNumber 0 := ⟨(xt_in (List.mem_of_getElem? (i := 665) (by decide +kernel)) rfl), (xt_in (List.mem_of_getElem? (i := 48) (by decide +kernel)) rfl), ⟨by decide +kernel, by decide +kernel, by decide +kernel⟩, by decide +kernel⟩
abbrev MX5_findPlace : XM := (yX5_findPlace, cX5_findPlace, 4, some .int, 2, 0, 0)
theorem lbX5_findPlace : xlB MX5_findPlace 1 := ⟨(xt_in (List.mem_of_getElem? (i := 295) (by decide +kernel)) rfl), (xt_in (List.mem_of_getElem? (i := 48) (by decide +kernel)) rfl), ⟨by decide +kernel, by decide +kernel, by decide +kernel⟩, by decide +kernel⟩
abbrev MX5_putOn : XM := (yX5_putOn, cX5_putOn, 5, none, 2, 0, 0)
theorem lbX5_putOn : xlB MX5_putOn 4 := ⟨(xt_in (List.mem_of_getElem? (i := 331) (by decide +kernel)) rfl), (xt_in (List.mem_of_getElem? (i := 48) (by decide +kernel)) rfl), ⟨by decide +kernel, by decide +kernel, by decide +kernel⟩, by decide +kernel⟩
abbrev MX5_takeOff : XM := (yX5_takeOff, cX5_takeOff, 3, none, 2, 0, 0)
theorem lbX5_takeOff : xlB MX5_takeOff 2 := ⟨(xt_in (List.mem_of_getElem? (i := 315) (by decide +kernel)) rfl), (xt_in (List.mem_of_getElem? (i := 48) (by decide +kernel)) rfl), ⟨by decide +kernel, by decide +kernel, by decide +kernel⟩, by decide +kernel⟩
abbrev MX5_makeFile : XM := (yX5_makeFile, cX5_makeFile, 7, none, 3, 0, 0)
theorem lbX5_makeFile : xlB MX5_makeFile 3 := ⟨(xt_in (List.mem_of_getElem? (i := 414) (by decide +kernel)) rfl), (xt_in (List.mem_of_getElem? (i := 48) (by decide +kernel)) rfl), ⟨by decide +kernel, by decide +kernel, by decide +kernel⟩, by decide +kernel⟩
abbrev MX5_removeFile : XM := (yX5_removeFile, cX5_removeFile, 4, none, 3, 0, 0)
theorem lbX5_removeFile : xlB MX5_removeFile 1 := ⟨(xt_in (List.mem_of_getElem? (i := 352) (by decide +kernel)) rfl), (xt_in (List.mem_of_getElem? (i := 48) (by decide +kernel)) rfl), ⟨by decide +kernel, by decide +kernel, by decide +kernel⟩, by decide +kernel⟩
abbrev MX5_mayLeave : XM := (yX5_mayLeave, cX5_mayLeave, 2, some .boolean, 2, 0, 0)
theorem lbX5_mayLeave : xlB MX5_mayLeave 1 := ⟨(xt_in (List.mem_of_getElem? (i := 263) (by decide +kernel)) rfl), (xt_in (List.mem_of_getElem? (i := 48) (by decide +kernel)) rfl), ⟨by decide +kernel, by decide +kernel, by decide +kernel⟩, by decide +kernel⟩
abbrev MX5_leaveInOrder : XM := (yX5_leaveInOrder, cX5_leaveInOrder, 5, some .int, 4, 0, 0)
theorem lbX5_leaveInOrder : xlB MX5_leaveInOrder 1 := ⟨(xt_in (List.mem_of_getElem? (i := 283) (by decide +kernel)) rfl), (xt_in (List.mem_of_getElem? (i := 48) (by decide +kernel)) rfl), ⟨by decide +kernel, by decide +kernel, by decide +kernel⟩, by decide +kernel⟩
abbrev MX5_move : XM := (yX5_move, cX5_move, 5, some .boolean, 3, 0, 0)
theorem lbX5_move : xlB MX5_move 2 := ⟨(xt_in (List.mem_of_getElem? (i := 291) (by decide +kernel)) rfl), (xt_in (List.mem_of_getElem? (i := 48) (by decide +kernel)) rfl), ⟨by decide +kernel, by decide +kernel, by decide +kernel⟩, by decide +kernel⟩
abbrev MX5_removeCrashed : XM := (yX5_removeCrashed, cX5_removeCrashed, 5, some .int, 4, 0, 0)
theorem lbX5_removeCrashed : xlB MX5_removeCrashed 1 := ⟨(xt_in (List.mem_of_getElem? (i := 348) (by decide +kernel)) rfl), (xt_in (List.mem_of_getElem? (i := 48) (by decide +kernel)) rfl), ⟨by decide +kernel, by decide +kernel, by decide +kernel⟩, by decide +kernel⟩
abbrev MX5_renewFile : XM := (yX5_renewFile, cX5_renewFile, 5, some .int, 5, 0, 0)
theorem lbX5_renewFile : xlB MX5_renewFile 1 := ⟨(xt_in (List.mem_of_getElem? (i := 600) (by decide +kernel)) rfl), (xt_in (List.mem_of_getElem? (i := 48) (by decide +kernel)) rfl), ⟨by decide +kernel, by decide +kernel, by decide +kernel⟩, by decide +kernel⟩
abbrev MX5_renew : XM := (yX5_renew, cX5_renew, 4, some .boolean, 4, 0, 0)
theorem lbX5_renew : xlB MX5_renew 2 := ⟨(xt_in (List.mem_of_getElem? (i := 604) (by decide +kernel)) rfl), (xt_in (List.mem_of_getElem? (i := 48) (by decide +kernel)) rfl), ⟨by decide +kernel, by decide +kernel, by decide +kernel⟩, by decide +kernel⟩
abbrev MX5_oweReaders : XM := (yX5_oweReaders, cX5_oweReaders, 5, none, 3, 0, 0)
theorem lbX5_oweReaders : xlB MX5_oweReaders 1 := ⟨(xt_in (List.mem_of_getElem? (i := 608) (by decide +kernel)) rfl), (xt_in (List.mem_of_getElem? (i := 48) (by decide +kernel)) rfl), ⟨by decide +kernel, by decide +kernel, by decide +kernel⟩, by decide +kernel⟩
abbrev MX5_needsPeer : XM := (yX5_needsPeer, cX5_needsPeer, 3, some .boolean, 5, 0, 0)
theorem lbX5_needsPeer : xlB MX5_needsPeer 2 := ⟨(xt_in (List.mem_of_getElem? (i := 647) (by decide +kernel)) rfl), (xt_in (List.mem_of_getElem? (i := 48) (by decide +kernel)) rfl), ⟨by decide +kernel, by decide +kernel, by decide +kernel⟩, by decide +kernel⟩
abbrev MX5_bearsCrashes : XM := (yX5_bearsCrashes, cX5_bearsCrashes, 3, some .boolean, 5, 0, 0)
theorem lbX5_bearsCrashes : xlB MX5_bearsCrashes 1 := ⟨(xt_in (List.mem_of_getElem? (i := 632) (by decide +kernel)) rfl), (xt_in (List.mem_of_getElem? (i := 48) (by decide +kernel)) rfl), ⟨by decide +kernel, by decide +kernel, by decide +kernel⟩, by decide +kernel⟩
abbrev MX5_canBreak : XM := (yX5_canBreak, cX5_canBreak, 6, some .boolean, 4, 0, 0)
theorem lbX5_canBreak : xlB MX5_canBreak 2 := ⟨(xt_in (List.mem_of_getElem? (i := 637) (by decide +kernel)) rfl), (xt_in (List.mem_of_getElem? (i := 48) (by decide +kernel)) rfl), ⟨by decide +kernel, by decide +kernel, by decide +kernel⟩, by decide +kernel⟩
abbrev MX6_init : XM := (yX6_init, cX6_init, 1, none, 4, 126, 3877)
theorem lbX6_init : xlB MX6_init 0 := ⟨(xt_in (List.mem_of_getElem? (i := 63) (by decide +kernel)) rfl), (xt_in (List.mem_of_getElem? (i := 47) (by decide +kernel)) rfl), ⟨by decide +kernel, by decide +kernel, by decide +kernel⟩, by decide +kernel⟩
abbrev MX6_join : XM := (yX6_join, cX6_join, 3, some .int, 5, 0, 0)
theorem lbX6_join : xlB MX6_join 1 := ⟨(xt_in (List.mem_of_getElem? (i := 211) (by decide +kernel)) rfl), (xt_in (List.mem_of_getElem? (i := 47) (by decide +kernel)) rfl), ⟨by decide +kernel, by decide +kernel, by decide +kernel⟩, by decide +kernel⟩
abbrev MX6_leave : XM := (yX6_leave, cX6_leave, 2, some .int, 5, 0, 0)
theorem lbX6_leave : xlB MX6_leave 1 := ⟨(xt_in (List.mem_of_getElem? (i := 258) (by decide +kernel)) rfl), (xt_in (List.mem_of_getElem? (i := 47) (by decide +kernel)) rfl), ⟨by decide +kernel, by decide +kernel, by decide +kernel⟩, by decide +kernel⟩
abbrev MX6_crash : XM := (yX6_crash, cX6_crash, 2, some .int, 5, 0, 0)
theorem lbX6_crash : xlB MX6_crash 1 := ⟨(xt_in (List.mem_of_getElem? (i := 344) (by decide +kernel)) rfl), (xt_in (List.mem_of_getElem? (i := 47) (by decide +kernel)) rfl), ⟨by decide +kernel, by decide +kernel, by decide +kernel⟩, by decide +kernel⟩
abbrev MX6_setOnline : XM := (yX6_setOnline, cX6_setOnline, 4, some .int, 5, 0, 0)
theorem lbX6_setOnline : xlB MX6_setOnline 2 := ⟨(xt_in (List.mem_of_getElem? (i := 364) (by decide +kernel)) rfl), (xt_in (List.mem_of_getElem? (i := 47) (by decide +kernel)) rfl), ⟨by decide +kernel, by decide +kernel, by decide +kernel⟩, by decide +kernel⟩
abbrev MX6_pay : XM := (yX6_pay, cX6_pay, 4, some .int, 5, 0, 0)
theorem lbX6_pay : xlB MX6_pay 3 := ⟨(xt_in (List.mem_of_getElem? (i := 368) (by decide +kernel)) rfl), (xt_in (List.mem_of_getElem? (i := 47) (by decide +kernel)) rfl), ⟨by decide +kernel, by decide +kernel, by decide +kernel⟩, by decide +kernel⟩
abbrev MX6_peerInfo : XM := (yX6_peerInfo, cX6_peerInfo, 3, some .int, 4, 0, 0)
theorem lbX6_peerInfo : xlB MX6_peerInfo 2 := ⟨(xt_in (List.mem_of_getElem? (i := 382) (by decide +kernel)) rfl), (xt_in (List.mem_of_getElem? (i := 47) (by decide +kernel)) rfl), ⟨by decide +kernel, by decide +kernel, by decide +kernel⟩, by decide +kernel⟩
abbrev MX6_balance : XM := (yX6_balance, cX6_balance, 3, some .int, 3, 0, 0)
theorem lbX6_balance : xlB MX6_balance 2 := ⟨(xt_in (List.mem_of_getElem? (i := 393) (by decide +kernel)) rfl), (xt_in (List.mem_of_getElem? (i := 47) (by decide +kernel)) rfl), ⟨by decide +kernel, by decide +kernel, by decide +kernel⟩, by decide +kernel⟩
abbrev MX6_word : XM := (yX6_word, cX6_word, 2, some .int, 1, 0, 0)
theorem lbX6_word : xlB MX6_word 1 := ⟨(xt_in (List.mem_of_getElem? (i := 397) (by decide +kernel)) rfl), (xt_in (List.mem_of_getElem? (i := 47) (by decide +kernel)) rfl), ⟨by decide +kernel, by decide +kernel, by decide +kernel⟩, by decide +kernel⟩
abbrev MX6_store : XM := (yX6_store, cX6_store, 4, some .int, 5, 0, 0)
theorem lbX6_store : xlB MX6_store 2 := ⟨(xt_in (List.mem_of_getElem? (i := 405) (by decide +kernel)) rfl), (xt_in (List.mem_of_getElem? (i := 47) (by decide +kernel)) rfl), ⟨by decide +kernel, by decide +kernel, by decide +kernel⟩, by decide +kernel⟩
abbrev MX6_delete : XM := (yX6_delete, cX6_delete, 2, some .int, 5, 0, 0)
theorem lbX6_delete : xlB MX6_delete 1 := ⟨(xt_in (List.mem_of_getElem? (i := 429) (by decide +kernel)) rfl), (xt_in (List.mem_of_getElem? (i := 47) (by decide +kernel)) rfl), ⟨by decide +kernel, by decide +kernel, by decide +kernel⟩, by decide +kernel⟩
abbrev MX6_fileInfo : XM := (yX6_fileInfo, cX6_fileInfo, 3, some .int, 5, 0, 0)
theorem lbX6_fileInfo : xlB MX6_fileInfo 2 := ⟨(xt_in (List.mem_of_getElem? (i := 439) (by decide +kernel)) rfl), (xt_in (List.mem_of_getElem? (i := 47) (by decide +kernel)) rfl), ⟨by decide +kernel, by decide +kernel, by decide +kernel⟩, by decide +kernel⟩
abbrev MX6_fragment : XM := (yX6_fragment, cX6_fragment, 5, some .int, 3, 0, 0)
theorem lbX6_fragment : xlB MX6_fragment 3 := ⟨(xt_in (List.mem_of_getElem? (i := 476) (by decide +kernel)) rfl), (xt_in (List.mem_of_getElem? (i := 47) (by decide +kernel)) rfl), ⟨by decide +kernel, by decide +kernel, by decide +kernel⟩, by decide +kernel⟩
abbrev MX6_read : XM := (yX6_read, cX6_read, 3, some .int, 5, 0, 0)
theorem lbX6_read : xlB MX6_read 2 := ⟨(xt_in (List.mem_of_getElem? (i := 494) (by decide +kernel)) rfl), (xt_in (List.mem_of_getElem? (i := 47) (by decide +kernel)) rfl), ⟨by decide +kernel, by decide +kernel, by decide +kernel⟩, by decide +kernel⟩
abbrev MX6_decode : XM := (yX6_decode, cX6_decode, 4, some .int, 5, 0, 0)
theorem lbX6_decode : xlB MX6_decode 3 := ⟨(xt_in (List.mem_of_getElem? (i := 505) (by decide +kernel)) rfl), (xt_in (List.mem_of_getElem? (i := 47) (by decide +kernel)) rfl), ⟨by decide +kernel, by decide +kernel, by decide +kernel⟩, by decide +kernel⟩
abbrev MX6_spoil : XM := (yX6_spoil, cX6_spoil, 4, some .int, 5, 0, 0)
theorem lbX6_spoil : xlB MX6_spoil 3 := ⟨(xt_in (List.mem_of_getElem? (i := 554) (by decide +kernel)) rfl), (xt_in (List.mem_of_getElem? (i := 47) (by decide +kernel)) rfl), ⟨by decide +kernel, by decide +kernel, by decide +kernel⟩, by decide +kernel⟩
abbrev MX6_audit : XM := (yX6_audit, cX6_audit, 5, some .int, 5, 0, 0)
theorem lbX6_audit : xlB MX6_audit 3 := ⟨(xt_in (List.mem_of_getElem? (i := 563) (by decide +kernel)) rfl), (xt_in (List.mem_of_getElem? (i := 47) (by decide +kernel)) rfl), ⟨by decide +kernel, by decide +kernel, by decide +kernel⟩, by decide +kernel⟩
abbrev MX6_passingSeeds : XM := (yX6_passingSeeds, cX6_passingSeeds, 5, some .int, 3, 0, 0)
theorem lbX6_passingSeeds : xlB MX6_passingSeeds 2 := ⟨(xt_in (List.mem_of_getElem? (i := 592) (by decide +kernel)) rfl), (xt_in (List.mem_of_getElem? (i := 47) (by decide +kernel)) rfl), ⟨by decide +kernel, by decide +kernel, by decide +kernel⟩, by decide +kernel⟩
abbrev MX6_repair : XM := (yX6_repair, cX6_repair, 2, some .int, 6, 0, 0)
theorem lbX6_repair : xlB MX6_repair 1 := ⟨(xt_in (List.mem_of_getElem? (i := 596) (by decide +kernel)) rfl), (xt_in (List.mem_of_getElem? (i := 47) (by decide +kernel)) rfl), ⟨by decide +kernel, by decide +kernel, by decide +kernel⟩, by decide +kernel⟩
abbrev MX6_repairAll : XM := (yX6_repairAll, cX6_repairAll, 4, some .int, 6, 0, 0)
theorem lbX6_repairAll : xlB MX6_repairAll 1 := ⟨(xt_in (List.mem_of_getElem? (i := 612) (by decide +kernel)) rfl), (xt_in (List.mem_of_getElem? (i := 47) (by decide +kernel)) rfl), ⟨by decide +kernel, by decide +kernel, by decide +kernel⟩, by decide +kernel⟩
abbrev MX6_undo : XM := (yX6_undo, cX6_undo, 1, some .int, 5, 0, 0)
theorem lbX6_undo : xlB MX6_undo 0 := ⟨(xt_in (List.mem_of_getElem? (i := 616) (by decide +kernel)) rfl), (xt_in (List.mem_of_getElem? (i := 47) (by decide +kernel)) rfl), ⟨by decide +kernel, by decide +kernel, by decide +kernel⟩, by decide +kernel⟩
abbrev MX6_tolerance : XM := (yX6_tolerance, cX6_tolerance, 3, some .int, 6, 0, 0)
theorem lbX6_tolerance : xlB MX6_tolerance 0 := ⟨(xt_in (List.mem_of_getElem? (i := 624) (by decide +kernel)) rfl), (xt_in (List.mem_of_getElem? (i := 47) (by decide +kernel)) rfl), ⟨by decide +kernel, by decide +kernel, by decide +kernel⟩, by decide +kernel⟩
abbrev MX6_endangered : XM := (yX6_endangered, cX6_endangered, 4, some .int, 6, 0, 0)
theorem lbX6_endangered : xlB MX6_endangered 1 := ⟨(xt_in (List.mem_of_getElem? (i := 643) (by decide +kernel)) rfl), (xt_in (List.mem_of_getElem? (i := 47) (by decide +kernel)) rfl), ⟨by decide +kernel, by decide +kernel, by decide +kernel⟩, by decide +kernel⟩
abbrev MX6_leavers : XM := (yX6_leavers, cX6_leavers, 2, some .int, 6, 0, 0)
theorem lbX6_leavers : xlB MX6_leavers 0 := ⟨(xt_in (List.mem_of_getElem? (i := 652) (by decide +kernel)) rfl), (xt_in (List.mem_of_getElem? (i := 47) (by decide +kernel)) rfl), ⟨by decide +kernel, by decide +kernel, by decide +kernel⟩, by decide +kernel⟩
abbrev MX6_count : XM := (yX6_count, cX6_count, 2, some .int, 6, 0, 0)
theorem lbX6_count : xlB MX6_count 1 := ⟨(xt_in (List.mem_of_getElem? (i := 661) (by decide +kernel)) rfl), (xt_in (List.mem_of_getElem? (i := 47) (by decide +kernel)) rfl), ⟨by decide +kernel, by decide +kernel, by decide +kernel⟩, by decide +kernel⟩
abbrev MX6_planNextLeaver : XM := (yX6_planNextLeaver, cX6_planNextLeaver, 2, some .boolean, 5, 0, 0)
theorem lbX6_planNextLeaver : xlB MX6_planNextLeaver 0 := ⟨(xt_in (List.mem_of_getElem? (i := 657) (by decide +kernel)) rfl), (xt_in (List.mem_of_getElem? (i := 47) (by decide +kernel)) rfl), ⟨by decide +kernel, by decide +kernel, by decide +kernel⟩, by decide +kernel⟩
abbrev MX6_power : XM := (yX6_power, cX6_power, 5, some .int, 0, 0, 0)
theorem lbX6_power : xlB MX6_power 2 := ⟨(xt_in (List.mem_of_getElem? (i := 425) (by decide +kernel)) rfl), (xt_in (List.mem_of_getElem? (i := 47) (by decide +kernel)) rfl), ⟨by decide +kernel, by decide +kernel, by decide +kernel⟩, by decide +kernel⟩
abbrev MX6_copyRow : XM := (yX6_copyRow, cX6_copyRow, 2, none, 1, 0, 0)
theorem lbX6_copyRow : xlB MX6_copyRow 2 := ⟨(xt_in (List.mem_of_getElem? (i := 238) (by decide +kernel)) rfl), (xt_in (List.mem_of_getElem? (i := 47) (by decide +kernel)) rfl), ⟨by decide +kernel, by decide +kernel, by decide +kernel⟩, by decide +kernel⟩
abbrev MX7_init : XM := (yX7_init, cX7_init, 1, none, 1, 5, 3554)
theorem lbX7_init : xlB MX7_init 0 := ⟨(xt_in (List.mem_of_getElem? (i := 699) (by decide +kernel)) rfl), (xt_in (List.mem_of_getElem? (i := 55) (by decide +kernel)) rfl), ⟨by decide +kernel, by decide +kernel, by decide +kernel⟩, by decide +kernel⟩
abbrev MX7_in : XM := (yX7_in, cX7_in, 3, some .boolean, 0, 0, 0)
theorem lbX7_in : xlB MX7_in 3 := ⟨(xt_in (List.mem_of_getElem? (i := 726) (by decide +kernel)) rfl), (xt_in (List.mem_of_getElem? (i := 55) (by decide +kernel)) rfl), ⟨by decide +kernel, by decide +kernel, by decide +kernel⟩, by decide +kernel⟩
abbrev MX7_isPeer : XM := (yX7_isPeer, cX7_isPeer, 2, some .boolean, 1, 0, 0)
theorem lbX7_isPeer : xlB MX7_isPeer 1 := ⟨(xt_in (List.mem_of_getElem? (i := 730) (by decide +kernel)) rfl), (xt_in (List.mem_of_getElem? (i := 55) (by decide +kernel)) rfl), ⟨by decide +kernel, by decide +kernel, by decide +kernel⟩, by decide +kernel⟩
abbrev MX7_isFile : XM := (yX7_isFile, cX7_isFile, 2, some .boolean, 2, 0, 0)
theorem lbX7_isFile : xlB MX7_isFile 1 := ⟨(xt_in (List.mem_of_getElem? (i := 746) (by decide +kernel)) rfl), (xt_in (List.mem_of_getElem? (i := 55) (by decide +kernel)) rfl), ⟨by decide +kernel, by decide +kernel, by decide +kernel⟩, by decide +kernel⟩
abbrev MX7_at : XM := (yX7_at, cX7_at, 2, some .int, 0, 0, 0)
theorem lbX7_at : xlB MX7_at 2 := ⟨(xt_in (List.mem_of_getElem? (i := 753) (by decide +kernel)) rfl), (xt_in (List.mem_of_getElem? (i := 55) (by decide +kernel)) rfl), ⟨by decide +kernel, by decide +kernel, by decide +kernel⟩, by decide +kernel⟩
abbrev MX7_of : XM := (yX7_of, cX7_of, 3, some .int, 1, 0, 0)
theorem lbX7_of : xlB MX7_of 2 := ⟨(xt_in (List.mem_of_getElem? (i := 750) (by decide +kernel)) rfl), (xt_in (List.mem_of_getElem? (i := 55) (by decide +kernel)) rfl), ⟨by decide +kernel, by decide +kernel, by decide +kernel⟩, by decide +kernel⟩
abbrev MX7_fragments : XM := (yX7_fragments, cX7_fragments, 2, some .int, 2, 0, 0)
theorem lbX7_fragments : xlB MX7_fragments 1 := ⟨(xt_in (List.mem_of_getElem? (i := 765) (by decide +kernel)) rfl), (xt_in (List.mem_of_getElem? (i := 55) (by decide +kernel)) rfl), ⟨by decide +kernel, by decide +kernel, by decide +kernel⟩, by decide +kernel⟩
abbrev MX7_isOnline : XM := (yX7_isOnline, cX7_isOnline, 2, some .boolean, 0, 0, 0)
theorem lbX7_isOnline : xlB MX7_isOnline 1 := ⟨(xt_in (List.mem_of_getElem? (i := 757) (by decide +kernel)) rfl), (xt_in (List.mem_of_getElem? (i := 55) (by decide +kernel)) rfl), ⟨by decide +kernel, by decide +kernel, by decide +kernel⟩, by decide +kernel⟩
abbrev MX7_keeps : XM := (yX7_keeps, cX7_keeps, 2, none, 0, 0, 0)
theorem lbX7_keeps : xlB MX7_keeps 0 := ⟨(xt_in (List.mem_of_getElem? (i := 734) (by decide +kernel)) rfl), (xt_in (List.mem_of_getElem? (i := 55) (by decide +kernel)) rfl), ⟨by decide +kernel, by decide +kernel, by decide +kernel⟩, by decide +kernel⟩
abbrev MX7_balanceAt : XM := (yX7_balanceAt, cX7_balanceAt, 2, some .int, 0, 0, 0)
theorem lbX7_balanceAt : xlB MX7_balanceAt 2 := ⟨(xt_in (List.mem_of_getElem? (i := 784) (by decide +kernel)) rfl), (xt_in (List.mem_of_getElem? (i := 55) (by decide +kernel)) rfl), ⟨by decide +kernel, by decide +kernel, by decide +kernel⟩, by decide +kernel⟩
abbrev MX7_owes : XM := (yX7_owes, cX7_owes, 4, none, 1, 0, 0)
theorem lbX7_owes : xlB MX7_owes 3 := ⟨(xt_in (List.mem_of_getElem? (i := 781) (by decide +kernel)) rfl), (xt_in (List.mem_of_getElem? (i := 55) (by decide +kernel)) rfl), ⟨by decide +kernel, by decide +kernel, by decide +kernel⟩, by decide +kernel⟩
abbrev MX7_free : XM := (yX7_free, cX7_free, 5, some .int, 3, 0, 0)
theorem lbX7_free : xlB MX7_free 1 := ⟨(xt_in (List.mem_of_getElem? (i := 773) (by decide +kernel)) rfl), (xt_in (List.mem_of_getElem? (i := 55) (by decide +kernel)) rfl), ⟨by decide +kernel, by decide +kernel, by decide +kernel⟩, by decide +kernel⟩
abbrev MX7_stores : XM := (yX7_stores, cX7_stores, 5, some .boolean, 3, 0, 0)
theorem lbX7_stores : xlB MX7_stores 2 := ⟨(xt_in (List.mem_of_getElem? (i := 777) (by decide +kernel)) rfl), (xt_in (List.mem_of_getElem? (i := 55) (by decide +kernel)) rfl), ⟨by decide +kernel, by decide +kernel, by decide +kernel⟩, by decide +kernel⟩
abbrev MX7_isGood : XM := (yX7_isGood, cX7_isGood, 4, some .boolean, 2, 0, 0)
theorem lbX7_isGood : xlB MX7_isGood 2 := ⟨(xt_in (List.mem_of_getElem? (i := 844) (by decide +kernel)) rfl), (xt_in (List.mem_of_getElem? (i := 55) (by decide +kernel)) rfl), ⟨by decide +kernel, by decide +kernel, by decide +kernel⟩, by decide +kernel⟩
abbrev MX7_good : XM := (yX7_good, cX7_good, 4, some .int, 3, 0, 0)
theorem lbX7_good : xlB MX7_good 1 := ⟨(xt_in (List.mem_of_getElem? (i := 840) (by decide +kernel)) rfl), (xt_in (List.mem_of_getElem? (i := 55) (by decide +kernel)) rfl), ⟨by decide +kernel, by decide +kernel, by decide +kernel⟩, by decide +kernel⟩
abbrev MX7_isSafe : XM := (yX7_isSafe, cX7_isSafe, 2, some .boolean, 4, 0, 0)
theorem lbX7_isSafe : xlB MX7_isSafe 1 := ⟨(xt_in (List.mem_of_getElem? (i := 848) (by decide +kernel)) rfl), (xt_in (List.mem_of_getElem? (i := 55) (by decide +kernel)) rfl), ⟨by decide +kernel, by decide +kernel, by decide +kernel⟩, by decide +kernel⟩
abbrev MX7_power : XM := (yX7_power, cX7_power, 4, some .int, 0, 0, 0)
theorem lbX7_power : xlB MX7_power 2 := ⟨(xt_in (List.mem_of_getElem? (i := 867) (by decide +kernel)) rfl), (xt_in (List.mem_of_getElem? (i := 55) (by decide +kernel)) rfl), ⟨by decide +kernel, by decide +kernel, by decide +kernel⟩, by decide +kernel⟩
abbrev MX7_correct : XM := (yX7_correct, cX7_correct, 6, some .int, 2, 0, 0)
theorem lbX7_correct : xlB MX7_correct 2 := ⟨(xt_in (List.mem_of_getElem? (i := 864) (by decide +kernel)) rfl), (xt_in (List.mem_of_getElem? (i := 55) (by decide +kernel)) rfl), ⟨by decide +kernel, by decide +kernel, by decide +kernel⟩, by decide +kernel⟩
abbrev MX7_valueOf : XM := (yX7_valueOf, cX7_valueOf, 3, some .int, 3, 0, 0)
theorem lbX7_valueOf : xlB MX7_valueOf 2 := ⟨(xt_in (List.mem_of_getElem? (i := 860) (by decide +kernel)) rfl), (xt_in (List.mem_of_getElem? (i := 55) (by decide +kernel)) rfl), ⟨by decide +kernel, by decide +kernel, by decide +kernel⟩, by decide +kernel⟩
abbrev MX7_places : XM := (yX7_places, cX7_places, 7, some .boolean, 4, 0, 0)
theorem lbX7_places : xlB MX7_places 3 := ⟨(xt_in (List.mem_of_getElem? (i := 769) (by decide +kernel)) rfl), (xt_in (List.mem_of_getElem? (i := 55) (by decide +kernel)) rfl), ⟨by decide +kernel, by decide +kernel, by decide +kernel⟩, by decide +kernel⟩
abbrev MX7_join : XM := (yX7_join, cX7_join, 3, some .int, 2, 0, 0)
theorem lbX7_join : xlB MX7_join 1 := ⟨(xt_in (List.mem_of_getElem? (i := 723) (by decide +kernel)) rfl), (xt_in (List.mem_of_getElem? (i := 55) (by decide +kernel)) rfl), ⟨by decide +kernel, by decide +kernel, by decide +kernel⟩, by decide +kernel⟩
abbrev MX7_owned : XM := (yX7_owned, cX7_owned, 4, some .int, 3, 0, 0)
theorem lbX7_owned : xlB MX7_owned 1 := ⟨(xt_in (List.mem_of_getElem? (i := 742) (by decide +kernel)) rfl), (xt_in (List.mem_of_getElem? (i := 55) (by decide +kernel)) rfl), ⟨by decide +kernel, by decide +kernel, by decide +kernel⟩, by decide +kernel⟩
abbrev MX7_goes : XM := (yX7_goes, cX7_goes, 3, none, 1, 0, 0)
theorem lbX7_goes : xlB MX7_goes 1 := ⟨(xt_in (List.mem_of_getElem? (i := 788) (by decide +kernel)) rfl), (xt_in (List.mem_of_getElem? (i := 55) (by decide +kernel)) rfl), ⟨by decide +kernel, by decide +kernel, by decide +kernel⟩, by decide +kernel⟩
abbrev MX7_leaves : XM := (yX7_leaves, cX7_leaves, 6, some .int, 5, 0, 0)
theorem lbX7_leaves : xlB MX7_leaves 1 := ⟨(xt_in (List.mem_of_getElem? (i := 761) (by decide +kernel)) rfl), (xt_in (List.mem_of_getElem? (i := 55) (by decide +kernel)) rfl), ⟨by decide +kernel, by decide +kernel, by decide +kernel⟩, by decide +kernel⟩
abbrev MX7_leave : XM := (yX7_leave, cX7_leave, 2, some .int, 6, 0, 0)
theorem lbX7_leave : xlB MX7_leave 1 := ⟨(xt_in (List.mem_of_getElem? (i := 738) (by decide +kernel)) rfl), (xt_in (List.mem_of_getElem? (i := 55) (by decide +kernel)) rfl), ⟨by decide +kernel, by decide +kernel, by decide +kernel⟩, by decide +kernel⟩
abbrev MX7_deletes : XM := (yX7_deletes, cX7_deletes, 3, none, 1, 0, 0)
theorem lbX7_deletes : xlB MX7_deletes 1 := ⟨(xt_in (List.mem_of_getElem? (i := 796) (by decide +kernel)) rfl), (xt_in (List.mem_of_getElem? (i := 55) (by decide +kernel)) rfl), ⟨by decide +kernel, by decide +kernel, by decide +kernel⟩, by decide +kernel⟩
abbrev MX7_crash : XM := (yX7_crash, cX7_crash, 5, some .int, 3, 0, 0)
theorem lbX7_crash : xlB MX7_crash 1 := ⟨(xt_in (List.mem_of_getElem? (i := 792) (by decide +kernel)) rfl), (xt_in (List.mem_of_getElem? (i := 55) (by decide +kernel)) rfl), ⟨by decide +kernel, by decide +kernel, by decide +kernel⟩, by decide +kernel⟩
abbrev MX7_setOnline : XM := (yX7_setOnline, cX7_setOnline, 4, some .int, 2, 0, 0)
theorem lbX7_setOnline : xlB MX7_setOnline 2 := ⟨(xt_in (List.mem_of_getElem? (i := 800) (by decide +kernel)) rfl), (xt_in (List.mem_of_getElem? (i := 55) (by decide +kernel)) rfl), ⟨by decide +kernel, by decide +kernel, by decide +kernel⟩, by decide +kernel⟩
abbrev MX7_pay : XM := (yX7_pay, cX7_pay, 4, some .int, 2, 0, 0)
theorem lbX7_pay : xlB MX7_pay 3 := ⟨(xt_in (List.mem_of_getElem? (i := 804) (by decide +kernel)) rfl), (xt_in (List.mem_of_getElem? (i := 55) (by decide +kernel)) rfl), ⟨by decide +kernel, by decide +kernel, by decide +kernel⟩, by decide +kernel⟩
abbrev MX7_peerInfo : XM := (yX7_peerInfo, cX7_peerInfo, 5, some .int, 4, 0, 0)
theorem lbX7_peerInfo : xlB MX7_peerInfo 2 := ⟨(xt_in (List.mem_of_getElem? (i := 808) (by decide +kernel)) rfl), (xt_in (List.mem_of_getElem? (i := 55) (by decide +kernel)) rfl), ⟨by decide +kernel, by decide +kernel, by decide +kernel⟩, by decide +kernel⟩
abbrev MX7_balance : XM := (yX7_balance, cX7_balance, 3, some .int, 2, 0, 0)
theorem lbX7_balance : xlB MX7_balance 2 := ⟨(xt_in (List.mem_of_getElem? (i := 812) (by decide +kernel)) rfl), (xt_in (List.mem_of_getElem? (i := 55) (by decide +kernel)) rfl), ⟨by decide +kernel, by decide +kernel, by decide +kernel⟩, by decide +kernel⟩
abbrev MX7_word : XM := (yX7_word, cX7_word, 2, some .int, 1, 0, 0)
theorem lbX7_word : xlB MX7_word 1 := ⟨(xt_in (List.mem_of_getElem? (i := 816) (by decide +kernel)) rfl), (xt_in (List.mem_of_getElem? (i := 55) (by decide +kernel)) rfl), ⟨by decide +kernel, by decide +kernel, by decide +kernel⟩, by decide +kernel⟩
abbrev MX7_files : XM := (yX7_files, cX7_files, 3, some .int, 3, 0, 0)
theorem lbX7_files : xlB MX7_files 0 := ⟨(xt_in (List.mem_of_getElem? (i := 824) (by decide +kernel)) rfl), (xt_in (List.mem_of_getElem? (i := 55) (by decide +kernel)) rfl), ⟨by decide +kernel, by decide +kernel, by decide +kernel⟩, by decide +kernel⟩
abbrev MX7_store : XM := (yX7_store, cX7_store, 5, some .int, 5, 0, 0)
theorem lbX7_store : xlB MX7_store 2 := ⟨(xt_in (List.mem_of_getElem? (i := 820) (by decide +kernel)) rfl), (xt_in (List.mem_of_getElem? (i := 55) (by decide +kernel)) rfl), ⟨by decide +kernel, by decide +kernel, by decide +kernel⟩, by decide +kernel⟩
abbrev MX7_delete : XM := (yX7_delete, cX7_delete, 2, some .int, 4, 0, 0)
theorem lbX7_delete : xlB MX7_delete 1 := ⟨(xt_in (List.mem_of_getElem? (i := 828) (by decide +kernel)) rfl), (xt_in (List.mem_of_getElem? (i := 55) (by decide +kernel)) rfl), ⟨by decide +kernel, by decide +kernel, by decide +kernel⟩, by decide +kernel⟩
abbrev MX7_storedOf : XM := (yX7_storedOf, cX7_storedOf, 4, some .int, 3, 0, 0)
theorem lbX7_storedOf : xlB MX7_storedOf 1 := ⟨(xt_in (List.mem_of_getElem? (i := 836) (by decide +kernel)) rfl), (xt_in (List.mem_of_getElem? (i := 55) (by decide +kernel)) rfl), ⟨by decide +kernel, by decide +kernel, by decide +kernel⟩, by decide +kernel⟩
abbrev MX7_fileInfo : XM := (yX7_fileInfo, cX7_fileInfo, 3, some .int, 5, 0, 0)
theorem lbX7_fileInfo : xlB MX7_fileInfo 2 := ⟨(xt_in (List.mem_of_getElem? (i := 832) (by decide +kernel)) rfl), (xt_in (List.mem_of_getElem? (i := 55) (by decide +kernel)) rfl), ⟨by decide +kernel, by decide +kernel, by decide +kernel⟩, by decide +kernel⟩
abbrev MX7_isFragment : XM := (yX7_isFragment, cX7_isFragment, 3, some .boolean, 3, 0, 0)
theorem lbX7_isFragment : xlB MX7_isFragment 2 := ⟨(xt_in (List.mem_of_getElem? (i := 856) (by decide +kernel)) rfl), (xt_in (List.mem_of_getElem? (i := 55) (by decide +kernel)) rfl), ⟨by decide +kernel, by decide +kernel, by decide +kernel⟩, by decide +kernel⟩
abbrev MX7_fragment : XM := (yX7_fragment, cX7_fragment, 4, some .int, 4, 0, 0)
theorem lbX7_fragment : xlB MX7_fragment 3 := ⟨(xt_in (List.mem_of_getElem? (i := 852) (by decide +kernel)) rfl), (xt_in (List.mem_of_getElem? (i := 55) (by decide +kernel)) rfl), ⟨by decide +kernel, by decide +kernel, by decide +kernel⟩, by decide +kernel⟩
abbrev MX7_read : XM := (yX7_read, cX7_read, 3, some .int, 5, 0, 0)
theorem lbX7_read : xlB MX7_read 2 := ⟨(xt_in (List.mem_of_getElem? (i := 871) (by decide +kernel)) rfl), (xt_in (List.mem_of_getElem? (i := 55) (by decide +kernel)) rfl), ⟨by decide +kernel, by decide +kernel, by decide +kernel⟩, by decide +kernel⟩
abbrev MX7_solves : XM := (yX7_solves, cX7_solves, 8, none, 1, 0, 0)
theorem lbX7_solves : xlB MX7_solves 1 := ⟨(xt_in (List.mem_of_getElem? (i := 879) (by decide +kernel)) rfl), (xt_in (List.mem_of_getElem? (i := 55) (by decide +kernel)) rfl), ⟨by decide +kernel, by decide +kernel, by decide +kernel⟩, by decide +kernel⟩
abbrev MX7_decode : XM := (yX7_decode, cX7_decode, 10, some .int, 4, 0, 0)
theorem lbX7_decode : xlB MX7_decode 3 := ⟨(xt_in (List.mem_of_getElem? (i := 875) (by decide +kernel)) rfl), (xt_in (List.mem_of_getElem? (i := 55) (by decide +kernel)) rfl), ⟨by decide +kernel, by decide +kernel, by decide +kernel⟩, by decide +kernel⟩
abbrev MX7_spoil : XM := (yX7_spoil, cX7_spoil, 5, some .int, 4, 0, 0)
theorem lbX7_spoil : xlB MX7_spoil 3 := ⟨(xt_in (List.mem_of_getElem? (i := 883) (by decide +kernel)) rfl), (xt_in (List.mem_of_getElem? (i := 55) (by decide +kernel)) rfl), ⟨by decide +kernel, by decide +kernel, by decide +kernel⟩, by decide +kernel⟩
abbrev MX7_off : XM := (yX7_off, cX7_off, 9, some .int, 3, 0, 0)
theorem lbX7_off : xlB MX7_off 3 := ⟨(xt_in (List.mem_of_getElem? (i := 895) (by decide +kernel)) rfl), (xt_in (List.mem_of_getElem? (i := 55) (by decide +kernel)) rfl), ⟨by decide +kernel, by decide +kernel, by decide +kernel⟩, by decide +kernel⟩
abbrev MX7_arePeers : XM := (yX7_arePeers, cX7_arePeers, 3, some .boolean, 2, 0, 0)
theorem lbX7_arePeers : xlB MX7_arePeers 2 := ⟨(xt_in (List.mem_of_getElem? (i := 891) (by decide +kernel)) rfl), (xt_in (List.mem_of_getElem? (i := 55) (by decide +kernel)) rfl), ⟨by decide +kernel, by decide +kernel, by decide +kernel⟩, by decide +kernel⟩
abbrev MX7_audit : XM := (yX7_audit, cX7_audit, 6, some .int, 4, 0, 0)
theorem lbX7_audit : xlB MX7_audit 3 := ⟨(xt_in (List.mem_of_getElem? (i := 887) (by decide +kernel)) rfl), (xt_in (List.mem_of_getElem? (i := 55) (by decide +kernel)) rfl), ⟨by decide +kernel, by decide +kernel, by decide +kernel⟩, by decide +kernel⟩
abbrev MX7_passingSeeds : XM := (yX7_passingSeeds, cX7_passingSeeds, 5, some .int, 4, 0, 0)
theorem lbX7_passingSeeds : xlB MX7_passingSeeds 2 := ⟨(xt_in (List.mem_of_getElem? (i := 899) (by decide +kernel)) rfl), (xt_in (List.mem_of_getElem? (i := 55) (by decide +kernel)) rfl), ⟨by decide +kernel, by decide +kernel, by decide +kernel⟩, by decide +kernel⟩
abbrev MX7_sources : XM := (yX7_sources, cX7_sources, 5, some .int, 3, 0, 0)
theorem lbX7_sources : xlB MX7_sources 1 := ⟨(xt_in (List.mem_of_getElem? (i := 911) (by decide +kernel)) rfl), (xt_in (List.mem_of_getElem? (i := 55) (by decide +kernel)) rfl), ⟨by decide +kernel, by decide +kernel, by decide +kernel⟩, by decide +kernel⟩
abbrev MX7_repairs : XM := (yX7_repairs, cX7_repairs, 6, some .int, 5, 0, 0)
theorem lbX7_repairs : xlB MX7_repairs 1 := ⟨(xt_in (List.mem_of_getElem? (i := 907) (by decide +kernel)) rfl), (xt_in (List.mem_of_getElem? (i := 55) (by decide +kernel)) rfl), ⟨by decide +kernel, by decide +kernel, by decide +kernel⟩, by decide +kernel⟩
abbrev MX7_repair : XM := (yX7_repair, cX7_repair, 2, some .int, 6, 0, 0)
theorem lbX7_repair : xlB MX7_repair 1 := ⟨(xt_in (List.mem_of_getElem? (i := 903) (by decide +kernel)) rfl), (xt_in (List.mem_of_getElem? (i := 55) (by decide +kernel)) rfl), ⟨by decide +kernel, by decide +kernel, by decide +kernel⟩, by decide +kernel⟩
abbrev MX7_repairAll : XM := (yX7_repairAll, cX7_repairAll, 4, some .int, 6, 0, 0)
theorem lbX7_repairAll : xlB MX7_repairAll 1 := ⟨(xt_in (List.mem_of_getElem? (i := 915) (by decide +kernel)) rfl), (xt_in (List.mem_of_getElem? (i := 55) (by decide +kernel)) rfl), ⟨by decide +kernel, by decide +kernel, by decide +kernel⟩, by decide +kernel⟩
abbrev MX7_undo : XM := (yX7_undo, cX7_undo, 2, some .int, 0, 0, 0)
theorem lbX7_undo : xlB MX7_undo 0 := ⟨(xt_in (List.mem_of_getElem? (i := 919) (by decide +kernel)) rfl), (xt_in (List.mem_of_getElem? (i := 55) (by decide +kernel)) rfl), ⟨by decide +kernel, by decide +kernel, by decide +kernel⟩, by decide +kernel⟩
abbrev MX7_count1 : XM := (yX7_count1, cX7_count1, 3, some .int, 0, 0, 0)
theorem lbX7_count1 : xlB MX7_count1 1 := ⟨(xt_in (List.mem_of_getElem? (i := 930) (by decide +kernel)) rfl), (xt_in (List.mem_of_getElem? (i := 55) (by decide +kernel)) rfl), ⟨by decide +kernel, by decide +kernel, by decide +kernel⟩, by decide +kernel⟩
abbrev MX7_isHurt : XM := (yX7_isHurt, cX7_isHurt, 5, some .boolean, 5, 0, 0)
theorem lbX7_isHurt : xlB MX7_isHurt 2 := ⟨(xt_in (List.mem_of_getElem? (i := 938) (by decide +kernel)) rfl), (xt_in (List.mem_of_getElem? (i := 55) (by decide +kernel)) rfl), ⟨by decide +kernel, by decide +kernel, by decide +kernel⟩, by decide +kernel⟩
abbrev MX7_peerSet : XM := (yX7_peerSet, cX7_peerSet, 3, some .int, 2, 0, 0)
theorem lbX7_peerSet : xlB MX7_peerSet 0 := ⟨(xt_in (List.mem_of_getElem? (i := 927) (by decide +kernel)) rfl), (xt_in (List.mem_of_getElem? (i := 55) (by decide +kernel)) rfl), ⟨by decide +kernel, by decide +kernel, by decide +kernel⟩, by decide +kernel⟩
abbrev MX7_isBorne : XM := (yX7_isBorne, cX7_isBorne, 5, some .boolean, 6, 0, 0)
theorem lbX7_isBorne : xlB MX7_isBorne 1 := ⟨(xt_in (List.mem_of_getElem? (i := 934) (by decide +kernel)) rfl), (xt_in (List.mem_of_getElem? (i := 55) (by decide +kernel)) rfl), ⟨by decide +kernel, by decide +kernel, by decide +kernel⟩, by decide +kernel⟩
abbrev MX7_tolerance : XM := (yX7_tolerance, cX7_tolerance, 4, some .int, 7, 0, 0)
theorem lbX7_tolerance : xlB MX7_tolerance 0 := ⟨(xt_in (List.mem_of_getElem? (i := 923) (by decide +kernel)) rfl), (xt_in (List.mem_of_getElem? (i := 55) (by decide +kernel)) rfl), ⟨by decide +kernel, by decide +kernel, by decide +kernel⟩, by decide +kernel⟩
abbrev MX7_endangered : XM := (yX7_endangered, cX7_endangered, 6, some .int, 5, 0, 0)
theorem lbX7_endangered : xlB MX7_endangered 1 := ⟨(xt_in (List.mem_of_getElem? (i := 942) (by decide +kernel)) rfl), (xt_in (List.mem_of_getElem? (i := 55) (by decide +kernel)) rfl), ⟨by decide +kernel, by decide +kernel, by decide +kernel⟩, by decide +kernel⟩
abbrev MX7_puts : XM := (yX7_puts, cX7_puts, 3, none, 0, 0, 0)
theorem lbX7_puts : xlB MX7_puts 2 := ⟨(xt_in (List.mem_of_getElem? (i := 949) (by decide +kernel)) rfl), (xt_in (List.mem_of_getElem? (i := 55) (by decide +kernel)) rfl), ⟨by decide +kernel, by decide +kernel, by decide +kernel⟩, by decide +kernel⟩
abbrev MX7_canGo : XM := (yX7_canGo, cX7_canGo, 2, some .boolean, 6, 0, 0)
theorem lbX7_canGo : xlB MX7_canGo 1 := ⟨(xt_in (List.mem_of_getElem? (i := 953) (by decide +kernel)) rfl), (xt_in (List.mem_of_getElem? (i := 55) (by decide +kernel)) rfl), ⟨by decide +kernel, by decide +kernel, by decide +kernel⟩, by decide +kernel⟩
abbrev MX7_leavers : XM := (yX7_leavers, cX7_leavers, 4, some .int, 7, 0, 0)
theorem lbX7_leavers : xlB MX7_leavers 0 := ⟨(xt_in (List.mem_of_getElem? (i := 946) (by decide +kernel)) rfl), (xt_in (List.mem_of_getElem? (i := 55) (by decide +kernel)) rfl), ⟨by decide +kernel, by decide +kernel, by decide +kernel⟩, by decide +kernel⟩
abbrev MX7_count : XM := (yX7_count, cX7_count, 9, some .int, 5, 0, 0)
theorem lbX7_count : xlB MX7_count 1 := ⟨(xt_in (List.mem_of_getElem? (i := 957) (by decide +kernel)) rfl), (xt_in (List.mem_of_getElem? (i := 55) (by decide +kernel)) rfl), ⟨by decide +kernel, by decide +kernel, by decide +kernel⟩, by decide +kernel⟩
abbrev MJ6_bitCount_0f7a4 : XM := (yJ6_bitCount_0f7a4, cJ6_bitCount_0f7a4, 1, some .int, 0, 0, 0)
theorem lbJ6_bitCount_0f7a4 : xlB MJ6_bitCount_0f7a4 1 := ⟨(xt_in (List.mem_of_getElem? (i := 512) (by decide +kernel)) rfl), (xt_in (List.mem_of_getElem? (i := 58) (by decide +kernel)) rfl), ⟨by decide +kernel, by decide +kernel, by decide +kernel⟩, by decide +kernel⟩
abbrev MJ7_fill_53178 : XM := (yJ7_fill_53178, cJ7_fill_53178, 4, none, 0, 0, 0)
theorem lbJ7_fill_53178 : xlB MJ7_fill_53178 2 := ⟨(xt_in (List.mem_of_getElem? (i := 107) (by decide +kernel)) rfl), (xt_in (List.mem_of_getElem? (i := 51) (by decide +kernel)) rfl), ⟨by decide +kernel, by decide +kernel, by decide +kernel⟩, by decide +kernel⟩
theorem flX4_9 : xfl RX4 9 4 0 := ⟨_, rfl, by decide, (xt_in (List.mem_of_getElem? (i := 79) (by decide +kernel)) rfl)⟩
theorem flX6_91 : xfl RX6 91 4 0 := ⟨_, rfl, by decide, (xt_in (List.mem_of_getElem? (i := 80) (by decide +kernel)) rfl)⟩
theorem flX4_15 : xfl RX4 15 4 1 := ⟨_, rfl, by decide, (xt_in (List.mem_of_getElem? (i := 81) (by decide +kernel)) rfl)⟩
theorem flX6_75 : xfl RX6 75 4 1 := ⟨_, rfl, by decide, (xt_in (List.mem_of_getElem? (i := 82) (by decide +kernel)) rfl)⟩
theorem flX4_18 : xfl RX4 18 4 2 := ⟨_, rfl, by decide, (xt_in (List.mem_of_getElem? (i := 83) (by decide +kernel)) rfl)⟩
theorem flX6_97 : xfl RX6 97 4 2 := ⟨_, rfl, by decide, (xt_in (List.mem_of_getElem? (i := 84) (by decide +kernel)) rfl)⟩
theorem flX4_21 : xfl RX4 21 4 3 := ⟨_, rfl, by decide, (xt_in (List.mem_of_getElem? (i := 85) (by decide +kernel)) rfl)⟩
theorem flX4_24 : xfl RX4 24 4 4 := ⟨_, rfl, by decide, (xt_in (List.mem_of_getElem? (i := 86) (by decide +kernel)) rfl)⟩
theorem flX2_9 : xfl RX2 9 2 0 := ⟨_, rfl, by decide, (xt_in (List.mem_of_getElem? (i := 108) (by decide +kernel)) rfl)⟩
theorem flX2_15 : xfl RX2 15 2 1 := ⟨_, rfl, by decide, (xt_in (List.mem_of_getElem? (i := 109) (by decide +kernel)) rfl)⟩
theorem flX6_140 : xfl RX6 140 2 1 := ⟨_, rfl, by decide, (xt_in (List.mem_of_getElem? (i := 110) (by decide +kernel)) rfl)⟩
theorem flX2_18 : xfl RX2 18 2 2 := ⟨_, rfl, by decide, (xt_in (List.mem_of_getElem? (i := 111) (by decide +kernel)) rfl)⟩
theorem flX6_134 : xfl RX6 134 2 2 := ⟨_, rfl, by decide, (xt_in (List.mem_of_getElem? (i := 112) (by decide +kernel)) rfl)⟩
theorem flX2_21 : xfl RX2 21 2 3 := ⟨_, rfl, by decide, (xt_in (List.mem_of_getElem? (i := 113) (by decide +kernel)) rfl)⟩
theorem flX2_24 : xfl RX2 24 2 4 := ⟨_, rfl, by decide, (xt_in (List.mem_of_getElem? (i := 114) (by decide +kernel)) rfl)⟩
theorem flX2_27 : xfl RX2 27 2 5 := ⟨_, rfl, by decide, (xt_in (List.mem_of_getElem? (i := 115) (by decide +kernel)) rfl)⟩
theorem flX5_12 : xfl RX5 12 5 0 := ⟨_, rfl, by decide, (xt_in (List.mem_of_getElem? (i := 129) (by decide +kernel)) rfl)⟩
theorem flX6_43 : xfl RX6 43 5 0 := ⟨_, rfl, by decide, (xt_in (List.mem_of_getElem? (i := 130) (by decide +kernel)) rfl)⟩
theorem flX5_21 : xfl RX5 21 5 1 := ⟨_, rfl, by decide, (xt_in (List.mem_of_getElem? (i := 131) (by decide +kernel)) rfl)⟩
theorem flX6_100 : xfl RX6 100 5 1 := ⟨_, rfl, by decide, (xt_in (List.mem_of_getElem? (i := 132) (by decide +kernel)) rfl)⟩
theorem flX5_25 : xfl RX5 25 5 2 := ⟨_, rfl, by decide, (xt_in (List.mem_of_getElem? (i := 133) (by decide +kernel)) rfl)⟩
theorem flX5_40 : xfl RX5 40 5 3 := ⟨_, rfl, by decide, (xt_in (List.mem_of_getElem? (i := 134) (by decide +kernel)) rfl)⟩
theorem flX6_112 : xfl RX6 112 5 3 := ⟨_, rfl, by decide, (xt_in (List.mem_of_getElem? (i := 135) (by decide +kernel)) rfl)⟩
theorem flX3_11 : xfl RX3 11 3 0 := ⟨_, rfl, by decide, (xt_in (List.mem_of_getElem? (i := 154) (by decide +kernel)) rfl)⟩
theorem flX3_18 : xfl RX3 18 3 1 := ⟨_, rfl, by decide, (xt_in (List.mem_of_getElem? (i := 155) (by decide +kernel)) rfl)⟩
theorem flX6_207 : xfl RX6 207 3 1 := ⟨_, rfl, by decide, (xt_in (List.mem_of_getElem? (i := 156) (by decide +kernel)) rfl)⟩
theorem flX0_9 : xfl RX0 9 0 0 := ⟨_, rfl, by decide, (xt_in (List.mem_of_getElem? (i := 168) (by decide +kernel)) rfl)⟩
theorem flX0_15 : xfl RX0 15 0 1 := ⟨_, rfl, by decide, (xt_in (List.mem_of_getElem? (i := 169) (by decide +kernel)) rfl)⟩
theorem flX6_199 : xfl RX6 199 0 1 := ⟨_, rfl, by decide, (xt_in (List.mem_of_getElem? (i := 170) (by decide +kernel)) rfl)⟩
theorem flX1_11 : xfl RX1 11 1 0 := ⟨_, rfl, by decide, (xt_in (List.mem_of_getElem? (i := 182) (by decide +kernel)) rfl)⟩
theorem flX1_19 : xfl RX1 19 1 1 := ⟨_, rfl, by decide, (xt_in (List.mem_of_getElem? (i := 183) (by decide +kernel)) rfl)⟩
theorem flX6_12 : xfl RX6 12 6 0 := ⟨_, rfl, by decide, (xt_in (List.mem_of_getElem? (i := 189) (by decide +kernel)) rfl)⟩
theorem flX6_19 : xfl RX6 19 6 1 := ⟨_, rfl, by decide, (xt_in (List.mem_of_getElem? (i := 190) (by decide +kernel)) rfl)⟩
theorem flX6_26 : xfl RX6 26 6 2 := ⟨_, rfl, by decide, (xt_in (List.mem_of_getElem? (i := 191) (by decide +kernel)) rfl)⟩
theorem flX6_33 : xfl RX6 33 6 3 := ⟨_, rfl, by decide, (xt_in (List.mem_of_getElem? (i := 192) (by decide +kernel)) rfl)⟩
theorem flX6_37 : xfl RX6 37 6 4 := ⟨_, rfl, by decide, (xt_in (List.mem_of_getElem? (i := 193) (by decide +kernel)) rfl)⟩
theorem flX6_40 : xfl RX6 40 6 5 := ⟨_, rfl, by decide, (xt_in (List.mem_of_getElem? (i := 194) (by decide +kernel)) rfl)⟩
theorem flX7_7 : xfl RX7 7 7 0 := ⟨_, rfl, by decide, (xt_in (List.mem_of_getElem? (i := 701) (by decide +kernel)) rfl)⟩
theorem flX7_13 : xfl RX7 13 7 1 := ⟨_, rfl, by decide, (xt_in (List.mem_of_getElem? (i := 702) (by decide +kernel)) rfl)⟩
theorem flX7_16 : xfl RX7 16 7 2 := ⟨_, rfl, by decide, (xt_in (List.mem_of_getElem? (i := 703) (by decide +kernel)) rfl)⟩
theorem flX7_19 : xfl RX7 19 7 3 := ⟨_, rfl, by decide, (xt_in (List.mem_of_getElem? (i := 704) (by decide +kernel)) rfl)⟩
theorem flX7_36 : xfl RX7 36 7 4 := ⟨_, rfl, by decide, (xt_in (List.mem_of_getElem? (i := 705) (by decide +kernel)) rfl)⟩
theorem flX7_22 : xfl RX7 22 7 5 := ⟨_, rfl, by decide, (xt_in (List.mem_of_getElem? (i := 706) (by decide +kernel)) rfl)⟩
theorem mlX0_3 : Cond.methodLink RX0 3 Lib.objectInit ∈ xt := (xt_in (List.mem_of_getElem? (i := 167) (by decide +kernel)) rfl)
theorem mlX0_19 : xlV RX0 19 MX2_fragmentOn := ⟨(xt_in (List.mem_of_getElem? (i := 568) (by decide +kernel)) rfl), (xt_in (List.mem_of_getElem? (i := 285) (by decide +kernel)) rfl), (xt_in (List.mem_of_getElem? (i := 286) (by decide +kernel)) rfl)⟩
theorem mlX0_25 : xlV RX0 25 MX2_ownerOf := ⟨(xt_in (List.mem_of_getElem? (i := 569) (by decide +kernel)) rfl), (xt_in (List.mem_of_getElem? (i := 277) (by decide +kernel)) rfl), (xt_in (List.mem_of_getElem? (i := 278) (by decide +kernel)) rfl)⟩
theorem mlX0_29 : xlV RX0 29 MX2_errorOf := ⟨(xt_in (List.mem_of_getElem? (i := 570) (by decide +kernel)) rfl), (xt_in (List.mem_of_getElem? (i := 306) (by decide +kernel)) rfl), (xt_in (List.mem_of_getElem? (i := 307) (by decide +kernel)) rfl)⟩
theorem mlX0_32 : xlV RX0 32 MX0_append := ⟨(xt_in (List.mem_of_getElem? (i := 571) (by decide +kernel)) rfl), (xt_in (List.mem_of_getElem? (i := 573) (by decide +kernel)) rfl), (xt_in (List.mem_of_getElem? (i := 10) (by decide +kernel)) rfl)⟩
theorem mlX0_36 : Cond.methodLink RX0 36 Lib.Math.min.name ∈ xt := (xt_in (List.mem_of_getElem? (i := 579) (by decide +kernel)) rfl)
theorem mlX1_3 : Cond.methodLink RX1 3 Lib.objectInit ∈ xt := (xt_in (List.mem_of_getElem? (i := 181) (by decide +kernel)) rfl)
theorem mlX1_15 : xlV RX1 15 MX1_setUp := ⟨(xt_in (List.mem_of_getElem? (i := 524) (by decide +kernel)) rfl), (xt_in (List.mem_of_getElem? (i := 526) (by decide +kernel)) rfl), (xt_in (List.mem_of_getElem? (i := 5) (by decide +kernel)) rfl)⟩
theorem mlX1_23 : xlV RX1 23 MX1_eliminate := ⟨(xt_in (List.mem_of_getElem? (i := 535) (by decide +kernel)) rfl), (xt_in (List.mem_of_getElem? (i := 537) (by decide +kernel)) rfl), (xt_in (List.mem_of_getElem? (i := 6) (by decide +kernel)) rfl)⟩
theorem mlX1_27 : xlS RX1 27 MJ6_bitCount_0f7a4 := ⟨(xt_in (List.mem_of_getElem? (i := 528) (by decide +kernel)) rfl), (xt_in (List.mem_of_getElem? (i := 511) (by decide +kernel)) rfl)⟩
theorem mlX1_33 : Cond.methodLink RX1 33 Lib.Math.min.name ∈ xt := (xt_in (List.mem_of_getElem? (i := 529) (by decide +kernel)) rfl)
theorem mlX1_39 : xlS RX1 39 MX1_factor := ⟨(xt_in (List.mem_of_getElem? (i := 530) (by decide +kernel)) rfl), (xt_in (List.mem_of_getElem? (i := 531) (by decide +kernel)) rfl)⟩
theorem mlX1_43 : xlV RX1 43 MX2_storedValue := ⟨(xt_in (List.mem_of_getElem? (i := 534) (by decide +kernel)) rfl), (xt_in (List.mem_of_getElem? (i := 483) (by decide +kernel)) rfl), (xt_in (List.mem_of_getElem? (i := 484) (by decide +kernel)) rfl)⟩
theorem mlX1_48 : xlSN RX1 48 MX6_power := ⟨(List.mem_of_getElem? (i := 533) (by decide +kernel)), (xt_in (List.mem_of_getElem? (i := 424) (by decide +kernel)) rfl)⟩
theorem mlX1_51 : xlV RX1 51 MX1_swapRows := ⟨(xt_in (List.mem_of_getElem? (i := 539) (by decide +kernel)) rfl), (xt_in (List.mem_of_getElem? (i := 541) (by decide +kernel)) rfl), (xt_in (List.mem_of_getElem? (i := 7) (by decide +kernel)) rfl)⟩
theorem mlX1_55 : xlV RX1 55 MX1_scaleRow := ⟨(xt_in (List.mem_of_getElem? (i := 543) (by decide +kernel)) rfl), (xt_in (List.mem_of_getElem? (i := 545) (by decide +kernel)) rfl), (xt_in (List.mem_of_getElem? (i := 8) (by decide +kernel)) rfl)⟩
theorem mlX1_58 : xlV RX1 58 MX1_subtractRow := ⟨(xt_in (List.mem_of_getElem? (i := 547) (by decide +kernel)) rfl), (xt_in (List.mem_of_getElem? (i := 549) (by decide +kernel)) rfl), (xt_in (List.mem_of_getElem? (i := 9) (by decide +kernel)) rfl)⟩
theorem mlX2_3 : Cond.methodLink RX2 3 Lib.objectInit ∈ xt := (xt_in (List.mem_of_getElem? (i := 104) (by decide +kernel)) rfl)
theorem mlX2_30 : xlS RX2 30 MJ7_fill_53178 := ⟨(xt_in (List.mem_of_getElem? (i := 105) (by decide +kernel)) rfl), (xt_in (List.mem_of_getElem? (i := 106) (by decide +kernel)) rfl)⟩
theorem mlX2_36 : xlSN RX2 36 MX6_copyRow := ⟨(List.mem_of_getElem? (i := 249) (by decide +kernel)), (xt_in (List.mem_of_getElem? (i := 237) (by decide +kernel)) rfl)⟩
theorem mlX2_40 : xlV RX2 40 MX2_fragmentNumber := ⟨(xt_in (List.mem_of_getElem? (i := 448) (by decide +kernel)) rfl), (xt_in (List.mem_of_getElem? (i := 354) (by decide +kernel)) rfl), (xt_in (List.mem_of_getElem? (i := 355) (by decide +kernel)) rfl)⟩
theorem mlX2_44 : xlV RX2 44 MX2_dataOf := ⟨(xt_in (List.mem_of_getElem? (i := 499) (by decide +kernel)) rfl), (xt_in (List.mem_of_getElem? (i := 441) (by decide +kernel)) rfl), (xt_in (List.mem_of_getElem? (i := 442) (by decide +kernel)) rfl)⟩
theorem mlX2_47 : xlS RX2 47 MX2_isInRows := ⟨(xt_in (List.mem_of_getElem? (i := 309) (by decide +kernel)) rfl), (xt_in (List.mem_of_getElem? (i := 310) (by decide +kernel)) rfl)⟩
theorem mlX2_51 : xlV RX2 51 MX2_correctValue := ⟨(xt_in (List.mem_of_getElem? (i := 486) (by decide +kernel)) rfl), (xt_in (List.mem_of_getElem? (i := 487) (by decide +kernel)) rfl), (xt_in (List.mem_of_getElem? (i := 488) (by decide +kernel)) rfl)⟩
theorem mlX2_55 : xlV RX2 55 MX2_errorOf := ⟨(xt_in (List.mem_of_getElem? (i := 490) (by decide +kernel)) rfl), (xt_in (List.mem_of_getElem? (i := 306) (by decide +kernel)) rfl), (xt_in (List.mem_of_getElem? (i := 307) (by decide +kernel)) rfl)⟩
theorem mlX2_58 : xlV RX2 58 MX2_placeOf := ⟨(xt_in (List.mem_of_getElem? (i := 453) (by decide +kernel)) rfl), (xt_in (List.mem_of_getElem? (i := 317) (by decide +kernel)) rfl), (xt_in (List.mem_of_getElem? (i := 318) (by decide +kernel)) rfl)⟩
theorem mlX2_61 : xlV RX2 61 MX2_isStored := ⟨(xt_in (List.mem_of_getElem? (i := 449) (by decide +kernel)) rfl), (xt_in (List.mem_of_getElem? (i := 450) (by decide +kernel)) rfl), (xt_in (List.mem_of_getElem? (i := 451) (by decide +kernel)) rfl)⟩
theorem mlX2_64 : xlV RX2 64 MX2_exists := ⟨(xt_in (List.mem_of_getElem? (i := 272) (by decide +kernel)) rfl), (xt_in (List.mem_of_getElem? (i := 273) (by decide +kernel)) rfl), (xt_in (List.mem_of_getElem? (i := 274) (by decide +kernel)) rfl)⟩
theorem mlX2_68 : xlV RX2 68 MX2_ownerOf := ⟨(xt_in (List.mem_of_getElem? (i := 276) (by decide +kernel)) rfl), (xt_in (List.mem_of_getElem? (i := 277) (by decide +kernel)) rfl), (xt_in (List.mem_of_getElem? (i := 278) (by decide +kernel)) rfl)⟩
theorem mlX2_71 : xlV RX2 71 MX2_isSpoiled := ⟨(xt_in (List.mem_of_getElem? (i := 679) (by decide +kernel)) rfl), (xt_in (List.mem_of_getElem? (i := 680) (by decide +kernel)) rfl), (xt_in (List.mem_of_getElem? (i := 681) (by decide +kernel)) rfl)⟩
theorem mlX2_74 : xlV RX2 74 MX2_storedNumber := ⟨(xt_in (List.mem_of_getElem? (i := 670) (by decide +kernel)) rfl), (xt_in (List.mem_of_getElem? (i := 445) (by decide +kernel)) rfl), (xt_in (List.mem_of_getElem? (i := 446) (by decide +kernel)) rfl)⟩
theorem mlX2_77 : xlV RX2 77 MX2_spoiledNumber := ⟨(xt_in (List.mem_of_getElem? (i := 675) (by decide +kernel)) rfl), (xt_in (List.mem_of_getElem? (i := 676) (by decide +kernel)) rfl), (xt_in (List.mem_of_getElem? (i := 677) (by decide +kernel)) rfl)⟩
theorem mlX2_80 : xlS RX2 80 MJ6_bitCount_0f7a4 := ⟨(xt_in (List.mem_of_getElem? (i := 510) (by decide +kernel)) rfl), (xt_in (List.mem_of_getElem? (i := 511) (by decide +kernel)) rfl)⟩
theorem mlX2_85 : Cond.methodLink RX2 85 Lib.Math.min.name ∈ xt := (xt_in (List.mem_of_getElem? (i := 419) (by decide +kernel)) rfl)
theorem mlX2_90 : xlS RX2 90 MX2_parityWord := ⟨(xt_in (List.mem_of_getElem? (i := 420) (by decide +kernel)) rfl), (xt_in (List.mem_of_getElem? (i := 421) (by decide +kernel)) rfl)⟩
theorem mlX2_94 : xlSN RX2 94 MX6_power := ⟨(List.mem_of_getElem? (i := 423) (by decide +kernel)), (xt_in (List.mem_of_getElem? (i := 424) (by decide +kernel)) rfl)⟩
theorem mlX3_3 : Cond.methodLink RX3 3 Lib.objectInit ∈ xt := (xt_in (List.mem_of_getElem? (i := 150) (by decide +kernel)) rfl)
theorem mlX3_17 : xlIN RX3 17 MX5_init := ⟨(List.mem_of_getElem? (i := 153) (by decide +kernel)), (xt_in (List.mem_of_getElem? (i := 70) (by decide +kernel)) rfl), by decide +kernel, rfl⟩
theorem mlX3_22 : xlV RX3 22 MX3_dropOldest := ⟨(xt_in (List.mem_of_getElem? (i := 224) (by decide +kernel)) rfl), (xt_in (List.mem_of_getElem? (i := 226) (by decide +kernel)) rfl), (xt_in (List.mem_of_getElem? (i := 0) (by decide +kernel)) rfl)⟩
theorem mlX3_25 : xlV RX3 25 MX5_copyFrom := ⟨(xt_in (List.mem_of_getElem? (i := 228) (by decide +kernel)) rfl), (xt_in (List.mem_of_getElem? (i := 229) (by decide +kernel)) rfl), (xt_in (List.mem_of_getElem? (i := 230) (by decide +kernel)) rfl)⟩
theorem mlX4_3 : Cond.methodLink RX4 3 Lib.objectInit ∈ xt := (xt_in (List.mem_of_getElem? (i := 78) (by decide +kernel)) rfl)
theorem mlX4_27 : xlSN RX4 27 MX6_copyRow := ⟨(List.mem_of_getElem? (i := 236) (by decide +kernel)), (xt_in (List.mem_of_getElem? (i := 237) (by decide +kernel)) rfl)⟩
theorem mlX4_31 : xlV RX4 31 MX4_exists := ⟨(xt_in (List.mem_of_getElem? (i := 216) (by decide +kernel)) rfl), (xt_in (List.mem_of_getElem? (i := 217) (by decide +kernel)) rfl), (xt_in (List.mem_of_getElem? (i := 218) (by decide +kernel)) rfl)⟩
theorem mlX4_35 : xlV RX4 35 MX4_isOnline := ⟨(xt_in (List.mem_of_getElem? (i := 687) (by decide +kernel)) rfl), (xt_in (List.mem_of_getElem? (i := 265) (by decide +kernel)) rfl), (xt_in (List.mem_of_getElem? (i := 266) (by decide +kernel)) rfl)⟩
theorem mlX4_38 : xlV RX4 38 MX4_freeSpace := ⟨(xt_in (List.mem_of_getElem? (i := 304) (by decide +kernel)) rfl), (xt_in (List.mem_of_getElem? (i := 297) (by decide +kernel)) rfl), (xt_in (List.mem_of_getElem? (i := 298) (by decide +kernel)) rfl)⟩
theorem mlX4_42 : Cond.methodLink RX4 42 Lib.Math.min.name ∈ xt := (xt_in (List.mem_of_getElem? (i := 588) (by decide +kernel)) rfl)
theorem mlX4_48 : xlV RX4 48 MX4_areTwo := ⟨(xt_in (List.mem_of_getElem? (i := 377) (by decide +kernel)) rfl), (xt_in (List.mem_of_getElem? (i := 370) (by decide +kernel)) rfl), (xt_in (List.mem_of_getElem? (i := 371) (by decide +kernel)) rfl)⟩
theorem mlX4_52 : xlV RX4 52 MX4_owedBy := ⟨(xt_in (List.mem_of_getElem? (i := 389) (by decide +kernel)) rfl), (xt_in (List.mem_of_getElem? (i := 374) (by decide +kernel)) rfl), (xt_in (List.mem_of_getElem? (i := 375) (by decide +kernel)) rfl)⟩
theorem mlX4_55 : Cond.methodLink RX4 55 Lib.Math.max.name ∈ xt := (xt_in (List.mem_of_getElem? (i := 692) (by decide +kernel)) rfl)
theorem mlX5_3 : Cond.methodLink RX5 3 Lib.objectInit ∈ xt := (xt_in (List.mem_of_getElem? (i := 72) (by decide +kernel)) rfl)
theorem mlX5_11 : xlIN RX5 11 MX4_init := ⟨(List.mem_of_getElem? (i := 75) (by decide +kernel)), (xt_in (List.mem_of_getElem? (i := 76) (by decide +kernel)) rfl), by decide +kernel, rfl⟩
theorem mlX5_20 : xlI RX5 20 MX2_init := ⟨(xt_in (List.mem_of_getElem? (i := 101) (by decide +kernel)) rfl), (xt_in (List.mem_of_getElem? (i := 102) (by decide +kernel)) rfl), by decide +kernel, rfl⟩
theorem mlX5_29 : xlV RX5 29 MX4_copyFrom := ⟨(xt_in (List.mem_of_getElem? (i := 232) (by decide +kernel)) rfl), (xt_in (List.mem_of_getElem? (i := 233) (by decide +kernel)) rfl), (xt_in (List.mem_of_getElem? (i := 234) (by decide +kernel)) rfl)⟩
theorem mlX5_33 : xlV RX5 33 MX2_copyFrom := ⟨(xt_in (List.mem_of_getElem? (i := 245) (by decide +kernel)) rfl), (xt_in (List.mem_of_getElem? (i := 246) (by decide +kernel)) rfl), (xt_in (List.mem_of_getElem? (i := 247) (by decide +kernel)) rfl)⟩
theorem mlX5_36 : xlSN RX5 36 MX6_copyRow := ⟨(List.mem_of_getElem? (i := 250) (by decide +kernel)), (xt_in (List.mem_of_getElem? (i := 237) (by decide +kernel)) rfl)⟩
theorem mlX5_44 : xlV RX5 44 MX2_errorOf := ⟨(xt_in (List.mem_of_getElem? (i := 305) (by decide +kernel)) rfl), (xt_in (List.mem_of_getElem? (i := 306) (by decide +kernel)) rfl), (xt_in (List.mem_of_getElem? (i := 307) (by decide +kernel)) rfl)⟩
theorem mlX5_48 : xlV RX5 48 MX2_placeOf := ⟨(xt_in (List.mem_of_getElem? (i := 316) (by decide +kernel)) rfl), (xt_in (List.mem_of_getElem? (i := 317) (by decide +kernel)) rfl), (xt_in (List.mem_of_getElem? (i := 318) (by decide +kernel)) rfl)⟩
theorem mlX5_51 : xlV RX5 51 MX4_isOnline := ⟨(xt_in (List.mem_of_getElem? (i := 264) (by decide +kernel)) rfl), (xt_in (List.mem_of_getElem? (i := 265) (by decide +kernel)) rfl), (xt_in (List.mem_of_getElem? (i := 266) (by decide +kernel)) rfl)⟩
theorem mlX5_55 : xlV RX5 55 MX2_fragmentNumber := ⟨(xt_in (List.mem_of_getElem? (i := 353) (by decide +kernel)) rfl), (xt_in (List.mem_of_getElem? (i := 354) (by decide +kernel)) rfl), (xt_in (List.mem_of_getElem? (i := 355) (by decide +kernel)) rfl)⟩
theorem mlX5_59 : xlV RX5 59 MX5_isGood := ⟨(xt_in (List.mem_of_getElem? (i := 458) (by decide +kernel)) rfl), (xt_in (List.mem_of_getElem? (i := 459) (by decide +kernel)) rfl), (xt_in (List.mem_of_getElem? (i := 460) (by decide +kernel)) rfl)⟩
theorem mlX5_63 : xlV RX5 63 MX5_goodNumber := ⟨(xt_in (List.mem_of_getElem? (i := 467) (by decide +kernel)) rfl), (xt_in (List.mem_of_getElem? (i := 455) (by decide +kernel)) rfl), (xt_in (List.mem_of_getElem? (i := 456) (by decide +kernel)) rfl)⟩
theorem mlX5_66 : xlV RX5 66 MX2_dataOf := ⟨(xt_in (List.mem_of_getElem? (i := 468) (by decide +kernel)) rfl), (xt_in (List.mem_of_getElem? (i := 441) (by decide +kernel)) rfl), (xt_in (List.mem_of_getElem? (i := 442) (by decide +kernel)) rfl)⟩
theorem mlX5_69 : xlV RX5 69 MX2_exists := ⟨(xt_in (List.mem_of_getElem? (i := 466) (by decide +kernel)) rfl), (xt_in (List.mem_of_getElem? (i := 273) (by decide +kernel)) rfl), (xt_in (List.mem_of_getElem? (i := 274) (by decide +kernel)) rfl)⟩
theorem mlX5_72 : xlV RX5 72 MX5_isSafe := ⟨(xt_in (List.mem_of_getElem? (i := 633) (by decide +kernel)) rfl), (xt_in (List.mem_of_getElem? (i := 463) (by decide +kernel)) rfl), (xt_in (List.mem_of_getElem? (i := 464) (by decide +kernel)) rfl)⟩
theorem mlX5_75 : xlV RX5 75 MX4_freeSpace := ⟨(xt_in (List.mem_of_getElem? (i := 296) (by decide +kernel)) rfl), (xt_in (List.mem_of_getElem? (i := 297) (by decide +kernel)) rfl), (xt_in (List.mem_of_getElem? (i := 298) (by decide +kernel)) rfl)⟩
theorem mlX5_78 : xlV RX5 78 MX2_fragmentOn := ⟨(xt_in (List.mem_of_getElem? (i := 284) (by decide +kernel)) rfl), (xt_in (List.mem_of_getElem? (i := 285) (by decide +kernel)) rfl), (xt_in (List.mem_of_getElem? (i := 286) (by decide +kernel)) rfl)⟩
theorem mlX5_81 : xlV RX5 81 MX4_isBetterPlace := ⟨(xt_in (List.mem_of_getElem? (i := 300) (by decide +kernel)) rfl), (xt_in (List.mem_of_getElem? (i := 301) (by decide +kernel)) rfl), (xt_in (List.mem_of_getElem? (i := 302) (by decide +kernel)) rfl)⟩
theorem mlX5_84 : xlV RX5 84 MX2_setFragment := ⟨(xt_in (List.mem_of_getElem? (i := 324) (by decide +kernel)) rfl), (xt_in (List.mem_of_getElem? (i := 325) (by decide +kernel)) rfl), (xt_in (List.mem_of_getElem? (i := 326) (by decide +kernel)) rfl)⟩
theorem mlX5_88 : xlV RX5 88 MX4_addLoad := ⟨(xt_in (List.mem_of_getElem? (i := 320) (by decide +kernel)) rfl), (xt_in (List.mem_of_getElem? (i := 321) (by decide +kernel)) rfl), (xt_in (List.mem_of_getElem? (i := 322) (by decide +kernel)) rfl)⟩
theorem mlX5_92 : xlV RX5 92 MX2_ownerOf := ⟨(xt_in (List.mem_of_getElem? (i := 332) (by decide +kernel)) rfl), (xt_in (List.mem_of_getElem? (i := 277) (by decide +kernel)) rfl), (xt_in (List.mem_of_getElem? (i := 278) (by decide +kernel)) rfl)⟩
theorem mlX5_95 : xlV RX5 95 MX4_owe := ⟨(xt_in (List.mem_of_getElem? (i := 333) (by decide +kernel)) rfl), (xt_in (List.mem_of_getElem? (i := 334) (by decide +kernel)) rfl), (xt_in (List.mem_of_getElem? (i := 335) (by decide +kernel)) rfl)⟩
theorem mlX5_99 : xlV RX5 99 MX2_add := ⟨(xt_in (List.mem_of_getElem? (i := 415) (by decide +kernel)) rfl), (xt_in (List.mem_of_getElem? (i := 416) (by decide +kernel)) rfl), (xt_in (List.mem_of_getElem? (i := 417) (by decide +kernel)) rfl)⟩
theorem mlX5_103 : xlV RX5 103 MX5_findPlace := ⟨(xt_in (List.mem_of_getElem? (i := 292) (by decide +kernel)) rfl), (xt_in (List.mem_of_getElem? (i := 294) (by decide +kernel)) rfl), (xt_in (List.mem_of_getElem? (i := 2) (by decide +kernel)) rfl)⟩
theorem mlX5_106 : xlV RX5 106 MX5_putOn := ⟨(xt_in (List.mem_of_getElem? (i := 328) (by decide +kernel)) rfl), (xt_in (List.mem_of_getElem? (i := 330) (by decide +kernel)) rfl), (xt_in (List.mem_of_getElem? (i := 4) (by decide +kernel)) rfl)⟩
theorem mlX5_109 : xlV RX5 109 MX5_takeOff := ⟨(xt_in (List.mem_of_getElem? (i := 312) (by decide +kernel)) rfl), (xt_in (List.mem_of_getElem? (i := 314) (by decide +kernel)) rfl), (xt_in (List.mem_of_getElem? (i := 3) (by decide +kernel)) rfl)⟩
theorem mlX5_112 : xlV RX5 112 MX2_remove := ⟨(xt_in (List.mem_of_getElem? (i := 357) (by decide +kernel)) rfl), (xt_in (List.mem_of_getElem? (i := 358) (by decide +kernel)) rfl), (xt_in (List.mem_of_getElem? (i := 359) (by decide +kernel)) rfl)⟩
theorem mlX5_116 : xlV RX5 116 MX2_ownedBy := ⟨(xt_in (List.mem_of_getElem? (i := 268) (by decide +kernel)) rfl), (xt_in (List.mem_of_getElem? (i := 269) (by decide +kernel)) rfl), (xt_in (List.mem_of_getElem? (i := 270) (by decide +kernel)) rfl)⟩
theorem mlX5_119 : xlV RX5 119 MX5_move := ⟨(xt_in (List.mem_of_getElem? (i := 288) (by decide +kernel)) rfl), (xt_in (List.mem_of_getElem? (i := 290) (by decide +kernel)) rfl), (xt_in (List.mem_of_getElem? (i := 1) (by decide +kernel)) rfl)⟩
theorem mlX5_122 : xlV RX5 122 MX4_remove := ⟨(xt_in (List.mem_of_getElem? (i := 337) (by decide +kernel)) rfl), (xt_in (List.mem_of_getElem? (i := 338) (by decide +kernel)) rfl), (xt_in (List.mem_of_getElem? (i := 339) (by decide +kernel)) rfl)⟩
theorem mlX5_123 : xlV RX5 123 MX5_removeFile := ⟨(xt_in (List.mem_of_getElem? (i := 349) (by decide +kernel)) rfl), (xt_in (List.mem_of_getElem? (i := 350) (by decide +kernel)) rfl), (xt_in (List.mem_of_getElem? (i := 351) (by decide +kernel)) rfl)⟩
theorem mlX5_126 : xlV RX5 126 MX5_renew := ⟨(xt_in (List.mem_of_getElem? (i := 601) (by decide +kernel)) rfl), (xt_in (List.mem_of_getElem? (i := 603) (by decide +kernel)) rfl), (xt_in (List.mem_of_getElem? (i := 11) (by decide +kernel)) rfl)⟩
theorem mlX5_129 : xlV RX5 129 MX5_oweReaders := ⟨(xt_in (List.mem_of_getElem? (i := 605) (by decide +kernel)) rfl), (xt_in (List.mem_of_getElem? (i := 607) (by decide +kernel)) rfl), (xt_in (List.mem_of_getElem? (i := 12) (by decide +kernel)) rfl)⟩
theorem mlX5_132 : xlV RX5 132 MX5_reserveOf := ⟨(xt_in (List.mem_of_getElem? (i := 648) (by decide +kernel)) rfl), (xt_in (List.mem_of_getElem? (i := 470) (by decide +kernel)) rfl), (xt_in (List.mem_of_getElem? (i := 471) (by decide +kernel)) rfl)⟩
theorem mlX5_135 : xlV RX5 135 MX5_canBreak := ⟨(xt_in (List.mem_of_getElem? (i := 634) (by decide +kernel)) rfl), (xt_in (List.mem_of_getElem? (i := 636) (by decide +kernel)) rfl), (xt_in (List.mem_of_getElem? (i := 13) (by decide +kernel)) rfl)⟩
theorem mlX5_138 : xlV RX5 138 MX4_number := ⟨(xt_in (List.mem_of_getElem? (i := 638) (by decide +kernel)) rfl), (xt_in (List.mem_of_getElem? (i := 626) (by decide +kernel)) rfl), (xt_in (List.mem_of_getElem? (i := 627) (by decide +kernel)) rfl)⟩
theorem mlX5_142 : Cond.methodLink RX5 142 Lib.Math.min.name ∈ xt := (xt_in (List.mem_of_getElem? (i := 639) (by decide +kernel)) rfl)
theorem mlX6_3 : Cond.methodLink RX6 3 Lib.objectInit ∈ xt := (xt_in (List.mem_of_getElem? (i := 64) (by decide +kernel)) rfl)
theorem mlX6_11 : xlIN RX6 11 MX5_init := ⟨(List.mem_of_getElem? (i := 69) (by decide +kernel)), (xt_in (List.mem_of_getElem? (i := 70) (by decide +kernel)) rfl), by decide +kernel, rfl⟩
theorem mlX6_18 : xlI RX6 18 MX3_init := ⟨(xt_in (List.mem_of_getElem? (i := 147) (by decide +kernel)) rfl), (xt_in (List.mem_of_getElem? (i := 148) (by decide +kernel)) rfl), by decide +kernel, rfl⟩
theorem mlX6_25 : xlIN RX6 25 MX0_init := ⟨(List.mem_of_getElem? (i := 164) (by decide +kernel)), (xt_in (List.mem_of_getElem? (i := 165) (by decide +kernel)) rfl), by decide +kernel, rfl⟩
theorem mlX6_32 : xlIN RX6 32 MX1_init := ⟨(List.mem_of_getElem? (i := 178) (by decide +kernel)), (xt_in (List.mem_of_getElem? (i := 179) (by decide +kernel)) rfl), by decide +kernel, rfl⟩
theorem mlX6_47 : xlV RX6 47 MX4_lowestUnused := ⟨(xt_in (List.mem_of_getElem? (i := 212) (by decide +kernel)) rfl), (xt_in (List.mem_of_getElem? (i := 213) (by decide +kernel)) rfl), (xt_in (List.mem_of_getElem? (i := 214) (by decide +kernel)) rfl)⟩
theorem mlX6_53 : xlV RX6 53 MX3_record := ⟨(xt_in (List.mem_of_getElem? (i := 220) (by decide +kernel)) rfl), (xt_in (List.mem_of_getElem? (i := 221) (by decide +kernel)) rfl), (xt_in (List.mem_of_getElem? (i := 222) (by decide +kernel)) rfl)⟩
theorem mlX6_57 : xlV RX6 57 MX4_add := ⟨(xt_in (List.mem_of_getElem? (i := 251) (by decide +kernel)) rfl), (xt_in (List.mem_of_getElem? (i := 252) (by decide +kernel)) rfl), (xt_in (List.mem_of_getElem? (i := 253) (by decide +kernel)) rfl)⟩
theorem mlX6_61 : xlV RX6 61 MX4_exists := ⟨(xt_in (List.mem_of_getElem? (i := 259) (by decide +kernel)) rfl), (xt_in (List.mem_of_getElem? (i := 217) (by decide +kernel)) rfl), (xt_in (List.mem_of_getElem? (i := 218) (by decide +kernel)) rfl)⟩
theorem mlX6_65 : xlV RX6 65 MX5_mayLeave := ⟨(xt_in (List.mem_of_getElem? (i := 260) (by decide +kernel)) rfl), (xt_in (List.mem_of_getElem? (i := 261) (by decide +kernel)) rfl), (xt_in (List.mem_of_getElem? (i := 262) (by decide +kernel)) rfl)⟩
theorem mlX6_68 : xlV RX6 68 MX5_leaveInOrder := ⟨(xt_in (List.mem_of_getElem? (i := 280) (by decide +kernel)) rfl), (xt_in (List.mem_of_getElem? (i := 281) (by decide +kernel)) rfl), (xt_in (List.mem_of_getElem? (i := 282) (by decide +kernel)) rfl)⟩
theorem mlX6_72 : xlV RX6 72 MX5_removeCrashed := ⟨(xt_in (List.mem_of_getElem? (i := 345) (by decide +kernel)) rfl), (xt_in (List.mem_of_getElem? (i := 346) (by decide +kernel)) rfl), (xt_in (List.mem_of_getElem? (i := 347) (by decide +kernel)) rfl)⟩
theorem mlX6_79 : xlV RX6 79 MX4_areTwo := ⟨(xt_in (List.mem_of_getElem? (i := 369) (by decide +kernel)) rfl), (xt_in (List.mem_of_getElem? (i := 370) (by decide +kernel)) rfl), (xt_in (List.mem_of_getElem? (i := 371) (by decide +kernel)) rfl)⟩
theorem mlX6_83 : xlV RX6 83 MX4_owedBy := ⟨(xt_in (List.mem_of_getElem? (i := 373) (by decide +kernel)) rfl), (xt_in (List.mem_of_getElem? (i := 374) (by decide +kernel)) rfl), (xt_in (List.mem_of_getElem? (i := 375) (by decide +kernel)) rfl)⟩
theorem mlX6_87 : xlV RX6 87 MX4_owe := ⟨(xt_in (List.mem_of_getElem? (i := 378) (by decide +kernel)) rfl), (xt_in (List.mem_of_getElem? (i := 334) (by decide +kernel)) rfl), (xt_in (List.mem_of_getElem? (i := 335) (by decide +kernel)) rfl)⟩
theorem mlX6_94 : xlV RX6 94 MX4_freeSpace := ⟨(xt_in (List.mem_of_getElem? (i := 383) (by decide +kernel)) rfl), (xt_in (List.mem_of_getElem? (i := 297) (by decide +kernel)) rfl), (xt_in (List.mem_of_getElem? (i := 298) (by decide +kernel)) rfl)⟩
theorem mlX6_104 : xlV RX6 104 MX2_ownedBy := ⟨(xt_in (List.mem_of_getElem? (i := 384) (by decide +kernel)) rfl), (xt_in (List.mem_of_getElem? (i := 269) (by decide +kernel)) rfl), (xt_in (List.mem_of_getElem? (i := 270) (by decide +kernel)) rfl)⟩
theorem mlX6_109 : xlV RX6 109 MX4_sumOwedBy := ⟨(xt_in (List.mem_of_getElem? (i := 385) (by decide +kernel)) rfl), (xt_in (List.mem_of_getElem? (i := 386) (by decide +kernel)) rfl), (xt_in (List.mem_of_getElem? (i := 387) (by decide +kernel)) rfl)⟩
theorem mlX6_116 : xlV RX6 116 MX5_addWaiting := ⟨(xt_in (List.mem_of_getElem? (i := 398) (by decide +kernel)) rfl), (xt_in (List.mem_of_getElem? (i := 399) (by decide +kernel)) rfl), (xt_in (List.mem_of_getElem? (i := 400) (by decide +kernel)) rfl)⟩
theorem mlX6_119 : xlV RX6 119 MX4_isOnline := ⟨(xt_in (List.mem_of_getElem? (i := 406) (by decide +kernel)) rfl), (xt_in (List.mem_of_getElem? (i := 265) (by decide +kernel)) rfl), (xt_in (List.mem_of_getElem? (i := 266) (by decide +kernel)) rfl)⟩
theorem mlX6_122 : xlV RX6 122 MX2_lowestUnused := ⟨(xt_in (List.mem_of_getElem? (i := 407) (by decide +kernel)) rfl), (xt_in (List.mem_of_getElem? (i := 408) (by decide +kernel)) rfl), (xt_in (List.mem_of_getElem? (i := 409) (by decide +kernel)) rfl)⟩
theorem mlX6_123 : xlV RX6 123 MX5_makeFile := ⟨(xt_in (List.mem_of_getElem? (i := 411) (by decide +kernel)) rfl), (xt_in (List.mem_of_getElem? (i := 412) (by decide +kernel)) rfl), (xt_in (List.mem_of_getElem? (i := 413) (by decide +kernel)) rfl)⟩
theorem mlX6_126 : xlV RX6 126 MX2_exists := ⟨(xt_in (List.mem_of_getElem? (i := 430) (by decide +kernel)) rfl), (xt_in (List.mem_of_getElem? (i := 273) (by decide +kernel)) rfl), (xt_in (List.mem_of_getElem? (i := 274) (by decide +kernel)) rfl)⟩
theorem mlX6_127 : xlV RX6 127 MX5_removeFile := ⟨(xt_in (List.mem_of_getElem? (i := 431) (by decide +kernel)) rfl), (xt_in (List.mem_of_getElem? (i := 350) (by decide +kernel)) rfl), (xt_in (List.mem_of_getElem? (i := 351) (by decide +kernel)) rfl)⟩
theorem mlX6_131 : xlV RX6 131 MX2_number := ⟨(xt_in (List.mem_of_getElem? (i := 432) (by decide +kernel)) rfl), (xt_in (List.mem_of_getElem? (i := 433) (by decide +kernel)) rfl), (xt_in (List.mem_of_getElem? (i := 434) (by decide +kernel)) rfl)⟩
theorem mlX6_137 : xlV RX6 137 MX2_dataOf := ⟨(xt_in (List.mem_of_getElem? (i := 440) (by decide +kernel)) rfl), (xt_in (List.mem_of_getElem? (i := 441) (by decide +kernel)) rfl), (xt_in (List.mem_of_getElem? (i := 442) (by decide +kernel)) rfl)⟩
theorem mlX6_143 : xlV RX6 143 MX2_storedNumber := ⟨(xt_in (List.mem_of_getElem? (i := 444) (by decide +kernel)) rfl), (xt_in (List.mem_of_getElem? (i := 445) (by decide +kernel)) rfl), (xt_in (List.mem_of_getElem? (i := 446) (by decide +kernel)) rfl)⟩
theorem mlX6_146 : xlV RX6 146 MX5_goodNumber := ⟨(xt_in (List.mem_of_getElem? (i := 454) (by decide +kernel)) rfl), (xt_in (List.mem_of_getElem? (i := 455) (by decide +kernel)) rfl), (xt_in (List.mem_of_getElem? (i := 456) (by decide +kernel)) rfl)⟩
theorem mlX6_149 : xlV RX6 149 MX5_isSafe := ⟨(xt_in (List.mem_of_getElem? (i := 462) (by decide +kernel)) rfl), (xt_in (List.mem_of_getElem? (i := 463) (by decide +kernel)) rfl), (xt_in (List.mem_of_getElem? (i := 464) (by decide +kernel)) rfl)⟩
theorem mlX6_152 : xlV RX6 152 MX5_reserveOf := ⟨(xt_in (List.mem_of_getElem? (i := 469) (by decide +kernel)) rfl), (xt_in (List.mem_of_getElem? (i := 470) (by decide +kernel)) rfl), (xt_in (List.mem_of_getElem? (i := 471) (by decide +kernel)) rfl)⟩
theorem mlX6_155 : xlV RX6 155 MX2_hasFragment := ⟨(xt_in (List.mem_of_getElem? (i := 477) (by decide +kernel)) rfl), (xt_in (List.mem_of_getElem? (i := 478) (by decide +kernel)) rfl), (xt_in (List.mem_of_getElem? (i := 479) (by decide +kernel)) rfl)⟩
theorem mlX6_158 : xlV RX6 158 MX2_placeOf := ⟨(xt_in (List.mem_of_getElem? (i := 481) (by decide +kernel)) rfl), (xt_in (List.mem_of_getElem? (i := 317) (by decide +kernel)) rfl), (xt_in (List.mem_of_getElem? (i := 318) (by decide +kernel)) rfl)⟩
theorem mlX6_161 : xlV RX6 161 MX2_storedValue := ⟨(xt_in (List.mem_of_getElem? (i := 482) (by decide +kernel)) rfl), (xt_in (List.mem_of_getElem? (i := 483) (by decide +kernel)) rfl), (xt_in (List.mem_of_getElem? (i := 484) (by decide +kernel)) rfl)⟩
theorem mlX6_164 : xlV RX6 164 MX2_hasData := ⟨(xt_in (List.mem_of_getElem? (i := 495) (by decide +kernel)) rfl), (xt_in (List.mem_of_getElem? (i := 496) (by decide +kernel)) rfl), (xt_in (List.mem_of_getElem? (i := 497) (by decide +kernel)) rfl)⟩
theorem mlX6_167 : xlV RX6 167 MX5_isGood := ⟨(xt_in (List.mem_of_getElem? (i := 500) (by decide +kernel)) rfl), (xt_in (List.mem_of_getElem? (i := 459) (by decide +kernel)) rfl), (xt_in (List.mem_of_getElem? (i := 460) (by decide +kernel)) rfl)⟩
theorem mlX6_170 : xlV RX6 170 MX2_correctValue := ⟨(xt_in (List.mem_of_getElem? (i := 501) (by decide +kernel)) rfl), (xt_in (List.mem_of_getElem? (i := 487) (by decide +kernel)) rfl), (xt_in (List.mem_of_getElem? (i := 488) (by decide +kernel)) rfl)⟩
theorem mlX6_173 : xlV RX6 173 MX2_isDecodingSet := ⟨(xt_in (List.mem_of_getElem? (i := 506) (by decide +kernel)) rfl), (xt_in (List.mem_of_getElem? (i := 507) (by decide +kernel)) rfl), (xt_in (List.mem_of_getElem? (i := 508) (by decide +kernel)) rfl)⟩
theorem mlX6_176 : xlV RX6 176 MX2_isStoredSet := ⟨(xt_in (List.mem_of_getElem? (i := 516) (by decide +kernel)) rfl), (xt_in (List.mem_of_getElem? (i := 517) (by decide +kernel)) rfl), (xt_in (List.mem_of_getElem? (i := 518) (by decide +kernel)) rfl)⟩
theorem mlX6_179 : xlV RX6 179 MX1_dataWord := ⟨(xt_in (List.mem_of_getElem? (i := 520) (by decide +kernel)) rfl), (xt_in (List.mem_of_getElem? (i := 521) (by decide +kernel)) rfl), (xt_in (List.mem_of_getElem? (i := 522) (by decide +kernel)) rfl)⟩
theorem mlX6_183 : xlV RX6 183 MX2_addError := ⟨(xt_in (List.mem_of_getElem? (i := 555) (by decide +kernel)) rfl), (xt_in (List.mem_of_getElem? (i := 556) (by decide +kernel)) rfl), (xt_in (List.mem_of_getElem? (i := 557) (by decide +kernel)) rfl)⟩
theorem mlX6_186 : xlV RX6 186 MX2_errorOf := ⟨(xt_in (List.mem_of_getElem? (i := 559) (by decide +kernel)) rfl), (xt_in (List.mem_of_getElem? (i := 306) (by decide +kernel)) rfl), (xt_in (List.mem_of_getElem? (i := 307) (by decide +kernel)) rfl)⟩
theorem mlX6_189 : xlV RX6 189 MX0_lookAt := ⟨(xt_in (List.mem_of_getElem? (i := 564) (by decide +kernel)) rfl), (xt_in (List.mem_of_getElem? (i := 565) (by decide +kernel)) rfl), (xt_in (List.mem_of_getElem? (i := 566) (by decide +kernel)) rfl)⟩
theorem mlX6_193 : xlV RX6 193 MX0_isPassedWith := ⟨(xt_in (List.mem_of_getElem? (i := 575) (by decide +kernel)) rfl), (xt_in (List.mem_of_getElem? (i := 576) (by decide +kernel)) rfl), (xt_in (List.mem_of_getElem? (i := 577) (by decide +kernel)) rfl)⟩
theorem mlX6_196 : xlV RX6 196 MX4_halveTrust := ⟨(xt_in (List.mem_of_getElem? (i := 580) (by decide +kernel)) rfl), (xt_in (List.mem_of_getElem? (i := 581) (by decide +kernel)) rfl), (xt_in (List.mem_of_getElem? (i := 582) (by decide +kernel)) rfl)⟩
theorem mlX6_201 : xlV RX6 201 MX4_raiseTrust := ⟨(xt_in (List.mem_of_getElem? (i := 584) (by decide +kernel)) rfl), (xt_in (List.mem_of_getElem? (i := 585) (by decide +kernel)) rfl), (xt_in (List.mem_of_getElem? (i := 586) (by decide +kernel)) rfl)⟩
theorem mlX6_204 : xlV RX6 204 MX5_renewFile := ⟨(xt_in (List.mem_of_getElem? (i := 597) (by decide +kernel)) rfl), (xt_in (List.mem_of_getElem? (i := 598) (by decide +kernel)) rfl), (xt_in (List.mem_of_getElem? (i := 599) (by decide +kernel)) rfl)⟩
theorem mlX6_208 : xlV RX6 208 MX3_restoreLatest := ⟨(xt_in (List.mem_of_getElem? (i := 617) (by decide +kernel)) rfl), (xt_in (List.mem_of_getElem? (i := 618) (by decide +kernel)) rfl), (xt_in (List.mem_of_getElem? (i := 619) (by decide +kernel)) rfl)⟩
theorem mlX6_211 : xlV RX6 211 MX4_number := ⟨(xt_in (List.mem_of_getElem? (i := 625) (by decide +kernel)) rfl), (xt_in (List.mem_of_getElem? (i := 626) (by decide +kernel)) rfl), (xt_in (List.mem_of_getElem? (i := 627) (by decide +kernel)) rfl)⟩
theorem mlX6_212 : Cond.methodLink RX6 212 Lib.Math.min.name ∈ xt := (xt_in (List.mem_of_getElem? (i := 239) (by decide +kernel)) rfl)
theorem mlX6_217 : xlV RX6 217 MX5_bearsCrashes := ⟨(xt_in (List.mem_of_getElem? (i := 629) (by decide +kernel)) rfl), (xt_in (List.mem_of_getElem? (i := 630) (by decide +kernel)) rfl), (xt_in (List.mem_of_getElem? (i := 631) (by decide +kernel)) rfl)⟩
theorem mlX6_220 : xlV RX6 220 MX5_needsPeer := ⟨(xt_in (List.mem_of_getElem? (i := 644) (by decide +kernel)) rfl), (xt_in (List.mem_of_getElem? (i := 645) (by decide +kernel)) rfl), (xt_in (List.mem_of_getElem? (i := 646) (by decide +kernel)) rfl)⟩
theorem mlX6_223 : xlV RX6 223 MX5_copyFrom := ⟨(xt_in (List.mem_of_getElem? (i := 653) (by decide +kernel)) rfl), (xt_in (List.mem_of_getElem? (i := 229) (by decide +kernel)) rfl), (xt_in (List.mem_of_getElem? (i := 230) (by decide +kernel)) rfl)⟩
theorem mlX6_226 : xlV RX6 226 MX6_planNextLeaver := ⟨(xt_in (List.mem_of_getElem? (i := 654) (by decide +kernel)) rfl), (xt_in (List.mem_of_getElem? (i := 656) (by decide +kernel)) rfl), (xt_in (List.mem_of_getElem? (i := 14) (by decide +kernel)) rfl)⟩
theorem mlX6_230 : xlV RX6 230 MX5_safeNumber := ⟨(xt_in (List.mem_of_getElem? (i := 662) (by decide +kernel)) rfl), (xt_in (List.mem_of_getElem? (i := 663) (by decide +kernel)) rfl), (xt_in (List.mem_of_getElem? (i := 664) (by decide +kernel)) rfl)⟩
theorem mlX6_233 : xlV RX6 233 MX2_allStored := ⟨(xt_in (List.mem_of_getElem? (i := 666) (by decide +kernel)) rfl), (xt_in (List.mem_of_getElem? (i := 667) (by decide +kernel)) rfl), (xt_in (List.mem_of_getElem? (i := 668) (by decide +kernel)) rfl)⟩
theorem mlX6_236 : xlV RX6 236 MX2_allSpoiled := ⟨(xt_in (List.mem_of_getElem? (i := 671) (by decide +kernel)) rfl), (xt_in (List.mem_of_getElem? (i := 672) (by decide +kernel)) rfl), (xt_in (List.mem_of_getElem? (i := 673) (by decide +kernel)) rfl)⟩
theorem mlX6_239 : xlV RX6 239 MX4_onlineFreeSpace := ⟨(xt_in (List.mem_of_getElem? (i := 683) (by decide +kernel)) rfl), (xt_in (List.mem_of_getElem? (i := 684) (by decide +kernel)) rfl), (xt_in (List.mem_of_getElem? (i := 685) (by decide +kernel)) rfl)⟩
theorem mlX6_242 : xlV RX6 242 MX4_sumOfDebts := ⟨(xt_in (List.mem_of_getElem? (i := 688) (by decide +kernel)) rfl), (xt_in (List.mem_of_getElem? (i := 689) (by decide +kernel)) rfl), (xt_in (List.mem_of_getElem? (i := 690) (by decide +kernel)) rfl)⟩
theorem mlX6_245 : Cond.methodLink RX6 245 arraycopyName ∈ xt := (xt_in (List.mem_of_getElem? (i := 242) (by decide +kernel)) rfl)
theorem mlX7_1 : Cond.methodLink RX7 1 Lib.objectInit ∈ xt := (xt_in (List.mem_of_getElem? (i := 700) (by decide +kernel)) rfl)
theorem mlX7_25 : xlS RX7 25 MX7_in := ⟨(xt_in (List.mem_of_getElem? (i := 724) (by decide +kernel)) rfl), (xt_in (List.mem_of_getElem? (i := 725) (by decide +kernel)) rfl)⟩
theorem mlX7_29 : xlV RX7 29 MX7_of := ⟨(xt_in (List.mem_of_getElem? (i := 747) (by decide +kernel)) rfl), (xt_in (List.mem_of_getElem? (i := 749) (by decide +kernel)) rfl), (xt_in (List.mem_of_getElem? (i := 19) (by decide +kernel)) rfl)⟩
theorem mlX7_33 : xlS RX7 33 MX7_at := ⟨(xt_in (List.mem_of_getElem? (i := 751) (by decide +kernel)) rfl), (xt_in (List.mem_of_getElem? (i := 752) (by decide +kernel)) rfl)⟩
theorem mlX7_40 : xlS RX7 40 MX7_balanceAt := ⟨(xt_in (List.mem_of_getElem? (i := 782) (by decide +kernel)) rfl), (xt_in (List.mem_of_getElem? (i := 783) (by decide +kernel)) rfl)⟩
theorem mlX7_43 : xlV RX7 43 MX7_isFile := ⟨(xt_in (List.mem_of_getElem? (i := 743) (by decide +kernel)) rfl), (xt_in (List.mem_of_getElem? (i := 745) (by decide +kernel)) rfl), (xt_in (List.mem_of_getElem? (i := 18) (by decide +kernel)) rfl)⟩
theorem mlX7_47 : xlV RX7 47 MX7_fragments := ⟨(xt_in (List.mem_of_getElem? (i := 762) (by decide +kernel)) rfl), (xt_in (List.mem_of_getElem? (i := 764) (by decide +kernel)) rfl), (xt_in (List.mem_of_getElem? (i := 22) (by decide +kernel)) rfl)⟩
theorem mlX7_51 : xlV RX7 51 MX7_isOnline := ⟨(xt_in (List.mem_of_getElem? (i := 754) (by decide +kernel)) rfl), (xt_in (List.mem_of_getElem? (i := 756) (by decide +kernel)) rfl), (xt_in (List.mem_of_getElem? (i := 20) (by decide +kernel)) rfl)⟩
theorem mlX7_54 : xlV RX7 54 MX7_isGood := ⟨(xt_in (List.mem_of_getElem? (i := 841) (by decide +kernel)) rfl), (xt_in (List.mem_of_getElem? (i := 843) (by decide +kernel)) rfl), (xt_in (List.mem_of_getElem? (i := 32) (by decide +kernel)) rfl)⟩
theorem mlX7_58 : xlV RX7 58 MX7_good := ⟨(xt_in (List.mem_of_getElem? (i := 837) (by decide +kernel)) rfl), (xt_in (List.mem_of_getElem? (i := 839) (by decide +kernel)) rfl), (xt_in (List.mem_of_getElem? (i := 31) (by decide +kernel)) rfl)⟩
theorem mlX7_61 : xlS RX7 61 MX7_power := ⟨(xt_in (List.mem_of_getElem? (i := 865) (by decide +kernel)) rfl), (xt_in (List.mem_of_getElem? (i := 866) (by decide +kernel)) rfl)⟩
theorem mlX7_64 : xlV RX7 64 MX7_correct := ⟨(xt_in (List.mem_of_getElem? (i := 861) (by decide +kernel)) rfl), (xt_in (List.mem_of_getElem? (i := 863) (by decide +kernel)) rfl), (xt_in (List.mem_of_getElem? (i := 36) (by decide +kernel)) rfl)⟩
theorem mlX7_67 : xlV RX7 67 MX7_isPeer := ⟨(xt_in (List.mem_of_getElem? (i := 727) (by decide +kernel)) rfl), (xt_in (List.mem_of_getElem? (i := 729) (by decide +kernel)) rfl), (xt_in (List.mem_of_getElem? (i := 15) (by decide +kernel)) rfl)⟩
theorem mlX7_70 : xlV RX7 70 MX7_free := ⟨(xt_in (List.mem_of_getElem? (i := 770) (by decide +kernel)) rfl), (xt_in (List.mem_of_getElem? (i := 772) (by decide +kernel)) rfl), (xt_in (List.mem_of_getElem? (i := 24) (by decide +kernel)) rfl)⟩
theorem mlX7_73 : xlV RX7 73 MX7_stores := ⟨(xt_in (List.mem_of_getElem? (i := 774) (by decide +kernel)) rfl), (xt_in (List.mem_of_getElem? (i := 776) (by decide +kernel)) rfl), (xt_in (List.mem_of_getElem? (i := 25) (by decide +kernel)) rfl)⟩
theorem mlX7_76 : xlV RX7 76 MX7_owes := ⟨(xt_in (List.mem_of_getElem? (i := 778) (by decide +kernel)) rfl), (xt_in (List.mem_of_getElem? (i := 780) (by decide +kernel)) rfl), (xt_in (List.mem_of_getElem? (i := 26) (by decide +kernel)) rfl)⟩
theorem mlX7_80 : xlV RX7 80 MX7_keeps := ⟨(xt_in (List.mem_of_getElem? (i := 731) (by decide +kernel)) rfl), (xt_in (List.mem_of_getElem? (i := 733) (by decide +kernel)) rfl), (xt_in (List.mem_of_getElem? (i := 16) (by decide +kernel)) rfl)⟩
theorem mlX7_83 : xlV RX7 83 MX7_places := ⟨(xt_in (List.mem_of_getElem? (i := 766) (by decide +kernel)) rfl), (xt_in (List.mem_of_getElem? (i := 768) (by decide +kernel)) rfl), (xt_in (List.mem_of_getElem? (i := 23) (by decide +kernel)) rfl)⟩
theorem mlX7_86 : xlV RX7 86 MX7_goes := ⟨(xt_in (List.mem_of_getElem? (i := 785) (by decide +kernel)) rfl), (xt_in (List.mem_of_getElem? (i := 787) (by decide +kernel)) rfl), (xt_in (List.mem_of_getElem? (i := 27) (by decide +kernel)) rfl)⟩
theorem mlX7_90 : xlV RX7 90 MX7_owned := ⟨(xt_in (List.mem_of_getElem? (i := 739) (by decide +kernel)) rfl), (xt_in (List.mem_of_getElem? (i := 741) (by decide +kernel)) rfl), (xt_in (List.mem_of_getElem? (i := 17) (by decide +kernel)) rfl)⟩
theorem mlX7_93 : xlV RX7 93 MX7_leaves := ⟨(xt_in (List.mem_of_getElem? (i := 758) (by decide +kernel)) rfl), (xt_in (List.mem_of_getElem? (i := 760) (by decide +kernel)) rfl), (xt_in (List.mem_of_getElem? (i := 21) (by decide +kernel)) rfl)⟩
theorem mlX7_96 : xlV RX7 96 MX7_deletes := ⟨(xt_in (List.mem_of_getElem? (i := 793) (by decide +kernel)) rfl), (xt_in (List.mem_of_getElem? (i := 795) (by decide +kernel)) rfl), (xt_in (List.mem_of_getElem? (i := 28) (by decide +kernel)) rfl)⟩
theorem mlX7_99 : xlV RX7 99 MX7_files := ⟨(xt_in (List.mem_of_getElem? (i := 821) (by decide +kernel)) rfl), (xt_in (List.mem_of_getElem? (i := 823) (by decide +kernel)) rfl), (xt_in (List.mem_of_getElem? (i := 29) (by decide +kernel)) rfl)⟩
theorem mlX7_103 : xlV RX7 103 MX7_storedOf := ⟨(xt_in (List.mem_of_getElem? (i := 833) (by decide +kernel)) rfl), (xt_in (List.mem_of_getElem? (i := 835) (by decide +kernel)) rfl), (xt_in (List.mem_of_getElem? (i := 30) (by decide +kernel)) rfl)⟩
theorem mlX7_106 : xlV RX7 106 MX7_isSafe := ⟨(xt_in (List.mem_of_getElem? (i := 845) (by decide +kernel)) rfl), (xt_in (List.mem_of_getElem? (i := 847) (by decide +kernel)) rfl), (xt_in (List.mem_of_getElem? (i := 33) (by decide +kernel)) rfl)⟩
theorem mlX7_109 : xlV RX7 109 MX7_isFragment := ⟨(xt_in (List.mem_of_getElem? (i := 853) (by decide +kernel)) rfl), (xt_in (List.mem_of_getElem? (i := 855) (by decide +kernel)) rfl), (xt_in (List.mem_of_getElem? (i := 34) (by decide +kernel)) rfl)⟩
theorem mlX7_112 : xlV RX7 112 MX7_valueOf := ⟨(xt_in (List.mem_of_getElem? (i := 857) (by decide +kernel)) rfl), (xt_in (List.mem_of_getElem? (i := 859) (by decide +kernel)) rfl), (xt_in (List.mem_of_getElem? (i := 35) (by decide +kernel)) rfl)⟩
theorem mlX7_115 : xlV RX7 115 MX7_solves := ⟨(xt_in (List.mem_of_getElem? (i := 876) (by decide +kernel)) rfl), (xt_in (List.mem_of_getElem? (i := 878) (by decide +kernel)) rfl), (xt_in (List.mem_of_getElem? (i := 37) (by decide +kernel)) rfl)⟩
theorem mlX7_118 : xlV RX7 118 MX7_arePeers := ⟨(xt_in (List.mem_of_getElem? (i := 888) (by decide +kernel)) rfl), (xt_in (List.mem_of_getElem? (i := 890) (by decide +kernel)) rfl), (xt_in (List.mem_of_getElem? (i := 38) (by decide +kernel)) rfl)⟩
theorem mlX7_121 : xlV RX7 121 MX7_off := ⟨(xt_in (List.mem_of_getElem? (i := 892) (by decide +kernel)) rfl), (xt_in (List.mem_of_getElem? (i := 894) (by decide +kernel)) rfl), (xt_in (List.mem_of_getElem? (i := 39) (by decide +kernel)) rfl)⟩
theorem mlX7_125 : xlV RX7 125 MX7_sources := ⟨(xt_in (List.mem_of_getElem? (i := 908) (by decide +kernel)) rfl), (xt_in (List.mem_of_getElem? (i := 910) (by decide +kernel)) rfl), (xt_in (List.mem_of_getElem? (i := 41) (by decide +kernel)) rfl)⟩
theorem mlX7_128 : xlV RX7 128 MX7_repairs := ⟨(xt_in (List.mem_of_getElem? (i := 904) (by decide +kernel)) rfl), (xt_in (List.mem_of_getElem? (i := 906) (by decide +kernel)) rfl), (xt_in (List.mem_of_getElem? (i := 40) (by decide +kernel)) rfl)⟩
theorem mlX7_131 : xlV RX7 131 MX7_peerSet := ⟨(xt_in (List.mem_of_getElem? (i := 924) (by decide +kernel)) rfl), (xt_in (List.mem_of_getElem? (i := 926) (by decide +kernel)) rfl), (xt_in (List.mem_of_getElem? (i := 42) (by decide +kernel)) rfl)⟩
theorem mlX7_134 : xlS RX7 134 MX7_count1 := ⟨(xt_in (List.mem_of_getElem? (i := 928) (by decide +kernel)) rfl), (xt_in (List.mem_of_getElem? (i := 929) (by decide +kernel)) rfl)⟩
theorem mlX7_137 : xlV RX7 137 MX7_isHurt := ⟨(xt_in (List.mem_of_getElem? (i := 935) (by decide +kernel)) rfl), (xt_in (List.mem_of_getElem? (i := 937) (by decide +kernel)) rfl), (xt_in (List.mem_of_getElem? (i := 44) (by decide +kernel)) rfl)⟩
theorem mlX7_140 : xlV RX7 140 MX7_isBorne := ⟨(xt_in (List.mem_of_getElem? (i := 931) (by decide +kernel)) rfl), (xt_in (List.mem_of_getElem? (i := 933) (by decide +kernel)) rfl), (xt_in (List.mem_of_getElem? (i := 43) (by decide +kernel)) rfl)⟩
theorem mlX7_143 : xlS RX7 143 MX7_puts := ⟨(xt_in (List.mem_of_getElem? (i := 947) (by decide +kernel)) rfl), (xt_in (List.mem_of_getElem? (i := 948) (by decide +kernel)) rfl)⟩
theorem mlX7_147 : xlV RX7 147 MX7_canGo := ⟨(xt_in (List.mem_of_getElem? (i := 950) (by decide +kernel)) rfl), (xt_in (List.mem_of_getElem? (i := 952) (by decide +kernel)) rfl), (xt_in (List.mem_of_getElem? (i := 45) (by decide +kernel)) rfl)⟩
theorem mlL_9 : xlI RL 9 MX6_init := ⟨(xt_in (List.mem_of_getElem? (i := 61) (by decide +kernel)) rfl), (xt_in (List.mem_of_getElem? (i := 62) (by decide +kernel)) rfl), by decide +kernel, rfl⟩
theorem mlL_12 : xlI RL 12 MX7_init := ⟨(xt_in (List.mem_of_getElem? (i := 697) (by decide +kernel)) rfl), (xt_in (List.mem_of_getElem? (i := 698) (by decide +kernel)) rfl), by decide +kernel, rfl⟩
theorem mlL_13 : xlV RL 13 MX6_join := ⟨(xt_in (List.mem_of_getElem? (i := 208) (by decide +kernel)) rfl), (xt_in (List.mem_of_getElem? (i := 209) (by decide +kernel)) rfl), (xt_in (List.mem_of_getElem? (i := 210) (by decide +kernel)) rfl)⟩
theorem mlL_17 : xlV RL 17 MX7_join := ⟨(xt_in (List.mem_of_getElem? (i := 720) (by decide +kernel)) rfl), (xt_in (List.mem_of_getElem? (i := 721) (by decide +kernel)) rfl), (xt_in (List.mem_of_getElem? (i := 722) (by decide +kernel)) rfl)⟩
theorem mlL_18 : xlV RL 18 MX6_leave := ⟨(xt_in (List.mem_of_getElem? (i := 255) (by decide +kernel)) rfl), (xt_in (List.mem_of_getElem? (i := 256) (by decide +kernel)) rfl), (xt_in (List.mem_of_getElem? (i := 257) (by decide +kernel)) rfl)⟩
theorem mlL_21 : xlV RL 21 MX7_leave := ⟨(xt_in (List.mem_of_getElem? (i := 735) (by decide +kernel)) rfl), (xt_in (List.mem_of_getElem? (i := 736) (by decide +kernel)) rfl), (xt_in (List.mem_of_getElem? (i := 737) (by decide +kernel)) rfl)⟩
theorem mlL_22 : xlV RL 22 MX6_crash := ⟨(xt_in (List.mem_of_getElem? (i := 341) (by decide +kernel)) rfl), (xt_in (List.mem_of_getElem? (i := 342) (by decide +kernel)) rfl), (xt_in (List.mem_of_getElem? (i := 343) (by decide +kernel)) rfl)⟩
theorem mlL_25 : xlV RL 25 MX7_crash := ⟨(xt_in (List.mem_of_getElem? (i := 789) (by decide +kernel)) rfl), (xt_in (List.mem_of_getElem? (i := 790) (by decide +kernel)) rfl), (xt_in (List.mem_of_getElem? (i := 791) (by decide +kernel)) rfl)⟩
theorem mlL_26 : xlV RL 26 MX6_setOnline := ⟨(xt_in (List.mem_of_getElem? (i := 361) (by decide +kernel)) rfl), (xt_in (List.mem_of_getElem? (i := 362) (by decide +kernel)) rfl), (xt_in (List.mem_of_getElem? (i := 363) (by decide +kernel)) rfl)⟩
theorem mlL_30 : xlV RL 30 MX7_setOnline := ⟨(xt_in (List.mem_of_getElem? (i := 797) (by decide +kernel)) rfl), (xt_in (List.mem_of_getElem? (i := 798) (by decide +kernel)) rfl), (xt_in (List.mem_of_getElem? (i := 799) (by decide +kernel)) rfl)⟩
theorem mlL_31 : xlV RL 31 MX6_pay := ⟨(xt_in (List.mem_of_getElem? (i := 365) (by decide +kernel)) rfl), (xt_in (List.mem_of_getElem? (i := 366) (by decide +kernel)) rfl), (xt_in (List.mem_of_getElem? (i := 367) (by decide +kernel)) rfl)⟩
theorem mlL_35 : xlV RL 35 MX7_pay := ⟨(xt_in (List.mem_of_getElem? (i := 801) (by decide +kernel)) rfl), (xt_in (List.mem_of_getElem? (i := 802) (by decide +kernel)) rfl), (xt_in (List.mem_of_getElem? (i := 803) (by decide +kernel)) rfl)⟩
theorem mlL_36 : xlV RL 36 MX6_peerInfo := ⟨(xt_in (List.mem_of_getElem? (i := 379) (by decide +kernel)) rfl), (xt_in (List.mem_of_getElem? (i := 380) (by decide +kernel)) rfl), (xt_in (List.mem_of_getElem? (i := 381) (by decide +kernel)) rfl)⟩
theorem mlL_39 : xlV RL 39 MX7_peerInfo := ⟨(xt_in (List.mem_of_getElem? (i := 805) (by decide +kernel)) rfl), (xt_in (List.mem_of_getElem? (i := 806) (by decide +kernel)) rfl), (xt_in (List.mem_of_getElem? (i := 807) (by decide +kernel)) rfl)⟩
theorem mlL_40 : xlV RL 40 MX6_balance := ⟨(xt_in (List.mem_of_getElem? (i := 390) (by decide +kernel)) rfl), (xt_in (List.mem_of_getElem? (i := 391) (by decide +kernel)) rfl), (xt_in (List.mem_of_getElem? (i := 392) (by decide +kernel)) rfl)⟩
theorem mlL_43 : xlV RL 43 MX7_balance := ⟨(xt_in (List.mem_of_getElem? (i := 809) (by decide +kernel)) rfl), (xt_in (List.mem_of_getElem? (i := 810) (by decide +kernel)) rfl), (xt_in (List.mem_of_getElem? (i := 811) (by decide +kernel)) rfl)⟩
theorem mlL_44 : xlV RL 44 MX6_word := ⟨(xt_in (List.mem_of_getElem? (i := 394) (by decide +kernel)) rfl), (xt_in (List.mem_of_getElem? (i := 395) (by decide +kernel)) rfl), (xt_in (List.mem_of_getElem? (i := 396) (by decide +kernel)) rfl)⟩
theorem mlL_47 : xlV RL 47 MX7_word := ⟨(xt_in (List.mem_of_getElem? (i := 813) (by decide +kernel)) rfl), (xt_in (List.mem_of_getElem? (i := 814) (by decide +kernel)) rfl), (xt_in (List.mem_of_getElem? (i := 815) (by decide +kernel)) rfl)⟩
theorem mlL_48 : xlV RL 48 MX6_store := ⟨(xt_in (List.mem_of_getElem? (i := 402) (by decide +kernel)) rfl), (xt_in (List.mem_of_getElem? (i := 403) (by decide +kernel)) rfl), (xt_in (List.mem_of_getElem? (i := 404) (by decide +kernel)) rfl)⟩
theorem mlL_51 : xlV RL 51 MX7_store := ⟨(xt_in (List.mem_of_getElem? (i := 817) (by decide +kernel)) rfl), (xt_in (List.mem_of_getElem? (i := 818) (by decide +kernel)) rfl), (xt_in (List.mem_of_getElem? (i := 819) (by decide +kernel)) rfl)⟩
theorem mlL_52 : xlV RL 52 MX6_delete := ⟨(xt_in (List.mem_of_getElem? (i := 426) (by decide +kernel)) rfl), (xt_in (List.mem_of_getElem? (i := 427) (by decide +kernel)) rfl), (xt_in (List.mem_of_getElem? (i := 428) (by decide +kernel)) rfl)⟩
theorem mlL_55 : xlV RL 55 MX7_delete := ⟨(xt_in (List.mem_of_getElem? (i := 825) (by decide +kernel)) rfl), (xt_in (List.mem_of_getElem? (i := 826) (by decide +kernel)) rfl), (xt_in (List.mem_of_getElem? (i := 827) (by decide +kernel)) rfl)⟩
theorem mlL_56 : xlV RL 56 MX6_fileInfo := ⟨(xt_in (List.mem_of_getElem? (i := 436) (by decide +kernel)) rfl), (xt_in (List.mem_of_getElem? (i := 437) (by decide +kernel)) rfl), (xt_in (List.mem_of_getElem? (i := 438) (by decide +kernel)) rfl)⟩
theorem mlL_59 : xlV RL 59 MX7_fileInfo := ⟨(xt_in (List.mem_of_getElem? (i := 829) (by decide +kernel)) rfl), (xt_in (List.mem_of_getElem? (i := 830) (by decide +kernel)) rfl), (xt_in (List.mem_of_getElem? (i := 831) (by decide +kernel)) rfl)⟩
theorem mlL_60 : xlV RL 60 MX6_fragment := ⟨(xt_in (List.mem_of_getElem? (i := 473) (by decide +kernel)) rfl), (xt_in (List.mem_of_getElem? (i := 474) (by decide +kernel)) rfl), (xt_in (List.mem_of_getElem? (i := 475) (by decide +kernel)) rfl)⟩
theorem mlL_63 : xlV RL 63 MX7_fragment := ⟨(xt_in (List.mem_of_getElem? (i := 849) (by decide +kernel)) rfl), (xt_in (List.mem_of_getElem? (i := 850) (by decide +kernel)) rfl), (xt_in (List.mem_of_getElem? (i := 851) (by decide +kernel)) rfl)⟩
theorem mlL_64 : xlV RL 64 MX6_read := ⟨(xt_in (List.mem_of_getElem? (i := 491) (by decide +kernel)) rfl), (xt_in (List.mem_of_getElem? (i := 492) (by decide +kernel)) rfl), (xt_in (List.mem_of_getElem? (i := 493) (by decide +kernel)) rfl)⟩
theorem mlL_67 : xlV RL 67 MX7_read := ⟨(xt_in (List.mem_of_getElem? (i := 868) (by decide +kernel)) rfl), (xt_in (List.mem_of_getElem? (i := 869) (by decide +kernel)) rfl), (xt_in (List.mem_of_getElem? (i := 870) (by decide +kernel)) rfl)⟩
theorem mlL_68 : xlV RL 68 MX6_decode := ⟨(xt_in (List.mem_of_getElem? (i := 502) (by decide +kernel)) rfl), (xt_in (List.mem_of_getElem? (i := 503) (by decide +kernel)) rfl), (xt_in (List.mem_of_getElem? (i := 504) (by decide +kernel)) rfl)⟩
theorem mlL_71 : xlV RL 71 MX7_decode := ⟨(xt_in (List.mem_of_getElem? (i := 872) (by decide +kernel)) rfl), (xt_in (List.mem_of_getElem? (i := 873) (by decide +kernel)) rfl), (xt_in (List.mem_of_getElem? (i := 874) (by decide +kernel)) rfl)⟩
theorem mlL_72 : xlV RL 72 MX6_spoil := ⟨(xt_in (List.mem_of_getElem? (i := 551) (by decide +kernel)) rfl), (xt_in (List.mem_of_getElem? (i := 552) (by decide +kernel)) rfl), (xt_in (List.mem_of_getElem? (i := 553) (by decide +kernel)) rfl)⟩
theorem mlL_75 : xlV RL 75 MX7_spoil := ⟨(xt_in (List.mem_of_getElem? (i := 880) (by decide +kernel)) rfl), (xt_in (List.mem_of_getElem? (i := 881) (by decide +kernel)) rfl), (xt_in (List.mem_of_getElem? (i := 882) (by decide +kernel)) rfl)⟩
theorem mlL_76 : xlV RL 76 MX6_audit := ⟨(xt_in (List.mem_of_getElem? (i := 560) (by decide +kernel)) rfl), (xt_in (List.mem_of_getElem? (i := 561) (by decide +kernel)) rfl), (xt_in (List.mem_of_getElem? (i := 562) (by decide +kernel)) rfl)⟩
theorem mlL_79 : xlV RL 79 MX7_audit := ⟨(xt_in (List.mem_of_getElem? (i := 884) (by decide +kernel)) rfl), (xt_in (List.mem_of_getElem? (i := 885) (by decide +kernel)) rfl), (xt_in (List.mem_of_getElem? (i := 886) (by decide +kernel)) rfl)⟩
theorem mlL_80 : xlV RL 80 MX6_passingSeeds := ⟨(xt_in (List.mem_of_getElem? (i := 589) (by decide +kernel)) rfl), (xt_in (List.mem_of_getElem? (i := 590) (by decide +kernel)) rfl), (xt_in (List.mem_of_getElem? (i := 591) (by decide +kernel)) rfl)⟩
theorem mlL_83 : xlV RL 83 MX7_passingSeeds := ⟨(xt_in (List.mem_of_getElem? (i := 896) (by decide +kernel)) rfl), (xt_in (List.mem_of_getElem? (i := 897) (by decide +kernel)) rfl), (xt_in (List.mem_of_getElem? (i := 898) (by decide +kernel)) rfl)⟩
theorem mlL_84 : xlV RL 84 MX6_repair := ⟨(xt_in (List.mem_of_getElem? (i := 593) (by decide +kernel)) rfl), (xt_in (List.mem_of_getElem? (i := 594) (by decide +kernel)) rfl), (xt_in (List.mem_of_getElem? (i := 595) (by decide +kernel)) rfl)⟩
theorem mlL_87 : xlV RL 87 MX7_repair := ⟨(xt_in (List.mem_of_getElem? (i := 900) (by decide +kernel)) rfl), (xt_in (List.mem_of_getElem? (i := 901) (by decide +kernel)) rfl), (xt_in (List.mem_of_getElem? (i := 902) (by decide +kernel)) rfl)⟩
theorem mlL_88 : xlV RL 88 MX6_repairAll := ⟨(xt_in (List.mem_of_getElem? (i := 609) (by decide +kernel)) rfl), (xt_in (List.mem_of_getElem? (i := 610) (by decide +kernel)) rfl), (xt_in (List.mem_of_getElem? (i := 611) (by decide +kernel)) rfl)⟩
theorem mlL_91 : xlV RL 91 MX7_repairAll := ⟨(xt_in (List.mem_of_getElem? (i := 912) (by decide +kernel)) rfl), (xt_in (List.mem_of_getElem? (i := 913) (by decide +kernel)) rfl), (xt_in (List.mem_of_getElem? (i := 914) (by decide +kernel)) rfl)⟩
theorem mlL_92 : xlV RL 92 MX6_undo := ⟨(xt_in (List.mem_of_getElem? (i := 613) (by decide +kernel)) rfl), (xt_in (List.mem_of_getElem? (i := 614) (by decide +kernel)) rfl), (xt_in (List.mem_of_getElem? (i := 615) (by decide +kernel)) rfl)⟩
theorem mlL_96 : xlV RL 96 MX7_undo := ⟨(xt_in (List.mem_of_getElem? (i := 916) (by decide +kernel)) rfl), (xt_in (List.mem_of_getElem? (i := 917) (by decide +kernel)) rfl), (xt_in (List.mem_of_getElem? (i := 918) (by decide +kernel)) rfl)⟩
theorem mlL_97 : xlV RL 97 MX6_tolerance := ⟨(xt_in (List.mem_of_getElem? (i := 621) (by decide +kernel)) rfl), (xt_in (List.mem_of_getElem? (i := 622) (by decide +kernel)) rfl), (xt_in (List.mem_of_getElem? (i := 623) (by decide +kernel)) rfl)⟩
theorem mlL_100 : xlV RL 100 MX7_tolerance := ⟨(xt_in (List.mem_of_getElem? (i := 920) (by decide +kernel)) rfl), (xt_in (List.mem_of_getElem? (i := 921) (by decide +kernel)) rfl), (xt_in (List.mem_of_getElem? (i := 922) (by decide +kernel)) rfl)⟩
theorem mlL_101 : xlV RL 101 MX6_endangered := ⟨(xt_in (List.mem_of_getElem? (i := 640) (by decide +kernel)) rfl), (xt_in (List.mem_of_getElem? (i := 641) (by decide +kernel)) rfl), (xt_in (List.mem_of_getElem? (i := 642) (by decide +kernel)) rfl)⟩
theorem mlL_104 : xlV RL 104 MX7_endangered := ⟨(xt_in (List.mem_of_getElem? (i := 939) (by decide +kernel)) rfl), (xt_in (List.mem_of_getElem? (i := 940) (by decide +kernel)) rfl), (xt_in (List.mem_of_getElem? (i := 941) (by decide +kernel)) rfl)⟩
theorem mlL_105 : xlV RL 105 MX6_leavers := ⟨(xt_in (List.mem_of_getElem? (i := 649) (by decide +kernel)) rfl), (xt_in (List.mem_of_getElem? (i := 650) (by decide +kernel)) rfl), (xt_in (List.mem_of_getElem? (i := 651) (by decide +kernel)) rfl)⟩
theorem mlL_108 : xlV RL 108 MX7_leavers := ⟨(xt_in (List.mem_of_getElem? (i := 943) (by decide +kernel)) rfl), (xt_in (List.mem_of_getElem? (i := 944) (by decide +kernel)) rfl), (xt_in (List.mem_of_getElem? (i := 945) (by decide +kernel)) rfl)⟩
theorem mlL_109 : xlV RL 109 MX6_count := ⟨(xt_in (List.mem_of_getElem? (i := 658) (by decide +kernel)) rfl), (xt_in (List.mem_of_getElem? (i := 659) (by decide +kernel)) rfl), (xt_in (List.mem_of_getElem? (i := 660) (by decide +kernel)) rfl)⟩
theorem mlL_112 : xlV RL 112 MX7_count := ⟨(xt_in (List.mem_of_getElem? (i := 954) (by decide +kernel)) rfl), (xt_in (List.mem_of_getElem? (i := 955) (by decide +kernel)) rfl), (xt_in (List.mem_of_getElem? (i := 956) (by decide +kernel)) rfl)⟩
theorem clL_7 : Cond.classLink RL 7 "PeerStorage" ∈ xt := (xt_in (List.mem_of_getElem? (i := 59) (by decide +kernel)) rfl)
theorem clX6_9 : Cond.classLink RX6 9 "PeerStorage$State" ∈ xt := (xt_in (List.mem_of_getElem? (i := 67) (by decide +kernel)) rfl)
theorem clX5_9 : Cond.classLink RX5 9 "PeerStorage$Peers" ∈ xt := (xt_in (List.mem_of_getElem? (i := 73) (by decide +kernel)) rfl)
theorem clX5_18 : Cond.classLink RX5 18 "PeerStorage$Files" ∈ xt := (xt_in (List.mem_of_getElem? (i := 99) (by decide +kernel)) rfl)
theorem clX6_16 : Cond.classLink RX6 16 "PeerStorage$History" ∈ xt := (xt_in (List.mem_of_getElem? (i := 145) (by decide +kernel)) rfl)
theorem clX3_9 : Cond.classLink RX3 9 "PeerStorage$State" ∈ xt := (xt_in (List.mem_of_getElem? (i := 151) (by decide +kernel)) rfl)
theorem clX6_23 : Cond.classLink RX6 23 "PeerStorage$Challenge" ∈ xt := (xt_in (List.mem_of_getElem? (i := 162) (by decide +kernel)) rfl)
theorem clX6_30 : Cond.classLink RX6 30 "PeerStorage$Decoder" ∈ xt := (xt_in (List.mem_of_getElem? (i := 176) (by decide +kernel)) rfl)
theorem clL_10 : Cond.classLink RL 10 "PeerStorageModel" ∈ xt := (xt_in (List.mem_of_getElem? (i := 695) (by decide +kernel)) rfl)
theorem w_oi1 : Cond.instanceMethod Lib.objectInit ∈ xt := (xt_in (List.mem_of_getElem? (i := 65) (by decide +kernel)) rfl)
theorem w_oi2 : Cond.code Lib.objectInit ⟨#[0xb1]⟩ 1 none ∈ xt := (xt_in (List.mem_of_getElem? (i := 66) (by decide +kernel)) rfl)
theorem w_max1 : Cond.static Lib.Math.max.name ∈ xt := (xt_in (List.mem_of_getElem? (i := 693) (by decide +kernel)) rfl)
theorem w_max3 : Cond.code Lib.Math.max.name Lib.Math.max.code 2 (some .int) ∈ xt := (xt_in (List.mem_of_getElem? (i := 694) (by decide +kernel)) rfl)
theorem w_min1 : Cond.static Lib.Math.min.name ∈ xt := (xt_in (List.mem_of_getElem? (i := 240) (by decide +kernel)) rfl)
theorem w_min3 : Cond.code Lib.Math.min.name Lib.Math.min.code 2 (some .int) ∈ xt := (xt_in (List.mem_of_getElem? (i := 241) (by decide +kernel)) rfl)
theorem w_math : Cond.initialized "java/lang/Math" ∈ xt := (xt_in (List.mem_of_getElem? (i := 56) (by decide +kernel)) rfl)
theorem w_sys : Cond.initialized "java/lang/System" ∈ xt := (xt_in (List.mem_of_getElem? (i := 57) (by decide +kernel)) rfl)
theorem w_cp1 : Cond.native arraycopyName ∈ xt := (xt_in (List.mem_of_getElem? (i := 244) (by decide +kernel)) rfl)
theorem w_cp2 : Cond.static arraycopyName ∈ xt := (xt_in (List.mem_of_getElem? (i := 243) (by decide +kernel)) rfl)
theorem w_ia : Cond.arrayClass .int ∈ xt := (xt_in (List.mem_of_getElem? (i := 98) (by decide +kernel)) rfl)
theorem w_c265 : Cond.constant RJ6 265 (1431655765) ∈ xt := (xt_in (List.mem_of_getElem? (i := 513) (by decide +kernel)) rfl)
theorem w_c266 : Cond.constant RJ6 266 (858993459) ∈ xt := (xt_in (List.mem_of_getElem? (i := 514) (by decide +kernel)) rfl)
theorem w_c267 : Cond.constant RJ6 267 (252645135) ∈ xt := (xt_in (List.mem_of_getElem? (i := 515) (by decide +kernel)) rfl)
