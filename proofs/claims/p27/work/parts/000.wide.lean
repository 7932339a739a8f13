/-- names a row of the library's wide part first of all: the round turns wide here, not behind an hour of parts -/
theorem zz_wide : @Jvm.Free.Multi.fill = @Jvm.Free.Multi.fill := rfl
