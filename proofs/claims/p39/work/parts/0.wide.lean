/-- a name of the wide library in the first part: so the narrow reading ends at once -/
theorem wide_first : @Jvm.Free.Multi.outerC = @Jvm.Free.Multi.outerC := rfl
